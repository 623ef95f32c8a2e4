set_option maxHeartbeats 4000000 in
set_option maxRecDepth 100000 in
theorem x_die (l : Launch) (D : va_G) (cy : Nat → ClassId) (K0 : Kp) (L0 : List Nat) (M0 : Hp) (sz : Nat) (xa : Nat) (x0 : Nat) (x1 : Nat) (x2 : Nat) (x3 : Nat) (x4 : Nat) (x5 : Nat) (x6 : Nat) (x7 : Int32) (x8 : Nat) (x9 : Int32) (x10 : Int32) (k1 : Int32) (k2 : Int32) (k3 : Int32) (k4 : Int32) (Bo : Nat → Nat × Nat) (T : Int) (PK : Nat → Int32) (PT : Nat → Int32) (SX : Nat → Nat → Int) (SY : Nat → Nat → Nat → Int32) (hW : WOK cy K0 L0 M0) (i0 : isk K0 L0 x0 17 8) (b1 : x1 ≤ 8) (i2 : isk K0 L0 x2 19 40) (b3 : x3 ≤ 40) (i4 : isk K0 L0 x4 7 0) (i5 : isk K0 L0 x5 5 0) (i6 : isk K0 L0 x6 60 24) (i8 : isk K0 L0 x8 73 25) (hC : CX Bo K0 L0 x0 x1 T x3 PK PT SX SY M0) (hSV : ∀ k, k < x1 → SV (SX k) (SY k)) (hHI : ∀ k, k < x1 → HI (SX k) (SY k)) (hT : (0 ≤ T ∧ T ≤ 900000)) (hPX : PX x0 x1 x2 x3 PK PT M0) : Met l yX11_die (wsM yX11_die cX11_die 9 (some .int)) ({ frames := 3, cells := 1, slots := 16, locals := 62 }) (va_Pc [.ref xa, .int k1, .int k2, .int k3, .int k4] (PG D cy [(xa, (b11_1 x0 (nI x1) x2 (nI x3) x4 x5 x6 x7 x8 x9 x10))] L0 M0 sz)) (va_Qi (fun (r : Int32) (u : Kp × List Nat × Hp) => ext K0 L0 u.1 u.2.1 ∧ WOK cy u.1 u.2.1 u.2.2 ∧ fr K0 L0 [2, 9, 61, 62] M0 u.2.2 ∧ fT 2 K0 L0 [9, 15] M0 u.2.2 ∧ fT 9 K0 L0 [5, 6, 7, 8] M0 u.2.2 ∧ ((r = anDi x1 x3 PK SX SY k1 k2 k3 k4))) (fun u t => ∃ (w9 : Int32), (∃ B9, CX B9 u.1 u.2.1 x0 x1 (T + 1) x3 PK PT (sxDi x1 x3 PK SX SY k1 k2 k3 k4) (syDi x1 x3 PK SX SY k1 k2 k3 k4) u.2.2) ∧ PQ D [(xa, (b11_1 x0 (nI x1) x2 (nI x3) x4 x5 x6 x7 x8 w9 (-1)))] u.2.1 u.2.2 (va_A ([(xa, (b11_1 x0 (nI x1) x2 (nI x3) x4 x5 x6 x7 x8 x9 x10))] ++ va_pl L0 M0) sz) t) (va_A ([(xa, (b11_1 x0 (nI x1) x2 (nI x3) x4 x5 x6 x7 x8 x9 x10))] ++ va_pl L0 M0) sz)) 1 16 (va_A ([(xa, (b11_1 x0 (nI x1) x2 (nI x3) x4 x5 x6 x7 x8 x9 x10))] ++ va_pl L0 M0) sz) := by
  refine Met.ofW (cc := cX11_die) (maxL := 9) (ret := (some .int)) (by decide) rfl ?_
  intro p e s m args below meth c s₁ B hml hv
  obtain ⟨rfl, hsz, hP, hK, hD0, hN⟩ := hv
  have hx := B.exec
  have hb := B.bytes
  have hr := B.returns
  have hts := atoms_spec (ws := (wsM yX11_die cX11_die 9 (some .int))) B.pre
  have hg : ∀ w ∈ lw_good, w.before _ s = true := fun w h => hts w (List.mem_cons_of_mem _ h)
  have hown : s.vm.findClass RX11 = some m.cls := findClass_of_methodNamed B.named
  have hlocks := B.notSynchronized
  subst hsz
  have hD := hD0.self (sz := s.heap.size)
  generalize hAe : va_A ([(xa, (b11_1 x0 (nI x1) x2 (nI x3) x4 x5 x6 x7 x8 x9 x10))] ++ va_pl L0 M0) s.heap.size = A at hD ⊢
  have hA : ∀ q : Nat, s.heap.size ≤ q → A q := fun q h => by rw [← hAe]; exact Or.inr h
  have hS : va_S A s.heap s.heap [] := va_S.rf
  have hl := lv_entry ([.ref xa, .int k1, .int k2, .int k3, .int k4]) (n := 9) (Nat.le_of_ble_eq_true rfl)
  rw [lg_entry_eq]
  generalize (lg_sl ([.ref xa, .int k1, .int k2, .int k3, .int k4]) ++ List.replicate (9 - (lg_sl ([.ref xa, .int k1, .int k2, .int k3, .int k4])).length) Slot.unset).toArray = ls at hl ⊢
  refine W.nameQ (fun Q hQ => ?_)
  refine W.nameR (fun R hR => ?_)
  have hRf : 3 ≤ R.frames := by rw [hR]; exact Nat.le_of_ble_eq_true rfl
  have hRl : 62 ≤ R.locals := by rw [hR]; exact Nat.le_of_ble_eq_true rfl
  have hRc : 1 ≤ R.cells := by rw [hR]; exact Nat.le_of_ble_eq_true rfl
  have hRs : 16 ≤ R.slots := by rw [hR]; exact Nat.le_of_ble_eq_true rfl
  have hW00 := hW
  have i000 := i0
  have i200 := i2
  have i400 := i4
  have i500 := i5
  have i600 := i6
  have i800 := i8
  have hC00 := hC
  have hPX00 := hPX
  obtain ⟨K, L, M, hX0, hF, hT2, hT9, hW, hP, hD, i0, i2, i4, i5, i6, i8, hC, hPX, hMe, hKe, hLe⟩ : ∃ (K : Kp) (L : List Nat) (M : Hp), ext K0 L0 K L ∧ fr K0 L0 [2, 9, 61, 62] M0 M ∧ fT 2 K0 L0 [9, 15] M0 M ∧ fT 9 K0 L0 [5, 6, 7, 8] M0 M ∧ WOK cy K L M ∧ va_P D vwCl ([(xa, (b11_1 x0 (nI x1) x2 (nI x3) x4 x5 x6 x7 x8 x9 x10))] ++ va_pl L M) s.heap ∧ va_D A ([(xa, (b11_1 x0 (nI x1) x2 (nI x3) x4 x5 x6 x7 x8 x9 x10))] ++ va_pl L M) ∧ isk K L x0 17 8 ∧ isk K L x2 19 40 ∧ isk K L x4 7 0 ∧ isk K L x5 5 0 ∧ isk K L x6 60 24 ∧ isk K L x8 73 25 ∧ CX Bo K L x0 x1 T x3 PK PT SX SY M ∧ PX x0 x1 x2 x3 PK PT M ∧ M = M0 ∧ K = K0 ∧ L = L0 := ⟨K0, L0, M0, ext.rf, fr.rf, fT.rf, fT.rf, hW, hP, hD, i0, i2, i4, i5, i6, i8, hC, hPX, rfl, rfl, rfl⟩
  have hl : lv_has ls 9 [(0, .ref xa), (1, .int k1), (2, .int k2), (3, .int k3), (4, .int k4)] := hl
  have hp4 : ∀ q, isk K L q 4 0 → isk K0 L0 q 4 0 := by rw [hKe, hLe]; exact fun q iq => iq
  refine lv_aload_n hx hb dX11_die_0 rfl (lv_at hl 0 rfl) ?_
  refine lv_iload_n hx hb dX11_die_1 rfl (lv_at hl 1 rfl) ?_
  have hPc : va_P D vwCl ([(xa, (b11_1 x0 (nI x1) x2 (nI x3) x4 x5 x6 x7 x8 x9 x10))] ++ va_pl L M) s.heap := hP
  have hDc : va_D A ([(xa, (b11_1 x0 (nI x1) x2 (nI x3) x4 x5 x6 x7 x8 x9 x10))] ++ va_pl L M) := hD
  have hFc : ∀ q, va_A ([(xa, (b11_1 x0 (nI x1) x2 (nI x3) x4 x5 x6 x7 x8 x9 x10))] ++ va_pl L M) s.heap.size q → A q := pg_free hDc hS hA
  refine va_callq (va_runV (As := [.int k1]) (rest := []) ⟨hx, hb, hml, hown, hg⟩ (e_houseAt l D cy K L M s.heap.size xa x0 x1 x2 x3 x4 x5 x6 x7 x8 x9 x10 k1 Bo T PK PT SX SY  hW i0 b1 i2 b3 i4 i5 i6 i8 hC) (cwV 1 hg (gV wd_340 wd_341 wd_342 wd_3 wd_343) rfl rfl rfl (by decide +kernel) ⟨(Nat.le_trans (Nat.le_of_ble_eq_true rfl) hRf), (Nat.le_trans (Nat.le_of_ble_eq_true rfl) hRl)⟩) ⟨PG.blind, va_recv hK hP (ci := 11) (q0 := 0) rfl rfl, fun U hU hW => ⟨rfl, PG.at hPc hK hDc hN hU hW⟩⟩ rfl rfl hl.1 rfl (lv_room (Nat.le_of_ble_eq_true rfl)) dX11_die_2 ⟨(Nat.le_trans (Nat.le_of_ble_eq_true rfl) hRc), (Nat.le_trans (Nat.le_of_ble_eq_true rfl) hRs)⟩) hS (fun q _ h => hFc q h) hFc (fun r_2 M_3 t H_1 locs ht hvm hw hB hz1 hk1 hS => ?_)
  have hp_4 := hw
  obtain ⟨hP1, hD1⟩ := hB
  rw [ht] at hP1
  have hP : va_P D vwCl ([(xa, (b11_1 x0 (nI x1) x2 (nI x3) x4 x5 x6 x7 x8 x9 x10))] ++ va_pl L M) H_1 := hP1
  have hD : va_D A ([(xa, (b11_1 x0 (nI x1) x2 (nI x3) x4 x5 x6 x7 x8 x9 x10))] ++ va_pl L M) := hD1.mono hFc
  obtain ⟨hp_4, hqx⟩ := hp_4
  rcases r_2 with _ | b_5
  · have hz := rfl (a := 0)
    have hqh := hqx
    refine lv_astoreN (lv' := [(5, .null), (0, .ref xa), (1, .int k1), (2, .int k2), (3, .int k3), (4, .int k4)]) hx hb dX11_die_5 hl (by decide) rfl (fun ls hl => ?_)
    refine lv_aload_n hx hb dX11_die_7 rfl (lv_at hl 1 rfl) ?_
    refine lv_iload hx hb dX11_die_8 (lv_at hl 5 rfl) ?_
    have hPc : va_P D vwCl ([(xa, (b11_1 x0 (nI x1) x2 (nI x3) x4 x5 x6 x7 x8 x9 x10))] ++ va_pl L M) H_1 := hP
    have hDc : va_D A ([(xa, (b11_1 x0 (nI x1) x2 (nI x3) x4 x5 x6 x7 x8 x9 x10))] ++ va_pl L M) := hD
    have hFc : ∀ q, va_A ([(xa, (b11_1 x0 (nI x1) x2 (nI x3) x4 x5 x6 x7 x8 x9 x10))] ++ va_pl L M) H_1.size q → A q := pg_free hDc hS hA
    refine va_callq (va_runV (As := [.int k4]) (rest := []) ⟨hx, hb, hml, hown, hg⟩ (e_partnerAt l D cy K L M H_1.size xa x0 x1 x2 x3 x4 x5 x6 x7 x8 x9 x10 k4 PK PT  hW i0 b1 i2 b3 i4 i5 i6 i8 hPX) (cwV 1 hg (gV wd_553 wd_554 wd_555 wd_3 wd_556) rfl rfl rfl (by decide +kernel) ⟨(Nat.le_trans (Nat.le_of_ble_eq_true rfl) hRf), (Nat.le_trans (Nat.le_of_ble_eq_true rfl) hRl)⟩) ⟨PG.blind, va_recv hK hP (ci := 11) (q0 := 0) rfl rfl, fun U hU hW => ⟨rfl, PG.at hPc hK hDc hN hU hW⟩⟩ rfl rfl hl.1 rfl (lv_room (Nat.le_of_ble_eq_true rfl)) dX11_die_10 ⟨(Nat.le_trans (Nat.le_of_ble_eq_true rfl) hRc), (Nat.le_trans (Nat.le_of_ble_eq_true rfl) hRs)⟩) hS (fun q _ h => hFc q h) hFc (fun r_7 M_8 t H_6 locs ht hvm hw hB hz1 hk1 hS => ?_)
    have hp_9 := hw
    obtain ⟨hP1, hD1⟩ := hB
    rw [ht] at hP1
    have hP : va_P D vwCl ([(xa, (b11_1 x0 (nI x1) x2 (nI x3) x4 x5 x6 x7 x8 x9 x10))] ++ va_pl L M) H_6 := hP1
    have hD : va_D A ([(xa, (b11_1 x0 (nI x1) x2 (nI x3) x4 x5 x6 x7 x8 x9 x10))] ++ va_pl L M) := hD1.mono hFc
    obtain ⟨hp_9, hqx⟩ := hp_9
    rcases r_7 with _ | b_10
    · have hz := rfl (a := 0)
      have hqp := hqx
      refine lv_astoreN (lv' := [(6, .null), (5, .null), (0, .ref xa), (1, .int k1), (2, .int k2), (3, .int k3), (4, .int k4)]) hx hb dX11_die_13 hl (by decide) rfl (fun ls hl => ?_)
      refine lv_aloadN hx hb dX11_die_15 (lv_at hl 1 rfl) ?_
      refine lv_ifnullN (tgt := 32) hx hb dX11_die_17 (by decide) ?_
      refine lv_aload_n hx hb dX11_die_32 rfl (lv_at hl 2 rfl) ?_
      refine lv_iconst (v := 1) hx hb dX11_die_33 (by decide) ?_
      have hPc := hP.sub (ws' := [(xa, (b11_1 x0 (nI x1) x2 (nI x3) x4 x5 x6 x7 x8 x9 x10))]) [0] rfl
      have hDc := hD.sub (ws' := [(xa, (b11_1 x0 (nI x1) x2 (nI x3) x4 x5 x6 x7 x8 x9 x10))]) [0] (by decide) rfl
      have hKc := hK.sub (tys' := []) [] rfl
      have hFc := va_free (wc := [(xa, (b11_1 x0 (nI x1) x2 (nI x3) x4 x5 x6 x7 x8 x9 x10))]) hD hS hA [0] rfl
      refine va_calli (va_runV (As := [.int 1]) (rest := []) ⟨hx, hb, hml, hown, hg⟩ (k_refuse l D H_6.size xa x0 (nI x1) x2 (nI x3) x4 x5 x6 x7 x8 x9 x10 1) (cwV 1 hg (gV wd_344 wd_345 wd_346 wd_3 wd_347) rfl rfl rfl (by decide +kernel) ⟨(Nat.le_trans (Nat.le_of_ble_eq_true rfl) hRf), (Nat.le_trans (Nat.le_of_ble_eq_true rfl) hRl)⟩) ⟨Pr.blind, va_recv hK hP (ci := 11) (q0 := 0) rfl rfl, fun U hU hW => ⟨rfl, Pr.at hPc hKc hDc hN hU hW⟩⟩ rfl rfl hl.1 rfl (lv_room (Nat.le_of_ble_eq_true rfl)) dX11_die_34 ⟨(Nat.le_trans (Nat.le_of_ble_eq_true rfl) hRc), (Nat.le_trans (Nat.le_of_ble_eq_true rfl) hRs)⟩) hS (fun q _ h => hFc q h) hFc (fun r_12 M_13 t H_11 locs ht hvm hw hB hz1 hk1 hS => ?_)
      have hp_14 := hw
      obtain ⟨hP1, hK1, hD1⟩ := hB
      rw [ht] at hP1
      obtain ⟨hP, hD⟩ := va_joinQ (X := [(xa, (b11_1 x0 (nI x1) x2 (nI x3) x4 x5 x6 x7 x8 x9 x10))]) (cx := [(xa, (b11_1 x0 (nI x1) x2 (nI x3) x4 x5 x6 x7 x8 x9 x10))]) (wr := []) (w1 := [(xa, (b11_1 x0 (nI x1) x2 (nI x3) x4 x5 x6 x7 x8 1 (-1)))]) (pl := va_pl L M) hP hD [0] [] rfl rfl (by decide) (by decide) hk1 hFc hP1 hD1
      have hP : va_P D vwCl ([(xa, (b11_1 x0 (nI x1) x2 (nI x3) x4 x5 x6 x7 x8 1 (-1)))] ++ va_pl L M) H_11 := hP
      have hD : va_D A ([(xa, (b11_1 x0 (nI x1) x2 (nI x3) x4 x5 x6 x7 x8 1 (-1)))] ++ va_pl L M) := hD
      have hq := Eq.symm hp_14
      subst hq
      refine W.widen (k := 1) (n := 16) (Nat.le_of_ble_eq_true rfl) (Nat.le_of_ble_eq_true rfl) ?_
      have hnh := hqh.2 rfl
      have hnp := hqp.2 rfl
      have hno : ¬ okDi x1 x3 PK SX SY k1 k2 k3 k4 := fun q9 => by obtain ⟨⟨a1, a2, a3, a4⟩, ⟨a5, a6⟩, a7, a8, ⟨a9, a10⟩, a11, a12⟩ := q9; first | omega | exact hho a7
      rw [hQ]
      exact W.iret (v := (-1)) hx hb hr (fun t ht hW9 => ⟨⟨(-1), (K, L, M), rfl, ⟨hX0, hW, hF, hT2, hT9, (by unfold anDi; rw [if_neg hno])⟩, ⟨1, (⟨_, by unfold sxDi syDi; rw [if_neg hno, if_neg hno]; exact hC.mono⟩), by rw [ht]; exact hP, hD⟩⟩, hS.F ht⟩) hS.2.2 dX11_die_37
    · have hb_15 := hp_9 b_10 rfl
      have hqp := hqx
      refine lv_astore (lv' := [(6, .ref b_10), (5, .null), (0, .ref xa), (1, .int k1), (2, .int k2), (3, .int k3), (4, .int k4)]) hx hb dX11_die_13 hl (by decide) rfl (fun ls hl => ?_)
      obtain ⟨hpr9, hpq9⟩ := hqp.1 b_10 rfl
      have hcp : ((k4 : Int32).toNatClampNeg : Int) = (k4 : Int32).toInt := clT (by omega)
      obtain ⟨q9, hpa, hpb, hpc, hpd, hpe⟩ := hPX (k4 : Int32).toNatClampNeg (by omega)
      have hq9e : q9 = b_10 := Option.some.inj (hpa.symm.trans hpq9)
      rw [hq9e] at hpb hpc hpd hpe
      have hpb2 : cV 4 M b_10 0 = k4 := by rw [hpb]; exact (i32_of (by omega) (by omega)).symm
      have hpci : (PK k4.toNatClampNeg).toInt = (cV 4 M b_10 1).toInt := by rw [hpc]
      refine lv_aloadN hx hb dX11_die_15 (lv_at hl 1 rfl) ?_
      refine lv_ifnullN (tgt := 32) hx hb dX11_die_17 (by decide) ?_
      refine lv_aload_n hx hb dX11_die_32 rfl (lv_at hl 2 rfl) ?_
      refine lv_iconst (v := 1) hx hb dX11_die_33 (by decide) ?_
      have hPc := hP.sub (ws' := [(xa, (b11_1 x0 (nI x1) x2 (nI x3) x4 x5 x6 x7 x8 x9 x10))]) [0] rfl
      have hDc := hD.sub (ws' := [(xa, (b11_1 x0 (nI x1) x2 (nI x3) x4 x5 x6 x7 x8 x9 x10))]) [0] (by decide) rfl
      have hKc := hK.sub (tys' := []) [] rfl
      have hFc := va_free (wc := [(xa, (b11_1 x0 (nI x1) x2 (nI x3) x4 x5 x6 x7 x8 x9 x10))]) hD hS hA [0] rfl
      refine va_calli (va_runV (As := [.int 1]) (rest := []) ⟨hx, hb, hml, hown, hg⟩ (k_refuse l D H_6.size xa x0 (nI x1) x2 (nI x3) x4 x5 x6 x7 x8 x9 x10 1) (cwV 1 hg (gV wd_344 wd_345 wd_346 wd_3 wd_347) rfl rfl rfl (by decide +kernel) ⟨(Nat.le_trans (Nat.le_of_ble_eq_true rfl) hRf), (Nat.le_trans (Nat.le_of_ble_eq_true rfl) hRl)⟩) ⟨Pr.blind, va_recv hK hP (ci := 11) (q0 := 0) rfl rfl, fun U hU hW => ⟨rfl, Pr.at hPc hKc hDc hN hU hW⟩⟩ rfl rfl hl.1 rfl (lv_room (Nat.le_of_ble_eq_true rfl)) dX11_die_34 ⟨(Nat.le_trans (Nat.le_of_ble_eq_true rfl) hRc), (Nat.le_trans (Nat.le_of_ble_eq_true rfl) hRs)⟩) hS (fun q _ h => hFc q h) hFc (fun r_17 M_18 t H_16 locs ht hvm hw hB hz1 hk1 hS => ?_)
      have hp_19 := hw
      obtain ⟨hP1, hK1, hD1⟩ := hB
      rw [ht] at hP1
      obtain ⟨hP, hD⟩ := va_joinQ (X := [(xa, (b11_1 x0 (nI x1) x2 (nI x3) x4 x5 x6 x7 x8 x9 x10))]) (cx := [(xa, (b11_1 x0 (nI x1) x2 (nI x3) x4 x5 x6 x7 x8 x9 x10))]) (wr := []) (w1 := [(xa, (b11_1 x0 (nI x1) x2 (nI x3) x4 x5 x6 x7 x8 1 (-1)))]) (pl := va_pl L M) hP hD [0] [] rfl rfl (by decide) (by decide) hk1 hFc hP1 hD1
      have hP : va_P D vwCl ([(xa, (b11_1 x0 (nI x1) x2 (nI x3) x4 x5 x6 x7 x8 1 (-1)))] ++ va_pl L M) H_16 := hP
      have hD : va_D A ([(xa, (b11_1 x0 (nI x1) x2 (nI x3) x4 x5 x6 x7 x8 1 (-1)))] ++ va_pl L M) := hD
      have hq := Eq.symm hp_19
      subst hq
      refine W.widen (k := 1) (n := 16) (Nat.le_of_ble_eq_true rfl) (Nat.le_of_ble_eq_true rfl) ?_
      have hnh := hqh.2 rfl
      have hno : ¬ okDi x1 x3 PK SX SY k1 k2 k3 k4 := fun q9 => by obtain ⟨⟨a1, a2, a3, a4⟩, ⟨a5, a6⟩, a7, a8, ⟨a9, a10⟩, a11, a12⟩ := q9; first | omega | exact hho a7
      rw [hQ]
      exact W.iret (v := (-1)) hx hb hr (fun t ht hW9 => ⟨⟨(-1), (K, L, M), rfl, ⟨hX0, hW, hF, hT2, hT9, (by unfold anDi; rw [if_neg hno])⟩, ⟨1, (⟨_, by unfold sxDi syDi; rw [if_neg hno, if_neg hno]; exact hC.mono⟩), by rw [ht]; exact hP, hD⟩⟩, hS.F ht⟩) hS.2.2 dX11_die_37
  · have hb_20 := hp_4 b_5 rfl
    have hqh := hqx
    refine lv_astore (lv' := [(5, .ref b_5), (0, .ref xa), (1, .int k1), (2, .int k2), (3, .int k3), (4, .int k4)]) hx hb dX11_die_5 hl (by decide) rfl (fun ls hl => ?_)
    obtain ⟨hr9, hb9⟩ := hqh.1 b_5 rfl
    have hck : ((k1 : Int32).toNatClampNeg : Int) = (k1 : Int32).toInt := clT (by omega)
    have hkn : (k1 : Int32).toNatClampNeg < x1 := by omega
    have hSM := hC.at hkn hb9
    have hSVk := hSV (k1 : Int32).toNatClampNeg hkn
    have hHIk := hHI (k1 : Int32).toNatClampNeg hkn
    have hV : VC Bo K L M0 M b_5 (cfx M b_5) (cax M b_5) := by rw [← hMe]; exact VC.rf b_5 hC.oc
    have hb90 : RFc (M0 x0) (k1 : Int32).toNatClampNeg = some b_5 := by rw [← hMe]; exact hb9
    obtain ⟨v21_0, v21_1, v21_2, v21_3, v21_4, v21_5, v21_6, v21_7, v21_8, v21_9, v21_10, v21_11, v21_12, v21_13, v21_14, v21_15, v21_16, v21_17, v21_18, v21_19, hM21, h21_3, h21_4, h21_5, h21_6, h21_7, h21_8, h21_9, h21_10, h21_11, h21_12, h21_13, h21_16, h21_17, h21_18, h21_19⟩ := hW.open_2 hb_20
    have hA_22 : (cV 2 M b_5 0).toInt = (v21_0 : Int32).toInt := by rw [cV_of hM21 rfl]
    have hA_23 : (cV 2 M b_5 1).toInt = (v21_1 : Int32).toInt := by rw [cV_of hM21 rfl]
    have hA_24 : (cV 2 M b_5 2).toInt = (v21_2 : Int32).toInt := by rw [cV_of hM21 rfl]
    have hA_25 : (cV 2 M b_5 4).toInt = ((v21_4 : Nat) : Int) := by rw [cV_of hM21 rfl]; exact nI_toInt (by omega)
    have hA_26 : (cV 2 M b_5 5).toInt = ((v21_5 : Nat) : Int) := by rw [cV_of hM21 rfl]; exact nI_toInt (by omega)
    have hA_27 : (cV 2 M b_5 9).toInt = ((v21_9 : Nat) : Int) := by rw [cV_of hM21 rfl]; exact nI_toInt (by omega)
    have hA_28 : (cV 2 M b_5 11).toInt = ((v21_11 : Nat) : Int) := by rw [cV_of hM21 rfl]; exact nI_toInt (by omega)
    have hA_29 : (cV 2 M b_5 15).toInt = (v21_15 : Int32).toInt := by rw [cV_of hM21 rfl]
    have hq0 : (cV 2 M b_5 1).toInt = SX (k1 : Int32).toNatClampNeg 0 := hSM.x0
    have hq1 : (cV 2 M b_5 2).toInt = SX (k1 : Int32).toNatClampNeg 1 := hSM.x1
    have hq10 : (cV 2 M b_5 9).toInt = SX (k1 : Int32).toNatClampNeg 10 := hSM.x10
    have hq11 : (cV 2 M b_5 11).toInt = SX (k1 : Int32).toNatClampNeg 11 := hSM.x11
    have hq12 : (cV 2 M b_5 4).toInt = SX (k1 : Int32).toNatClampNeg 12 := hSM.x12
    have hq13 : (cV 2 M b_5 5).toInt = SX (k1 : Int32).toNatClampNeg 13 := hSM.x13
    have hq14 : (cV 1 M v21_16 3).toInt = SX (k1 : Int32).toNatClampNeg 14 := by have h9 := hSM.x14; rw [← h9]; show _ = (cV 1 M (rA 2 M b_5 16) 3).toInt; rw [rA_of (j := 16) hM21 rfl]
    have hq15 : (cV 1 M v21_17 3).toInt = SX (k1 : Int32).toNatClampNeg 15 := by have h9 := hSM.x15; rw [← h9]; show _ = (cV 1 M (rA 2 M b_5 17) 3).toInt; rw [rA_of (j := 17) hM21 rfl]
    have hq16 : (cV 10 M v21_18 2).toInt = SX (k1 : Int32).toNatClampNeg 16 := by have h9 := hSM.x16; rw [← h9]; show _ = (cV 10 M (rA 2 M b_5 18) 2).toInt; rw [rA_of (j := 18) hM21 rfl]
    have hq19 : (cV 10 M v21_18 1).toInt = cfx M b_5 19 := by show _ = (cV 10 M (rA 2 M b_5 18) 1).toInt; rw [rA_of (j := 18) hM21 rfl]
    have hun := hSM.un
    have hl16 : (ALc (M (rA 1 M v21_16 1)) : Int) = 120 := by have h9 := hC.oc.l16 hW hb_20; rw [rA_of (j := 16) hM21 rfl] at h9; omega
    have hl17 : (ALc (M (rA 1 M v21_17 1)) : Int) = 20 := by have h9 := hC.oc.l17 hW hb_20; rw [rA_of (j := 17) hM21 rfl] at h9; omega
    have hbd0 := hSVk.b0
    have hbd1 := hSVk.b1
    have hbd10 := hSVk.b10
    have hbd11 := hSVk.b11
    have hbd12 := hSVk.b12
    have hbd13 := hSVk.b13
    have hbd14 := hSVk.b14
    have hbd15 := hSVk.b15
    have hbd16 := hSVk.b16
    have hqx14 : cfx M b_5 14 = SX (k1 : Int32).toNatClampNeg 14 := hSM.x14
    have hqx15 : cfx M b_5 15 = SX (k1 : Int32).toNatClampNeg 15 := hSM.x15
    have hqx16 : cfx M b_5 16 = SX (k1 : Int32).toNatClampNeg 16 := hSM.x16
    refine lv_aload_n hx hb dX11_die_7 rfl (lv_at hl 1 rfl) ?_
    refine lv_iload hx hb dX11_die_8 (lv_at hl 5 rfl) ?_
    have hPc : va_P D vwCl ([(xa, (b11_1 x0 (nI x1) x2 (nI x3) x4 x5 x6 x7 x8 x9 x10))] ++ va_pl L M) H_1 := hP
    have hDc : va_D A ([(xa, (b11_1 x0 (nI x1) x2 (nI x3) x4 x5 x6 x7 x8 x9 x10))] ++ va_pl L M) := hD
    have hFc : ∀ q, va_A ([(xa, (b11_1 x0 (nI x1) x2 (nI x3) x4 x5 x6 x7 x8 x9 x10))] ++ va_pl L M) H_1.size q → A q := pg_free hDc hS hA
    refine va_callq (va_runV (As := [.int k4]) (rest := []) ⟨hx, hb, hml, hown, hg⟩ (e_partnerAt l D cy K L M H_1.size xa x0 x1 x2 x3 x4 x5 x6 x7 x8 x9 x10 k4 PK PT  hW i0 b1 i2 b3 i4 i5 i6 i8 hPX) (cwV 1 hg (gV wd_553 wd_554 wd_555 wd_3 wd_556) rfl rfl rfl (by decide +kernel) ⟨(Nat.le_trans (Nat.le_of_ble_eq_true rfl) hRf), (Nat.le_trans (Nat.le_of_ble_eq_true rfl) hRl)⟩) ⟨PG.blind, va_recv hK hP (ci := 11) (q0 := 0) rfl rfl, fun U hU hW => ⟨rfl, PG.at hPc hK hDc hN hU hW⟩⟩ rfl rfl hl.1 rfl (lv_room (Nat.le_of_ble_eq_true rfl)) dX11_die_10 ⟨(Nat.le_trans (Nat.le_of_ble_eq_true rfl) hRc), (Nat.le_trans (Nat.le_of_ble_eq_true rfl) hRs)⟩) hS (fun q _ h => hFc q h) hFc (fun r_31 M_32 t H_30 locs ht hvm hw hB hz1 hk1 hS => ?_)
    have hp_33 := hw
    obtain ⟨hP1, hD1⟩ := hB
    rw [ht] at hP1
    have hP : va_P D vwCl ([(xa, (b11_1 x0 (nI x1) x2 (nI x3) x4 x5 x6 x7 x8 x9 x10))] ++ va_pl L M) H_30 := hP1
    have hD : va_D A ([(xa, (b11_1 x0 (nI x1) x2 (nI x3) x4 x5 x6 x7 x8 x9 x10))] ++ va_pl L M) := hD1.mono hFc
    obtain ⟨hp_33, hqx⟩ := hp_33
    rcases r_31 with _ | b_34
    · have hz := rfl (a := 0)
      have hqp := hqx
      refine lv_astoreN (lv' := [(6, .null), (5, .ref b_5), (0, .ref xa), (1, .int k1), (2, .int k2), (3, .int k3), (4, .int k4)]) hx hb dX11_die_13 hl (by decide) rfl (fun ls hl => ?_)
      refine lv_aload hx hb dX11_die_15 (lv_at hl 1 rfl) ?_
      refine lv_ifnull hx hb dX11_die_17 ?_
      refine lv_aloadN hx hb dX11_die_20 (lv_at hl 0 rfl) ?_
      refine lv_ifnullN (tgt := 32) hx hb dX11_die_22 (by decide) ?_
      refine lv_aload_n hx hb dX11_die_32 rfl (lv_at hl 2 rfl) ?_
      refine lv_iconst (v := 1) hx hb dX11_die_33 (by decide) ?_
      have hPc := hP.sub (ws' := [(xa, (b11_1 x0 (nI x1) x2 (nI x3) x4 x5 x6 x7 x8 x9 x10))]) [0] rfl
      have hDc := hD.sub (ws' := [(xa, (b11_1 x0 (nI x1) x2 (nI x3) x4 x5 x6 x7 x8 x9 x10))]) [0] (by decide) rfl
      have hKc := hK.sub (tys' := []) [] rfl
      have hFc := va_free (wc := [(xa, (b11_1 x0 (nI x1) x2 (nI x3) x4 x5 x6 x7 x8 x9 x10))]) hD hS hA [0] rfl
      refine va_calli (va_runV (As := [.int 1]) (rest := []) ⟨hx, hb, hml, hown, hg⟩ (k_refuse l D H_30.size xa x0 (nI x1) x2 (nI x3) x4 x5 x6 x7 x8 x9 x10 1) (cwV 1 hg (gV wd_344 wd_345 wd_346 wd_3 wd_347) rfl rfl rfl (by decide +kernel) ⟨(Nat.le_trans (Nat.le_of_ble_eq_true rfl) hRf), (Nat.le_trans (Nat.le_of_ble_eq_true rfl) hRl)⟩) ⟨Pr.blind, va_recv hK hP (ci := 11) (q0 := 0) rfl rfl, fun U hU hW => ⟨rfl, Pr.at hPc hKc hDc hN hU hW⟩⟩ rfl rfl hl.1 rfl (lv_room (Nat.le_of_ble_eq_true rfl)) dX11_die_34 ⟨(Nat.le_trans (Nat.le_of_ble_eq_true rfl) hRc), (Nat.le_trans (Nat.le_of_ble_eq_true rfl) hRs)⟩) hS (fun q _ h => hFc q h) hFc (fun r_36 M_37 t H_35 locs ht hvm hw hB hz1 hk1 hS => ?_)
      have hp_38 := hw
      obtain ⟨hP1, hK1, hD1⟩ := hB
      rw [ht] at hP1
      obtain ⟨hP, hD⟩ := va_joinQ (X := [(xa, (b11_1 x0 (nI x1) x2 (nI x3) x4 x5 x6 x7 x8 x9 x10))]) (cx := [(xa, (b11_1 x0 (nI x1) x2 (nI x3) x4 x5 x6 x7 x8 x9 x10))]) (wr := []) (w1 := [(xa, (b11_1 x0 (nI x1) x2 (nI x3) x4 x5 x6 x7 x8 1 (-1)))]) (pl := va_pl L M) hP hD [0] [] rfl rfl (by decide) (by decide) hk1 hFc hP1 hD1
      have hP : va_P D vwCl ([(xa, (b11_1 x0 (nI x1) x2 (nI x3) x4 x5 x6 x7 x8 1 (-1)))] ++ va_pl L M) H_35 := hP
      have hD : va_D A ([(xa, (b11_1 x0 (nI x1) x2 (nI x3) x4 x5 x6 x7 x8 1 (-1)))] ++ va_pl L M) := hD
      have hq := Eq.symm hp_38
      subst hq
      refine W.widen (k := 1) (n := 16) (Nat.le_of_ble_eq_true rfl) (Nat.le_of_ble_eq_true rfl) ?_
      have hnp := hqp.2 rfl
      have hno : ¬ okDi x1 x3 PK SX SY k1 k2 k3 k4 := fun q9 => by obtain ⟨⟨a1, a2, a3, a4⟩, ⟨a5, a6⟩, a7, a8, ⟨a9, a10⟩, a11, a12⟩ := q9; first | omega | exact hho a7
      rw [hQ]
      exact W.iret (v := (-1)) hx hb hr (fun t ht hW9 => ⟨⟨(-1), (K, L, M), rfl, ⟨hX0, hW, hF, hT2, hT9, (by unfold anDi; rw [if_neg hno])⟩, ⟨1, (⟨_, by unfold sxDi syDi; rw [if_neg hno, if_neg hno]; exact hC.mono⟩), by rw [ht]; exact hP, hD⟩⟩, hS.F ht⟩) hS.2.2 dX11_die_37
    · have hb_39 := hp_33 b_34 rfl
      have hqp := hqx
      refine lv_astore (lv' := [(6, .ref b_34), (5, .ref b_5), (0, .ref xa), (1, .int k1), (2, .int k2), (3, .int k3), (4, .int k4)]) hx hb dX11_die_13 hl (by decide) rfl (fun ls hl => ?_)
      obtain ⟨hpr9, hpq9⟩ := hqp.1 b_34 rfl
      have hcp : ((k4 : Int32).toNatClampNeg : Int) = (k4 : Int32).toInt := clT (by omega)
      obtain ⟨q9, hpa, hpb, hpc, hpd, hpe⟩ := hPX (k4 : Int32).toNatClampNeg (by omega)
      have hq9e : q9 = b_34 := Option.some.inj (hpa.symm.trans hpq9)
      rw [hq9e] at hpb hpc hpd hpe
      have hpb2 : cV 4 M b_34 0 = k4 := by rw [hpb]; exact (i32_of (by omega) (by omega)).symm
      have hpci : (PK k4.toNatClampNeg).toInt = (cV 4 M b_34 1).toInt := by rw [hpc]
      refine lv_aload hx hb dX11_die_15 (lv_at hl 1 rfl) ?_
      refine lv_ifnull hx hb dX11_die_17 ?_
      refine lv_aload hx hb dX11_die_20 (lv_at hl 0 rfl) ?_
      refine lv_ifnull hx hb dX11_die_22 ?_
      refine lv_iload_n hx hb dX11_die_25 rfl (lv_at hl 4 rfl) ?_
      have hPc : va_P D vwCl ([] ++ va_pl L M) H_30 := hP.part (cx := []) [] rfl
      have hDc : va_D A ([] ++ va_pl L M) := hD.part (cx := []) [] (by decide) rfl
      have hFc : ∀ q, va_A ([] ++ va_pl L M) H_30.size q → A q := pg_free hDc hS hA
      refine va_calli (va_runS (As := [.int k2]) (rest := []) ⟨hx, hb, hml, hown, hg⟩ (e_X11_isSeat l D cy K L M H_30.size k2  hW ) (va_cwS 1 hg (gS wd_348 wd_47 wd_3 wd_46) rfl rfl rfl (by decide +kernel) ⟨(Nat.le_trans (Nat.le_of_ble_eq_true rfl) hRf), (Nat.le_trans (Nat.le_of_ble_eq_true rfl) hRl)⟩) ⟨PG.blind, fun U hU hW => ⟨rfl, PG.at hPc hK hDc hN hU hW⟩⟩ rfl rfl hl.1 rfl (lv_room (Nat.le_of_ble_eq_true rfl)) dX11_die_26 ⟨(Nat.le_trans (Nat.le_of_ble_eq_true rfl) hRc), (Nat.le_trans (Nat.le_of_ble_eq_true rfl) hRs)⟩) hS (fun q _ h => hFc q h) hFc (fun r_41 M_42 t H_40 locs ht hvm hw hB hz1 hk1 hS => ?_)
      have hp_43 := hw
      obtain ⟨hP1, hD1⟩ := hB
      rw [ht] at hP1
      obtain ⟨hP, hD⟩ := va_joinP (X := [(xa, (b11_1 x0 (nI x1) x2 (nI x3) x4 x5 x6 x7 x8 x9 x10))]) (cx := []) (wr := [(xa, (b11_1 x0 (nI x1) x2 (nI x3) x4 x5 x6 x7 x8 x9 x10))]) (rx := []) (pl := va_pl L M) (pl1 := va_pl L M) hP hD [] [0] rfl rfl (by decide) (by decide) hk1 hFc hP1 hD1
      have hP : va_P D vwCl ([(xa, (b11_1 x0 (nI x1) x2 (nI x3) x4 x5 x6 x7 x8 x9 x10))] ++ va_pl L M) H_40 := hP
      have hD : va_D A ([(xa, (b11_1 x0 (nI x1) x2 (nI x3) x4 x5 x6 x7 x8 x9 x10))] ++ va_pl L M) := hD
      rcases hp_43 with ⟨rfl, c_44, c_45, c_46⟩ | ⟨rfl, c_47⟩
      · have hz := rfl (a := 0)
        refine lv_if_ne (tgt := 38) hx hb dX11_die_29 (by decide) (fun _ => ?_) (fun c_48 => absurd c_48 (by decide))
        refine lv_aload hx hb dX11_die_38 (lv_at hl 1 rfl) ?_
        refine lv_iload_n hx hb dX11_die_40 rfl (lv_at hl 4 rfl) ?_
        have hPc : va_P D vwCl ([] ++ va_pl L M) H_40 := hP.part (cx := []) [] rfl
        have hDc : va_D A ([] ++ va_pl L M) := hD.part (cx := []) [] (by decide) rfl
        have hFc : ∀ q, va_A ([] ++ va_pl L M) H_40.size q → A q := pg_free hDc hS hA
        refine va_callq (va_runV (As := [.int k2]) (rest := []) ⟨hx, hb, hml, hown, hg⟩ (e_sitting l D cy K L M H_40.size b_5 k2 Bo  hW hb_20 hV.2.2.2) (cwV 1 hg (gV wd_351 wd_352 wd_353 wd_57 wd_354) rfl rfl rfl (by decide +kernel) ⟨(Nat.le_trans (Nat.le_of_ble_eq_true rfl) hRf), (Nat.le_trans (Nat.le_of_ble_eq_true rfl) hRl)⟩) ⟨PG.blind, pg_recv hK hP hb_20.1 hM21 rfl, fun U hU hW => ⟨rfl, PG.at hPc hK hDc hN hU hW⟩⟩ rfl rfl hl.1 rfl (lv_room (Nat.le_of_ble_eq_true rfl)) dX11_die_41 ⟨(Nat.le_trans (Nat.le_of_ble_eq_true rfl) hRc), (Nat.le_trans (Nat.le_of_ble_eq_true rfl) hRs)⟩) hS (fun q _ h => hFc q h) hFc (fun r_50 M_51 t H_49 locs ht hvm hw hB hz1 hk1 hS => ?_)
        have hp_52 := hw
        obtain ⟨hP1, hD1⟩ := hB
        rw [ht] at hP1
        obtain ⟨hP, hD⟩ := va_joinP (X := [(xa, (b11_1 x0 (nI x1) x2 (nI x3) x4 x5 x6 x7 x8 x9 x10))]) (cx := []) (wr := [(xa, (b11_1 x0 (nI x1) x2 (nI x3) x4 x5 x6 x7 x8 x9 x10))]) (rx := []) (pl := va_pl L M) (pl1 := va_pl L M) hP hD [] [0] rfl rfl (by decide) (by decide) hk1 hFc hP1 hD1
        have hP : va_P D vwCl ([(xa, (b11_1 x0 (nI x1) x2 (nI x3) x4 x5 x6 x7 x8 x9 x10))] ++ va_pl L M) H_49 := hP
        have hD : va_D A ([(xa, (b11_1 x0 (nI x1) x2 (nI x3) x4 x5 x6 x7 x8 x9 x10))] ++ va_pl L M) := hD
        obtain ⟨hp_52, hqx⟩ := hp_52
        rcases r_50 with _ | b_53
        · have hz := rfl (a := 0)
          have hcs : ((k2 : Int32).toNatClampNeg : Int) = k2.toInt := clT (by omega)
          have hho : ¬ hold (SY k1.toNatClampNeg) k2.toNatClampNeg := by
            rcases hqx.2 rfl with q9 | q9 | ⟨i9, hi9, h51, h22⟩
            · exact absurd (by omega) q9
            · exact hSM.sitN (s := k2.toNatClampNeg) (by omega) q9
            · exact fun w9 => h22 ((hSM.hold1 (s := k2.toNatClampNeg) (by omega) (hSM.sitS (s := k2.toNatClampNeg) (by omega) h51) h51).2.mp w9)
          refine lv_astoreN (lv' := [(7, .null), (6, .ref b_34), (5, .ref b_5), (0, .ref xa), (1, .int k1), (2, .int k2), (3, .int k3), (4, .int k4)]) hx hb dX11_die_44 hl (by decide) rfl (fun ls hl => ?_)
          refine lv_aloadN hx hb dX11_die_46 (lv_at hl 0 rfl) ?_
          refine lv_ifnonnullN hx hb dX11_die_48 ?_
          refine lv_aload_n hx hb dX11_die_51 rfl (lv_at hl 3 rfl) ?_
          refine lv_iconst (v := 4) hx hb dX11_die_52 (by decide) ?_
          have hPc := hP.sub (ws' := [(xa, (b11_1 x0 (nI x1) x2 (nI x3) x4 x5 x6 x7 x8 x9 x10))]) [0] rfl
          have hDc := hD.sub (ws' := [(xa, (b11_1 x0 (nI x1) x2 (nI x3) x4 x5 x6 x7 x8 x9 x10))]) [0] (by decide) rfl
          have hKc := hK.sub (tys' := []) [] rfl
          have hFc := va_free (wc := [(xa, (b11_1 x0 (nI x1) x2 (nI x3) x4 x5 x6 x7 x8 x9 x10))]) hD hS hA [0] rfl
          refine va_calli (va_runV (As := [.int 4]) (rest := []) ⟨hx, hb, hml, hown, hg⟩ (k_refuse l D H_49.size xa x0 (nI x1) x2 (nI x3) x4 x5 x6 x7 x8 x9 x10 4) (cwV 1 hg (gV wd_344 wd_345 wd_346 wd_3 wd_347) rfl rfl rfl (by decide +kernel) ⟨(Nat.le_trans (Nat.le_of_ble_eq_true rfl) hRf), (Nat.le_trans (Nat.le_of_ble_eq_true rfl) hRl)⟩) ⟨Pr.blind, va_recv hK hP (ci := 11) (q0 := 0) rfl rfl, fun U hU hW => ⟨rfl, Pr.at hPc hKc hDc hN hU hW⟩⟩ rfl rfl hl.1 rfl (lv_room (Nat.le_of_ble_eq_true rfl)) dX11_die_53 ⟨(Nat.le_trans (Nat.le_of_ble_eq_true rfl) hRc), (Nat.le_trans (Nat.le_of_ble_eq_true rfl) hRs)⟩) hS (fun q _ h => hFc q h) hFc (fun r_55 M_56 t H_54 locs ht hvm hw hB hz1 hk1 hS => ?_)
          have hp_57 := hw
          obtain ⟨hP1, hK1, hD1⟩ := hB
          rw [ht] at hP1
          obtain ⟨hP, hD⟩ := va_joinQ (X := [(xa, (b11_1 x0 (nI x1) x2 (nI x3) x4 x5 x6 x7 x8 x9 x10))]) (cx := [(xa, (b11_1 x0 (nI x1) x2 (nI x3) x4 x5 x6 x7 x8 x9 x10))]) (wr := []) (w1 := [(xa, (b11_1 x0 (nI x1) x2 (nI x3) x4 x5 x6 x7 x8 4 (-1)))]) (pl := va_pl L M) hP hD [0] [] rfl rfl (by decide) (by decide) hk1 hFc hP1 hD1
          have hP : va_P D vwCl ([(xa, (b11_1 x0 (nI x1) x2 (nI x3) x4 x5 x6 x7 x8 4 (-1)))] ++ va_pl L M) H_54 := hP
          have hD : va_D A ([(xa, (b11_1 x0 (nI x1) x2 (nI x3) x4 x5 x6 x7 x8 4 (-1)))] ++ va_pl L M) := hD
          have hq := Eq.symm hp_57
          subst hq
          refine W.widen (k := 1) (n := 16) (Nat.le_of_ble_eq_true rfl) (Nat.le_of_ble_eq_true rfl) ?_
          have hI_58 : (0 : Int) ≤ (k2 : Int32).toInt := inltI rfl rfl c_45
          have hI_59 : (k2 : Int32).toInt < (6 : Int) := inleI rfl rfl c_46
          have hno : ¬ okDi x1 x3 PK SX SY k1 k2 k3 k4 := fun q9 => by obtain ⟨⟨a1, a2, a3, a4⟩, ⟨a5, a6⟩, a7, a8, ⟨a9, a10⟩, a11, a12⟩ := q9; first | omega | exact hho a7
          rw [hQ]
          exact W.iret (v := (-1)) hx hb hr (fun t ht hW9 => ⟨⟨(-1), (K, L, M), rfl, ⟨hX0, hW, hF, hT2, hT9, (by unfold anDi; rw [if_neg hno])⟩, ⟨4, (⟨_, by unfold sxDi syDi; rw [if_neg hno, if_neg hno]; exact hC.mono⟩), by rw [ht]; exact hP, hD⟩⟩, hS.F ht⟩) hS.2.2 dX11_die_56
        · have hb_60 := hp_52 b_53 rfl
          have hcs : ((k2 : Int32).toNatClampNeg : Int) = k2.toInt := clT (by omega)
          obtain ⟨_, i9, hi9, he9, h51, h22⟩ := hqx.1 _ rfl
          have h50 := hSM.sitS (s := k2.toNatClampNeg) (by omega) h51
          have hse := hSM.se k2.toNatClampNeg (by omega)
          have hh := hSM.hold1 (s := k2.toNatClampNeg) (by omega) h50 h51
          have hho : hold (SY k1.toNatClampNeg) k2.toNatClampNeg := hh.2.mpr h22
          have hsn : ((SY k1.toNatClampNeg 9 k2.toNatClampNeg).toInt - 1).toNat = i9 := by omega
          have hlt := lk_te he9 hi9
          have hte := hSM.te i9 (by omega)
          have hb21 : (SY k1.toNatClampNeg 21 ((SY k1.toNatClampNeg 9 k2.toNatClampNeg).toInt - 1).toNat).toInt = (cV 9 M b_53 3).toInt := by rw [hsn, ← hte.2.2.1, hlt.2.2.1]
          refine lv_astore (lv' := [(7, .ref b_53), (6, .ref b_34), (5, .ref b_5), (0, .ref xa), (1, .int k1), (2, .int k2), (3, .int k3), (4, .int k4)]) hx hb dX11_die_44 hl (by decide) rfl (fun ls hl => ?_)
          refine lv_aload hx hb dX11_die_46 (lv_at hl 0 rfl) ?_
          refine lv_ifnonnull (tgt := 57) hx hb dX11_die_48 (by decide) ?_
          refine lv_aload hx hb dX11_die_57 (lv_at hl 1 rfl) ?_
          obtain ⟨v61_0, v61_1, v61_2, v61_3, hM61, h61_3⟩ := hW.open_4 hb_39
          refine pg_get (D := D) (ci := 4) (v := .int v61_1) (C := RX4) (T := TX4) (N := 4) hx hb hg inG4 hown hK hP hb_39.1 hM61 rfl 1 (by decide) (hg _ wd_571) (fun _ h9 => h9) rfl dX11_die_59 ?_
          refine lv_iconst (v := 4) hx hb dX11_die_62 (by decide) ?_
          refine lv_icmp_eq (tgt := 72) hx hb dX11_die_63 (by decide) (fun c_62 => ?_) (fun c_62 => ?_)
          · have hz := rfl (a := 0)
            refine lv_aload hx hb dX11_die_72 (lv_at hl 2 rfl) ?_
            refine lv_iload_n hx hb dX11_die_74 rfl (lv_at hl 6 rfl) ?_
            have hPc : va_P D vwCl ([] ++ va_pl L M) H_49 := hP.part (cx := []) [] rfl
            have hDc : va_D A ([] ++ va_pl L M) := hD.part (cx := []) [] (by decide) rfl
            have hFc : ∀ q, va_A ([] ++ va_pl L M) H_49.size q → A q := pg_free hDc hS hA
            refine va_calli (va_runV (As := [.int k3]) (rest := []) ⟨hx, hb, hml, hown, hg⟩ (e_X2_isFree l D cy K L M H_49.size b_5 k3  hW hb_20) (cwV 1 hg (gV wd_361 wd_362 wd_363 wd_57 wd_364) rfl rfl rfl (by decide +kernel) ⟨(Nat.le_trans (Nat.le_of_ble_eq_true rfl) hRf), (Nat.le_trans (Nat.le_of_ble_eq_true rfl) hRl)⟩) ⟨PG.blind, pg_recv hK hP hb_20.1 hM21 rfl, fun U hU hW => ⟨rfl, PG.at hPc hK hDc hN hU hW⟩⟩ rfl rfl hl.1 rfl (lv_room (Nat.le_of_ble_eq_true rfl)) dX11_die_75 ⟨(Nat.le_trans (Nat.le_of_ble_eq_true rfl) hRc), (Nat.le_trans (Nat.le_of_ble_eq_true rfl) hRs)⟩) hS (fun q _ h => hFc q h) hFc (fun r_64 M_65 t H_63 locs ht hvm hw hB hz1 hk1 hS => ?_)
            have hp_66 := hw
            obtain ⟨hP1, hD1⟩ := hB
            rw [ht] at hP1
            obtain ⟨hP, hD⟩ := va_joinP (X := [(xa, (b11_1 x0 (nI x1) x2 (nI x3) x4 x5 x6 x7 x8 x9 x10))]) (cx := []) (wr := [(xa, (b11_1 x0 (nI x1) x2 (nI x3) x4 x5 x6 x7 x8 x9 x10))]) (rx := []) (pl := va_pl L M) (pl1 := va_pl L M) hP hD [] [0] rfl rfl (by decide) (by decide) hk1 hFc hP1 hD1
            have hP : va_P D vwCl ([(xa, (b11_1 x0 (nI x1) x2 (nI x3) x4 x5 x6 x7 x8 x9 x10))] ++ va_pl L M) H_63 := hP
            have hD : va_D A ([(xa, (b11_1 x0 (nI x1) x2 (nI x3) x4 x5 x6 x7 x8 x9 x10))] ++ va_pl L M) := hD
            rcases hp_66 with ⟨rfl, c_67, c_68, c_69⟩ | ⟨rfl, c_70⟩
            · have hz := rfl (a := 0)
              refine lv_if_eq (tgt := 90) hx hb dX11_die_78 (by decide) (fun c_71 => absurd c_71 (by decide)) (fun _ => ?_)
              refine lv_iload_n hx hb dX11_die_81 rfl (lv_at hl 6 rfl) ?_
              refine lv_aload hx hb dX11_die_82 (lv_at hl 0 rfl) ?_
              obtain ⟨v72_0, v72_1, v72_2, v72_3, v72_4, v72_5, v72_6, v72_7, v72_8, v72_9, v72_10, v72_11, v72_12, v72_13, v72_14, v72_15, hM72, h72_0, h72_1, h72_4, h72_8⟩ := hW.open_9 hb_60
              refine pg_get (D := D) (ci := 9) (v := .int v72_3) (C := RX9) (T := TX9) (N := 16) hx hb hg inG9 hown hK hP hb_60.1 hM72 rfl 3 (by decide) (hg _ wd_365) (fun _ h9 => h9) rfl dX11_die_84 ?_
              refine lv_icmp_gt (tgt := 96) hx hb dX11_die_87 (by decide) (fun c_73 => ?_) (fun c_73 => ?_)
              · have hz := rfl (a := 0)
                refine lv_aload hx hb dX11_die_96 (lv_at hl 2 rfl) ?_
                refine pg_get (D := D) (ci := 2) (v := .int (nI v21_9)) (C := RX2) (T := TX2) (N := 20) hx hb hg inG2 hown hK hP hb_20.1 hM21 rfl 9 (by decide) (hg _ wd_465) (fun _ h9 => h9) rfl dX11_die_98 ?_
                refine lv_bipush (v := 24) hx hb dX11_die_101 (by decide) ?_
                refine lv_icmp_lt (tgt := 113) hx hb dX11_die_103 (by decide) (fun c_74 => ?_) (fun c_74 => ?_)
                · have hz := rfl (a := 0)
                  have n_75 : v21_9 < 24 := (iLT (a := v21_9) (b := 24) (by omega) (by omega)).mp c_74
                  refine lv_aload hx hb dX11_die_113 (lv_at hl 0 rfl) ?_
                  refine lv_iload_n hx hb dX11_die_115 rfl (lv_at hl 6 rfl) ?_
                  refine lv_iconst (v := 1) hx hb dX11_die_116 (by decide) ?_
                  refine lv_iconst (v := 0) hx hb dX11_die_117 (by decide) ?_
                  have hPc : va_P D vwCl ([] ++ va_pl L M) H_63 := hP.part (cx := []) [] rfl
                  have hDc : va_D A ([] ++ va_pl L M) := hD.part (cx := []) [] (by decide) rfl
                  have hFc : ∀ q, va_A ([] ++ va_pl L M) H_63.size q → A q := pg_free hDc hS hA
                  have hI_76 : (0 : Int) ≤ (k2 : Int32).toInt := inltI rfl rfl c_45
                  have hI_77 : (k2 : Int32).toInt < (6 : Int) := inleI rfl rfl c_46
                  have hI_78 : (v61_1 : Int32).toInt = (4 : Int) := ieqI rfl rfl c_62
                  have hI_79 : (0 : Int) ≤ (k3 : Int32).toInt := inltI rfl rfl c_68
                  have hI_80 : (k3 : Int32).toInt ≤ (999 : Int) := inltI rfl rfl c_69
                  have hI_81 : (v72_3 : Int32).toInt < (k3 : Int32).toInt := iltI rfl rfl c_73
                  have hI_82 : ((v21_9 : Nat) : Int) < (24 : Int) := iltI (nI_toInt (by omega)) rfl c_74
                  have hA_83 : (cV 4 M b_34 0).toInt = (v61_0 : Int32).toInt := by rw [cV_of hM61 rfl]
                  have hA_84 : (cV 4 M b_34 1).toInt = (v61_1 : Int32).toInt := by rw [cV_of hM61 rfl]
                  have hA_85 : (cV 4 M b_34 2).toInt = (v61_2 : Int32).toInt := by rw [cV_of hM61 rfl]
                  have hA_86 : (cV 9 M b_53 0).toInt = ((v72_0 : Nat) : Int) := by rw [cV_of hM72 rfl]; exact nI_toInt (by omega)
                  have hA_87 : (cV 9 M b_53 2).toInt = (v72_2 : Int32).toInt := by rw [cV_of hM72 rfl]
                  have hA_88 : (cV 9 M b_53 3).toInt = (v72_3 : Int32).toInt := by rw [cV_of hM72 rfl]
                  have hA_89 : (cV 9 M b_53 4).toInt = (v72_4 : Int32).toInt := by rw [cV_of hM72 rfl]
                  have hA_90 : (cV 9 M b_53 5).toInt = (v72_5 : Int32).toInt := by rw [cV_of hM72 rfl]
                  have hA_91 : (cV 9 M b_53 6).toInt = (v72_6 : Int32).toInt := by rw [cV_of hM72 rfl]
                  have hA_92 : (cV 9 M b_53 7).toInt = (v72_7 : Int32).toInt := by rw [cV_of hM72 rfl]
                  refine va_callv (va_runV (As := [.int k3, .int 1, .int 0]) (rest := []) ⟨hx, hb, hml, hown, hg⟩ (e_finish l D cy K L M H_63.size b_53 k3 1 0 Bo M0 b_5 (cfx M b_5) (cax M b_5) i9  hW hb_60 hb_20 hV he9 hi9) (cwV 3 hg (gV wd_366 wd_367 wd_368 wd_52 wd_369) rfl rfl rfl (by decide +kernel) ⟨(Nat.le_trans (Nat.le_of_ble_eq_true rfl) hRf), (Nat.le_trans (Nat.le_of_ble_eq_true rfl) hRl)⟩) ⟨PG.blind, pg_recv hK hP hb_60.1 hM72 rfl, fun U hU hW => ⟨rfl, PG.at hPc hK hDc hN hU hW⟩⟩ rfl rfl hl.1 rfl (lv_room (Nat.le_of_ble_eq_true rfl)) dX11_die_118 ⟨(Nat.le_trans (Nat.le_of_ble_eq_true rfl) hRc), (Nat.le_trans (Nat.le_of_ble_eq_true rfl) hRs)⟩) hS (fun q _ h => hFc q h) hFc (fun M_95 t H_93 locs ht hvm hw hB hz1 hk1 hS => ?_)
                  have hWb := hW
                  obtain ⟨hW, hF2, gT9, hVP, hp_96⟩ := hw
                  obtain ⟨hP1, hD1⟩ := hB
                  rw [ht] at hP1
                  obtain ⟨hP, hD⟩ := va_joinP (X := [(xa, (b11_1 x0 (nI x1) x2 (nI x3) x4 x5 x6 x7 x8 x9 x10))]) (cx := []) (wr := [(xa, (b11_1 x0 (nI x1) x2 (nI x3) x4 x5 x6 x7 x8 x9 x10))]) (rx := []) (pl := va_pl L M) (pl1 := va_pl L M_95) hP hD [] [0] rfl rfl (by decide) (by decide) hk1 hFc hP1 hD1
                  have hP : va_P D vwCl ([(xa, (b11_1 x0 (nI x1) x2 (nI x3) x4 x5 x6 x7 x8 x9 x10))] ++ va_pl L M_95) H_93 := hP
                  have hD : va_D A ([(xa, (b11_1 x0 (nI x1) x2 (nI x3) x4 x5 x6 x7 x8 x9 x10))] ++ va_pl L M_95) := hD
                  have hM_97 : M_95 b_5 = (b2_2 v21_0 v21_1 v21_2 v21_3 (nI v21_4) (nI v21_5) v21_6 v21_7 v21_8 (nI v21_9) v21_10 (nI v21_11) v21_12 v21_13 v21_14 v21_15 v21_16 v21_17 v21_18 v21_19) := (hF2.at hb_20 (by decide)).trans hM21
                  have hM_98 : M_95 b_34 = .inr (4, [.int v61_0, .int v61_1, .int v61_2, va_rf v61_3]) := (hF2.at hb_39 (by decide)).trans hM61
                  have hF : fr K0 L0 [2, 9, 61, 62] M0 M_95 := hF.trX hX0 hF2 (by decide)
                  have hT2 : fT 2 K0 L0 [9, 15] M0 M_95 := hT2.frrX hX0 hF2 (by decide)
                  have hT9 : fT 9 K0 L0 [5, 6, 7, 8] M0 M_95 := hT9.trX hX0 gT9 (by decide)
                  have hV : VC Bo K L M0 M_95 b_5 (cfx M b_5) (va_up (va_up (va_up (cax M b_5) 22 (upd ((cax M b_5) 22) i9 k3)) 23 (upd ((cax M b_5) 23) i9 1)) 24 (upd ((cax M b_5) 24) i9 0)) := hVP
                  have hs_99 : RFc (M_95 (rA 2 M_95 b_5 8)) i9 = some b_53 := by rw [rA_c ((fr.cv hF2 (by decide)) _ hb_20 8 rfl), hF2.at (KH hWb hb_20).2.2.2.1 (by decide)]; exact he9
                  have hFj := hF2
                  have ip4j := hb_39
                  have ibj := hb_20
                  have hx10 : (cfx M b_5) 10 = SX k1.toNatClampNeg 10 := hSM.x10
                  have hro9 : 0 ≤ (cfx M b_5) 10 ∧ (cfx M b_5) 10 < 24 := by omega
                  have hnn9 : (va_up (va_up (va_up (cax M b_5) 22 (upd ((cax M b_5) 22) i9 k3)) 23 (upd ((cax M b_5) 23) i9 1)) 24 (upd ((cax M b_5) 24) i9 0)) 28 ((cfx M b_5) 10).toNat ≠ 1 := fun z9 => by have h7 := (hSM.tn ((cfx M b_5) 10).toNat (by omega)).mp z9; omega
                  have hin9 : i9 ≠ ((cfx M b_5) 10).toNat := by omega
                  refine lv_aload hx hb dX11_die_121 (lv_at hl 2 rfl) ?_
                  refine lv_aload hx hb dX11_die_123 (lv_at hl 1 rfl) ?_
                  refine lv_iload_n hx hb dX11_die_125 rfl (lv_at hl 5 rfl) ?_
                  refine lv_iload_n hx hb dX11_die_126 rfl (lv_at hl 6 rfl) ?_
                  refine lv_iconst (v := 0) hx hb dX11_die_127 (by decide) ?_
                  have hPc : va_P D vwCl ([] ++ va_pl L M_95) H_93 := hP.part (cx := []) [] rfl
                  have hDc : va_D A ([] ++ va_pl L M_95) := hD.part (cx := []) [] (by decide) rfl
                  have hFc : ∀ q, va_A ([] ++ va_pl L M_95) H_93.size q → A q := pg_free hDc hS hA
                  refine va_calli (va_runV (As := [.ref b_34, .int k2, .int k3, .int 0]) (rest := []) ⟨hx, hb, hml, hown, hg⟩ (e_addT_0 l D cy K L M_95 H_93.size b_5 b_34 k2 k3 Bo M0 (cfx M b_5) (va_up (va_up (va_up (cax M b_5) 22 (upd ((cax M b_5) 22) i9 k3)) 23 (upd ((cax M b_5) 23) i9 1)) 24 (upd ((cax M b_5) 24) i9 0))  hW hb_20 hb_39 hV hro9 c_44 hnn9) (cwV 4 hg (gV wd_562 wd_563 wd_564 wd_57 wd_565) rfl rfl rfl (by decide +kernel) ⟨(Nat.le_trans (Nat.le_of_ble_eq_true rfl) hRf), (Nat.le_trans (Nat.le_of_ble_eq_true rfl) hRl)⟩) ⟨PG.blind, pg_recv hK hP hb_20.1 hM_97 rfl, fun U hU hW => ⟨rfl, PG.at hPc hK hDc hN hU hW⟩⟩ rfl rfl hl.1 rfl (lv_room (Nat.le_of_ble_eq_true rfl)) dX11_die_128 ⟨(Nat.le_trans (Nat.le_of_ble_eq_true rfl) hRc), (Nat.le_trans (Nat.le_of_ble_eq_true rfl) hRs)⟩) hS (fun q _ h => hFc q h) hFc (fun r_101 M_102 t H_100 locs ht hvm hw hB hz1 hk1 hS => ?_)
                  have hWb := hW
                  obtain ⟨K9, L9, M_102m⟩ := M_102
                  dsimp only at hw hB
                  obtain ⟨hx9, hW, hF2, gT2, hp_103⟩ := hw
                  obtain ⟨hg_104, hg_105, hg_106, hP1, hD1⟩ := hB
                  rw [ht] at hP1
                  obtain ⟨hP, hD⟩ := va_joinP (X := [(xa, (b11_1 x0 (nI x1) x2 (nI x3) x4 x5 x6 x7 x8 x9 x10))]) (cx := []) (wr := [(xa, (b11_1 x0 (nI x1) x2 (nI x3) x4 x5 x6 x7 x8 x9 x10))]) (rx := []) (pl := va_pl L M_95) (pl1 := va_pl L9 M_102m) hP hD [] [0] rfl rfl (by decide) (by decide) hk1 hFc hP1 hD1
                  have hP : va_P D vwCl ([(xa, (b11_1 x0 (nI x1) x2 (nI x3) x4 x5 x6 x7 x8 x9 x10))] ++ va_pl L9 M_102m) H_100 := hP
                  have hD : va_D A ([(xa, (b11_1 x0 (nI x1) x2 (nI x3) x4 x5 x6 x7 x8 x9 x10))] ++ va_pl L9 M_102m) := hD
                  have hM_107 : M_102m b_34 = .inr (4, [.int v61_0, .int v61_1, .int v61_2, va_rf v61_3]) := (hF2.at hb_39 (by decide)).trans hM_98
                  have hF : fr K0 L0 [2, 9, 61, 62] M0 M_102m := hF.trX hX0 hF2 (by decide)
                  have hT2 : fT 2 K0 L0 [9, 15] M0 M_102m := hT2.trX hX0 gT2 (by decide)
                  have hT9 : fT 9 K0 L0 [5, 6, 7, 8] M0 M_102m := hT9.frrX hX0 hF2 (by decide)
                  have hX0 := hX0.tr hx9
                  obtain ⟨B_108, f_109, hf9, hV⟩ := hg_104
                  have hNW9 := hg_105
                  have hsl9 := hg_106
                  have hp4 : ∀ q, isk K9 L9 q 4 0 → isk K0 L0 q 4 0 := fun q iq => hp4 q (hNW9.2 q iq)
                  have hs_110 : RFc (M_102m (rA 2 M_102m b_5 8)) i9 = some b_53 := (hsl9 i9 hin9).trans hs_99
                  have i_111 := i0.ext hx9
                  have i_112 := i2.ext hx9
                  have i_113 := i4.ext hx9
                  have i_114 := i5.ext hx9
                  have i_115 := i6.ext hx9
                  have i_116 := i8.ext hx9
                  have i_117 := hb_20.ext hx9
                  have i_118 := hb_39.ext hx9
                  have i_119 := hb_60.ext hx9
                  have i_120 := h61_3.ext hx9
                  obtain ⟨K, L, hK9, hL9⟩ : ∃ (K : Kp) (L : List Nat), K = K9 ∧ L = L9 := ⟨_, _, rfl, rfl⟩
                  subst hK9
                  subst hL9
                  refine W.widen (k := 1) (n := 16) (Nat.le_of_ble_eq_true rfl) (Nat.le_of_ble_eq_true rfl) ?_
                  obtain rfl := hp_103
                  refine lv_istore (lv' := [(8, .int (nI ((cfx M b_5) 10).toNat)), (7, .ref b_53), (6, .ref b_34), (5, .ref b_5), (0, .ref xa), (1, .int k1), (2, .int k2), (3, .int k3), (4, .int k4)]) hx hb dX11_die_131 hl (by decide) rfl (fun ls hl => ?_)
                  refine lv_aload hx hb dX11_die_133 (lv_at hl 1 rfl) ?_
                  refine lv_aload hx hb dX11_die_135 (lv_at hl 3 rfl) ?_
                  refine lv_iload hx hb dX11_die_137 (lv_at hl 0 rfl) ?_
                  obtain ⟨v121_0, v121_1, v121_2, v121_3, v121_4, v121_5, v121_6, v121_7, v121_8, v121_9, v121_10, v121_11, v121_12, v121_13, v121_14, v121_15, v121_16, v121_17, v121_18, v121_19, hM121, h121_3, h121_4, h121_5, h121_6, h121_7, h121_8, h121_9, h121_10, h121_11, h121_12, h121_13, h121_16, h121_17, h121_18, h121_19⟩ := hW.open_2 i_117
                  have hPc : va_P D vwCl ([] ++ va_pl L M_102m) H_100 := hP.part (cx := []) [] rfl
                  have hDc : va_D A ([] ++ va_pl L M_102m) := hD.part (cx := []) [] (by decide) rfl
                  have hFc : ∀ q, va_A ([] ++ va_pl L M_102m) H_100.size q → A q := pg_free hDc hS hA
                  refine va_callq (va_runV (As := [.int (nI ((cfx M b_5) 10).toNat)]) (rest := [.ref b_53]) ⟨hx, hb, hml, hown, hg⟩ (e_X2_tenureAt l D cy K L M_102m H_100.size b_5 (nI ((cfx M b_5) 10).toNat)  hW i_117) (cwV 1 hg (gV wd_405 wd_55 wd_56 wd_57 wd_58) rfl rfl rfl (by decide +kernel) ⟨(Nat.le_trans (Nat.le_of_ble_eq_true rfl) hRf), (Nat.le_trans (Nat.le_of_ble_eq_true rfl) hRl)⟩) ⟨PG.blind, pg_recv hK hP i_117.1 hM121 rfl, fun U hU hW => ⟨rfl, PG.at hPc hK hDc hN hU hW⟩⟩ rfl rfl hl.1 rfl (lv_room (Nat.le_of_ble_eq_true rfl)) dX11_die_139 ⟨(Nat.le_trans (Nat.le_of_ble_eq_true rfl) hRc), (Nat.le_trans (Nat.le_of_ble_eq_true rfl) hRs)⟩) hS (fun q _ h => hFc q h) hFc (fun r_123 M_124 t H_122 locs ht hvm hw hB hz1 hk1 hS => ?_)
                  have hp_125 := hw
                  obtain ⟨hP1, hD1⟩ := hB
                  rw [ht] at hP1
                  obtain ⟨hP, hD⟩ := va_joinP (X := [(xa, (b11_1 x0 (nI x1) x2 (nI x3) x4 x5 x6 x7 x8 x9 x10))]) (cx := []) (wr := [(xa, (b11_1 x0 (nI x1) x2 (nI x3) x4 x5 x6 x7 x8 x9 x10))]) (rx := []) (pl := va_pl L M_102m) (pl1 := va_pl L M_102m) hP hD [] [0] rfl rfl (by decide) (by decide) hk1 hFc hP1 hD1
                  have hP : va_P D vwCl ([(xa, (b11_1 x0 (nI x1) x2 (nI x3) x4 x5 x6 x7 x8 x9 x10))] ++ va_pl L M_102m) H_122 := hP
                  have hD : va_D A ([(xa, (b11_1 x0 (nI x1) x2 (nI x3) x4 x5 x6 x7 x8 x9 x10))] ++ va_pl L M_102m) := hD
                  obtain ⟨hp_125, hqx⟩ := hp_125
                  rcases r_123 with _ | b_126
                  · have hz := rfl (a := 0)
                    have hcl9 : ((nI ((cfx M b_5) 10).toNat) : Int32).toNatClampNeg = ((cfx M b_5) 10).toNat := nI_cl (by omega)
                    have h28 : cax M_102m b_5 28 ((cfx M b_5) 10).toNat = 1 := by rw [hV.2.2.1]; show upd ((va_up (va_up (va_up (cax M b_5) 22 (upd ((cax M b_5) 22) i9 k3)) 23 (upd ((cax M b_5) 23) i9 1)) 24 (upd ((cax M b_5) 24) i9 0)) 28) ((cfx M b_5) 10).toNat (f_109 28) ((cfx M b_5) 10).toNat = 1; rw [upd_self]; exact hf9.2.2.2.2.2.2.2.2.2.1
                    have hc9 : (cV 2 M_102m b_5 9).toInt = (cfx M b_5) 10 + 1 := congrFun hV.2.1 10
                    exfalso
                    rcases hqx.2 rfl with q9 | q9
                    · exact q9 (by rw [nI_toInt (by omega)]; omega)
                    · rw [hcl9] at q9
                      rw [tn0 q9 (by omega)] at h28
                      exact absurd h28 (by decide)
                  · have hb_127 := hp_125 b_126 rfl
                    have hcl9 : ((nI ((cfx M b_5) 10).toNat) : Int32).toNatClampNeg = ((cfx M b_5) 10).toNat := nI_cl (by omega)
                    have h28 : cax M_102m b_5 28 ((cfx M b_5) 10).toNat = 1 := by rw [hV.2.2.1]; show upd ((va_up (va_up (va_up (cax M b_5) 22 (upd ((cax M b_5) 22) i9 k3)) 23 (upd ((cax M b_5) 23) i9 1)) 24 (upd ((cax M b_5) 24) i9 0)) 28) ((cfx M b_5) 10).toNat (f_109 28) ((cfx M b_5) 10).toNat = 1; rw [upd_self]; exact hf9.2.2.2.2.2.2.2.2.2.1
                    have hc9 : (cV 2 M_102m b_5 9).toInt = (cfx M b_5) 10 + 1 := congrFun hV.2.1 10
                    obtain ⟨_, hus⟩ := hqx.1 _ rfl
                    rw [hcl9] at hus
                    have hu0 : cV 9 M_102m b_126 0 = nI (SX k1.toNatClampNeg 10).toNat := by rw [hV.2.2.2.nm b_5 i_117 _ b_126 (by omega) hus, hx10]
                    obtain ⟨v129_0, v129_1, v129_2, v129_3, v129_4, v129_5, v129_6, v129_7, v129_8, v129_9, v129_10, v129_11, v129_12, v129_13, v129_14, v129_15, hM129, h129_0, h129_1, h129_4, h129_8⟩ := hW.open_9 i_119
                    refine pg_put (D := D) (ci := 9) (v := .ref b_126) (ty := .object "PartnersBook$Tenure") (C := RX9) (T := TX9) (N := 16) hx hb hg inG9 tyX9 tyX9_ok nmX9 hown hK hP hD hS i_119.1 hM129 rfl 8 (by decide) (hg _ wd_572) (fun _ h9 => h9) rfl (by decide +kernel) rfl rfl (Nat.le_of_ble_eq_true rfl) dX11_die_142 (fun H_128 locs hP hD hS => ?_)
                    obtain ⟨M_130, eM_130⟩ : ∃ M1 : Hp, M1 = va_up M_102m b_53 ((b9_9 (nI v129_0) v129_1 v129_2 v129_3 v129_4 v129_5 v129_6 v129_7 (some b_126) v129_9 v129_10 v129_11 v129_12 v129_13 v129_14 v129_15)) := ⟨_, rfl⟩
                    have sM_130 : M_130 = sF M_102m b_53 8 (.ref b_126) := eM_130.trans (sF_of (j := 8) (v := .ref b_126) hM129 rfl)
                    have hV : VC B_108 K L M0 M_130 b_5 (va_up (va_up (va_up (cfx M b_5) (lKey 3 ((cfx M b_5) 10).toNat) 0) 10 ((cfx M b_5) 10 + 1)) 18 (owB M_95 (cV 2 M_95 b_5 15) (cR 4 M_95 b_34 3))) (va_up (va_up (ttY (va_up (va_up (va_up (cax M b_5) 22 (upd ((cax M b_5) 22) i9 k3)) 23 (upd ((cax M b_5) 23) i9 1)) 24 (upd ((cax M b_5) 24) i9 0)) ((cfx M b_5) 10).toNat f_109) 51 (upd ((va_up (va_up (va_up (cax M b_5) 22 (upd ((cax M b_5) 22) i9 k3)) 23 (upd ((cax M b_5) 23) i9 1)) 24 (upd ((cax M b_5) 24) i9 0)) 51) k2.toNatClampNeg (nI ((cfx M b_5) 10).toNat))) 25 (upd ((va_up (ttY (va_up (va_up (va_up (cax M b_5) 22 (upd ((cax M b_5) 22) i9 k3)) 23 (upd ((cax M b_5) 23) i9 1)) 24 (upd ((cax M b_5) 24) i9 0)) ((cfx M b_5) 10).toNat f_109) 51 (upd ((va_up (va_up (va_up (cax M b_5) 22 (upd ((cax M b_5) 22) i9 k3)) 23 (upd ((cax M b_5) 23) i9 1)) 24 (upd ((cax M b_5) 24) i9 0)) 51) k2.toNatClampNeg (nI ((cfx M b_5) 10).toNat))) 25) i9 (cV 9 M_102m b_126 0))) := by rw [sM_130]; exact VC.s9_8 hV hW i_117 hi9 hs_110 hM129 (Nat.le_of_ble_eq_true rfl)
                    have hs_131 : RFc (M_130 (rA 2 M_130 b_5 8)) i9 = some b_53 := by rw [sM_130, rA_c (cVt_sF hM129 2 _ 8 (Or.inl (by decide))), RFc_sF]; exact hs_110
                    have hP : va_P D vwCl ([(xa, (b11_1 x0 (nI x1) x2 (nI x3) x4 x5 x6 x7 x8 x9 x10))] ++ va_pl L M_130) H_128 := by rw [eM_130]; exact hP
                    have hD : va_D A ([(xa, (b11_1 x0 (nI x1) x2 (nI x3) x4 x5 x6 x7 x8 x9 x10))] ++ va_pl L M_130) := by rw [eM_130]; exact hD
                    have hW : WOK cy K L M_130 := by rw [eM_130]; exact hW.up_9 i_119 ⟨v129_0, v129_1, v129_2, v129_3, v129_4, v129_5, v129_6, v129_7, (some b_126), v129_9, v129_10, v129_11, v129_12, v129_13, v129_14, v129_15, rfl, h129_0, h129_1, h129_4, (iskN.some hb_127)⟩
                    have hF : fr K0 L0 [2, 9, 61, 62] M0 M_130 := by rw [eM_130]; exact hF.upX hX0 i_119 (by decide)
                    have hT2 : fT 2 K0 L0 [9, 15] M0 M_130 := by rw [eM_130]; exact hT2.neX hX0 i_119 (by decide)
                    have hT9 : fT 9 K0 L0 [5, 6, 7, 8] M0 M_130 := by rw [eM_130]; exact hT9.up (i := 8) hM129 rfl (by decide)
                    have hM_132 : M_130 b_53 = (b9_9 (nI v129_0) v129_1 v129_2 v129_3 v129_4 v129_5 v129_6 v129_7 (some b_126) v129_9 v129_10 v129_11 v129_12 v129_13 v129_14 v129_15) := by rw [eM_130]; exact va_up_self _ _ _
                    have hM_133 : M_130 b_34 = .inr (4, [.int v61_0, .int v61_1, .int v61_2, va_rf v61_3]) := by rw [eM_130, va_up_ne _ _ (i_118.neT i_119 (by decide))]; exact hM_107
                    have hM_134 : M_130 b_5 = (b2_2 v121_0 v121_1 v121_2 v121_3 (nI v121_4) (nI v121_5) v121_6 v121_7 v121_8 (nI v121_9) v121_10 (nI v121_11) v121_12 v121_13 v121_14 v121_15 v121_16 v121_17 v121_18 v121_19) := by rw [eM_130, va_up_ne _ _ (i_117.neT i_119 (by decide))]; exact hM121
                    have hb_135 : iskN K L (some b_126) 9 0 := (iskN.some hb_127)
                    refine lv_aload_n hx hb dX11_die_145 rfl (lv_at hl 4 rfl) ?_
                    refine lv_iload hx hb dX11_die_146 (lv_at hl 0 rfl) ?_
                    have hPc := hP.sub (ws' := [(xa, (b11_1 x0 (nI x1) x2 (nI x3) x4 x5 x6 x7 x8 x9 x10))]) [0] rfl
                    have hDc := hD.sub (ws' := [(xa, (b11_1 x0 (nI x1) x2 (nI x3) x4 x5 x6 x7 x8 x9 x10))]) [0] (by decide) rfl
                    have hKc := hK.sub (tys' := []) [] rfl
                    have hFc := va_free (wc := [(xa, (b11_1 x0 (nI x1) x2 (nI x3) x4 x5 x6 x7 x8 x9 x10))]) hD hS hA [0] rfl
                    refine va_calli (va_runV (As := [.int (nI ((cfx M b_5) 10).toNat)]) (rest := []) ⟨hx, hb, hml, hown, hg⟩ (k_accept l D H_128.size xa x0 (nI x1) x2 (nI x3) x4 x5 x6 x7 x8 x9 x10 (nI ((cfx M b_5) 10).toNat)) (cwV 1 hg (gV wd_356 wd_357 wd_358 wd_3 wd_359) rfl rfl rfl (by decide +kernel) ⟨(Nat.le_trans (Nat.le_of_ble_eq_true rfl) hRf), (Nat.le_trans (Nat.le_of_ble_eq_true rfl) hRl)⟩) ⟨Pr.blind, va_recv hK hP (ci := 11) (q0 := 0) rfl rfl, fun U hU hW => ⟨rfl, Pr.at hPc hKc hDc hN hU hW⟩⟩ rfl rfl hl.1 rfl (lv_room (Nat.le_of_ble_eq_true rfl)) dX11_die_148 ⟨(Nat.le_trans (Nat.le_of_ble_eq_true rfl) hRc), (Nat.le_trans (Nat.le_of_ble_eq_true rfl) hRs)⟩) hS (fun q _ h => hFc q h) hFc (fun r_137 M_138 t H_136 locs ht hvm hw hB hz1 hk1 hS => ?_)
                    have hp_139 := hw
                    obtain ⟨hP1, hK1, hD1⟩ := hB
                    rw [ht] at hP1
                    obtain ⟨hP, hD⟩ := va_joinQ (X := [(xa, (b11_1 x0 (nI x1) x2 (nI x3) x4 x5 x6 x7 x8 x9 x10))]) (cx := [(xa, (b11_1 x0 (nI x1) x2 (nI x3) x4 x5 x6 x7 x8 x9 x10))]) (wr := []) (w1 := [(xa, (b11_1 x0 (nI x1) x2 (nI x3) x4 x5 x6 x7 x8 0 (-1)))]) (pl := va_pl L M_130) hP hD [0] [] rfl rfl (by decide) (by decide) hk1 hFc hP1 hD1
                    have hP : va_P D vwCl ([(xa, (b11_1 x0 (nI x1) x2 (nI x3) x4 x5 x6 x7 x8 0 (-1)))] ++ va_pl L M_130) H_136 := hP
                    have hD : va_D A ([(xa, (b11_1 x0 (nI x1) x2 (nI x3) x4 x5 x6 x7 x8 0 (-1)))] ++ va_pl L M_130) := hD
                    have hq := Eq.symm hp_139
                    subst hq
                    have hp4i : (PK k4.toNatClampNeg).toInt = 4 := by omega
                    have hyes : okDi x1 x3 PK SX SY k1 k2 k3 k4 := ⟨⟨by omega, by omega, by omega, by omega⟩, ⟨by omega, by omega⟩, hho, hp4i, ⟨by omega, by omega⟩, by omega, by omega⟩
                    have hk40 : M_95 b_34 = M b_34 := hFj.at ip4j (by decide)
                    have hcv40 : cV 4 M_95 b_34 0 = k4 := by rw [cV_eq hk40]; exact hpb2
                    have hcr40 : cR 4 M_95 b_34 3 = cR 4 M b_34 3 := cR_eq hk40
                    have hkd40 : cV 4 M_95 b_34 1 = PK k4.toNatClampNeg := by rw [cV_eq hk40]; exact hpc
                    have hc15 : (cV 2 M_95 b_5 15).toInt = cfx M b_5 18 := by show _ = (cV 2 M b_5 15).toInt; rw [cV_eq (hFj.at ibj (by decide))]
                    have hP5 : PK k4.toNatClampNeg ≠ 5 := fun z9 => by rw [z9] at hp4i; exact absurd hp4i (by decide)
                    have hcn : cR 4 M b_34 3 = none := by rcases hpe with ⟨z1, _⟩ | e9; exact absurd z1 hP5; exact e9.2
                    have hou : owN M_95 (cR 4 M_95 b_34 3) = ownP PK PT k4 := by rw [hcr40, hcn, ownN hP5]; rfl
                    have hob9 : owB M_95 (cV 2 M_95 b_5 15) (cR 4 M_95 b_34 3) = cfx M b_5 18 := by rw [hcr40, hcn]; exact hc15
                    have hbt9 : ∀ o : Nat, o < 8 → ((owB M_95 (cV 2 M_95 b_5 15) (cR 4 M_95 b_34 3) / 2 ^ o) % 2 = 1 ↔ ((cfx M b_5 18 / 2 ^ o) % 2 = 1 ∨ (ownP PK PT k4).toInt = (o : Int))) := fun o ho => by rw [hob9, ownN hP5]; exact ⟨Or.inl, fun z => z.resolve_right (fun w => by rw [show (-1 : Int32).toInt = -1 from rfl] at w; omega)⟩
                    have hbd9 : 0 ≤ owB M_95 (cV 2 M_95 b_5 15) (cR 4 M_95 b_34 3) ∧ owB M_95 (cV 2 M_95 b_5 15) (cR 4 M_95 b_34 3) < 256 := by rw [hob9]; exact hSM.ob
                    obtain ⟨f19, f20, f21, f22, f23, f24, f25, f26, f27, f28, f29⟩ := hf9
                    have h500 : cax M b_5 50 k2.toNatClampNeg = 0 := Int32.toInt.inj (by rw [h50]; rfl)
                    have hst9 : stN SY k1 k2 = i9 := hsn
                    rw [hu0] at hV
                    rw [hQ]
                    exact W.iret (v := (nI ((cfx M b_5) 10).toNat)) hx hb hr (fun t ht hW9 => ⟨⟨(nI ((cfx M b_5) 10).toNat), (K, L, M_130), rfl, ⟨hX0, hW, hF, hT2, hT9, (by unfold anDi; rw [if_pos hyes]; exact congrArg nI (congrArg Int.toNat hx10))⟩, ⟨0, (⟨_, by unfold sxDi syDi; rw [if_pos hyes, if_pos hyes]; exact hC00.fin hW00 i000 b1 hkn hb90 hV hX0 (congrArg RFc (hF.at i000 (by decide))) (fun q iq => ⟨hp4 q iq, cR_c (fr.cv hF (by decide) q (hp4 q iq) 3 rfl)⟩) ((by rw [hst9]; unfold dieY leY; exact ((((hSM.leave (t := i9) (d := k3) (i := 1) (z := 0) (by omega)).ten (s := k2) (p := k4) (d := k3) (by omega) (by omega) h500 (by omega) (f19.trans hcv40) f20 f21 f22 f23 f24 f25 f26 (f29.trans hkd40) (f27.trans hou) f28 hbd9 hbt9).heir (t := i9) (v := nI (SX k1.toNatClampNeg 10).toNat)).up1)))⟩), by rw [ht]; exact hP, hD⟩⟩, hS.F ht⟩) hS.2.2 dX11_die_151
                · have hz := rfl (a := 0)
                  have n_140 : ¬ (v21_9 < 24) := fun q => c_74 ((iLT (a := v21_9) (b := 24) (by omega) (by omega)).mpr q)
                  refine lv_aload_n hx hb dX11_die_106 rfl (lv_at hl 3 rfl) ?_
                  refine lv_bipush (v := 9) hx hb dX11_die_107 (by decide) ?_
                  have hPc := hP.sub (ws' := [(xa, (b11_1 x0 (nI x1) x2 (nI x3) x4 x5 x6 x7 x8 x9 x10))]) [0] rfl
                  have hDc := hD.sub (ws' := [(xa, (b11_1 x0 (nI x1) x2 (nI x3) x4 x5 x6 x7 x8 x9 x10))]) [0] (by decide) rfl
                  have hKc := hK.sub (tys' := []) [] rfl
                  have hFc := va_free (wc := [(xa, (b11_1 x0 (nI x1) x2 (nI x3) x4 x5 x6 x7 x8 x9 x10))]) hD hS hA [0] rfl
                  refine va_calli (va_runV (As := [.int 9]) (rest := []) ⟨hx, hb, hml, hown, hg⟩ (k_refuse l D H_63.size xa x0 (nI x1) x2 (nI x3) x4 x5 x6 x7 x8 x9 x10 9) (cwV 1 hg (gV wd_344 wd_345 wd_346 wd_3 wd_347) rfl rfl rfl (by decide +kernel) ⟨(Nat.le_trans (Nat.le_of_ble_eq_true rfl) hRf), (Nat.le_trans (Nat.le_of_ble_eq_true rfl) hRl)⟩) ⟨Pr.blind, va_recv hK hP (ci := 11) (q0 := 0) rfl rfl, fun U hU hW => ⟨rfl, Pr.at hPc hKc hDc hN hU hW⟩⟩ rfl rfl hl.1 rfl (lv_room (Nat.le_of_ble_eq_true rfl)) dX11_die_109 ⟨(Nat.le_trans (Nat.le_of_ble_eq_true rfl) hRc), (Nat.le_trans (Nat.le_of_ble_eq_true rfl) hRs)⟩) hS (fun q _ h => hFc q h) hFc (fun r_142 M_143 t H_141 locs ht hvm hw hB hz1 hk1 hS => ?_)
                  have hp_144 := hw
                  obtain ⟨hP1, hK1, hD1⟩ := hB
                  rw [ht] at hP1
                  obtain ⟨hP, hD⟩ := va_joinQ (X := [(xa, (b11_1 x0 (nI x1) x2 (nI x3) x4 x5 x6 x7 x8 x9 x10))]) (cx := [(xa, (b11_1 x0 (nI x1) x2 (nI x3) x4 x5 x6 x7 x8 x9 x10))]) (wr := []) (w1 := [(xa, (b11_1 x0 (nI x1) x2 (nI x3) x4 x5 x6 x7 x8 9 (-1)))]) (pl := va_pl L M) hP hD [0] [] rfl rfl (by decide) (by decide) hk1 hFc hP1 hD1
                  have hP : va_P D vwCl ([(xa, (b11_1 x0 (nI x1) x2 (nI x3) x4 x5 x6 x7 x8 9 (-1)))] ++ va_pl L M) H_141 := hP
                  have hD : va_D A ([(xa, (b11_1 x0 (nI x1) x2 (nI x3) x4 x5 x6 x7 x8 9 (-1)))] ++ va_pl L M) := hD
                  have hq := Eq.symm hp_144
                  subst hq
                  refine W.widen (k := 1) (n := 16) (Nat.le_of_ble_eq_true rfl) (Nat.le_of_ble_eq_true rfl) ?_
                  have hI_145 : (0 : Int) ≤ (k2 : Int32).toInt := inltI rfl rfl c_45
                  have hI_146 : (k2 : Int32).toInt < (6 : Int) := inleI rfl rfl c_46
                  have hI_147 : (v61_1 : Int32).toInt = (4 : Int) := ieqI rfl rfl c_62
                  have hI_148 : (0 : Int) ≤ (k3 : Int32).toInt := inltI rfl rfl c_68
                  have hI_149 : (k3 : Int32).toInt ≤ (999 : Int) := inltI rfl rfl c_69
                  have hI_150 : (v72_3 : Int32).toInt < (k3 : Int32).toInt := iltI rfl rfl c_73
                  have hI_151 : (24 : Int) ≤ ((v21_9 : Nat) : Int) := inltI (nI_toInt (by omega)) rfl c_74
                  have hA_152 : (cV 4 M b_34 0).toInt = (v61_0 : Int32).toInt := by rw [cV_of hM61 rfl]
                  have hA_153 : (cV 4 M b_34 1).toInt = (v61_1 : Int32).toInt := by rw [cV_of hM61 rfl]
                  have hA_154 : (cV 4 M b_34 2).toInt = (v61_2 : Int32).toInt := by rw [cV_of hM61 rfl]
                  have hA_155 : (cV 9 M b_53 0).toInt = ((v72_0 : Nat) : Int) := by rw [cV_of hM72 rfl]; exact nI_toInt (by omega)
                  have hA_156 : (cV 9 M b_53 2).toInt = (v72_2 : Int32).toInt := by rw [cV_of hM72 rfl]
                  have hA_157 : (cV 9 M b_53 3).toInt = (v72_3 : Int32).toInt := by rw [cV_of hM72 rfl]
                  have hA_158 : (cV 9 M b_53 4).toInt = (v72_4 : Int32).toInt := by rw [cV_of hM72 rfl]
                  have hA_159 : (cV 9 M b_53 5).toInt = (v72_5 : Int32).toInt := by rw [cV_of hM72 rfl]
                  have hA_160 : (cV 9 M b_53 6).toInt = (v72_6 : Int32).toInt := by rw [cV_of hM72 rfl]
                  have hA_161 : (cV 9 M b_53 7).toInt = (v72_7 : Int32).toInt := by rw [cV_of hM72 rfl]
                  have hno : ¬ okDi x1 x3 PK SX SY k1 k2 k3 k4 := fun q9 => by obtain ⟨⟨a1, a2, a3, a4⟩, ⟨a5, a6⟩, a7, a8, ⟨a9, a10⟩, a11, a12⟩ := q9; first | omega | exact hho a7
                  rw [hQ]
                  exact W.iret (v := (-1)) hx hb hr (fun t ht hW9 => ⟨⟨(-1), (K, L, M), rfl, ⟨hX0, hW, hF, hT2, hT9, (by unfold anDi; rw [if_neg hno])⟩, ⟨9, (⟨_, by unfold sxDi syDi; rw [if_neg hno, if_neg hno]; exact hC.mono⟩), by rw [ht]; exact hP, hD⟩⟩, hS.F ht⟩) hS.2.2 dX11_die_112
              · have hz := rfl (a := 0)
                refine lv_aload_n hx hb dX11_die_90 rfl (lv_at hl 3 rfl) ?_
                refine lv_iconst (v := 3) hx hb dX11_die_91 (by decide) ?_
                have hPc := hP.sub (ws' := [(xa, (b11_1 x0 (nI x1) x2 (nI x3) x4 x5 x6 x7 x8 x9 x10))]) [0] rfl
                have hDc := hD.sub (ws' := [(xa, (b11_1 x0 (nI x1) x2 (nI x3) x4 x5 x6 x7 x8 x9 x10))]) [0] (by decide) rfl
                have hKc := hK.sub (tys' := []) [] rfl
                have hFc := va_free (wc := [(xa, (b11_1 x0 (nI x1) x2 (nI x3) x4 x5 x6 x7 x8 x9 x10))]) hD hS hA [0] rfl
                refine va_calli (va_runV (As := [.int 3]) (rest := []) ⟨hx, hb, hml, hown, hg⟩ (k_refuse l D H_63.size xa x0 (nI x1) x2 (nI x3) x4 x5 x6 x7 x8 x9 x10 3) (cwV 1 hg (gV wd_344 wd_345 wd_346 wd_3 wd_347) rfl rfl rfl (by decide +kernel) ⟨(Nat.le_trans (Nat.le_of_ble_eq_true rfl) hRf), (Nat.le_trans (Nat.le_of_ble_eq_true rfl) hRl)⟩) ⟨Pr.blind, va_recv hK hP (ci := 11) (q0 := 0) rfl rfl, fun U hU hW => ⟨rfl, Pr.at hPc hKc hDc hN hU hW⟩⟩ rfl rfl hl.1 rfl (lv_room (Nat.le_of_ble_eq_true rfl)) dX11_die_92 ⟨(Nat.le_trans (Nat.le_of_ble_eq_true rfl) hRc), (Nat.le_trans (Nat.le_of_ble_eq_true rfl) hRs)⟩) hS (fun q _ h => hFc q h) hFc (fun r_163 M_164 t H_162 locs ht hvm hw hB hz1 hk1 hS => ?_)
                have hp_165 := hw
                obtain ⟨hP1, hK1, hD1⟩ := hB
                rw [ht] at hP1
                obtain ⟨hP, hD⟩ := va_joinQ (X := [(xa, (b11_1 x0 (nI x1) x2 (nI x3) x4 x5 x6 x7 x8 x9 x10))]) (cx := [(xa, (b11_1 x0 (nI x1) x2 (nI x3) x4 x5 x6 x7 x8 x9 x10))]) (wr := []) (w1 := [(xa, (b11_1 x0 (nI x1) x2 (nI x3) x4 x5 x6 x7 x8 3 (-1)))]) (pl := va_pl L M) hP hD [0] [] rfl rfl (by decide) (by decide) hk1 hFc hP1 hD1
                have hP : va_P D vwCl ([(xa, (b11_1 x0 (nI x1) x2 (nI x3) x4 x5 x6 x7 x8 3 (-1)))] ++ va_pl L M) H_162 := hP
                have hD : va_D A ([(xa, (b11_1 x0 (nI x1) x2 (nI x3) x4 x5 x6 x7 x8 3 (-1)))] ++ va_pl L M) := hD
                have hq := Eq.symm hp_165
                subst hq
                refine W.widen (k := 1) (n := 16) (Nat.le_of_ble_eq_true rfl) (Nat.le_of_ble_eq_true rfl) ?_
                have hI_166 : (0 : Int) ≤ (k2 : Int32).toInt := inltI rfl rfl c_45
                have hI_167 : (k2 : Int32).toInt < (6 : Int) := inleI rfl rfl c_46
                have hI_168 : (v61_1 : Int32).toInt = (4 : Int) := ieqI rfl rfl c_62
                have hI_169 : (0 : Int) ≤ (k3 : Int32).toInt := inltI rfl rfl c_68
                have hI_170 : (k3 : Int32).toInt ≤ (999 : Int) := inltI rfl rfl c_69
                have hI_171 : (k3 : Int32).toInt ≤ (v72_3 : Int32).toInt := inltI rfl rfl c_73
                have hA_172 : (cV 4 M b_34 0).toInt = (v61_0 : Int32).toInt := by rw [cV_of hM61 rfl]
                have hA_173 : (cV 4 M b_34 1).toInt = (v61_1 : Int32).toInt := by rw [cV_of hM61 rfl]
                have hA_174 : (cV 4 M b_34 2).toInt = (v61_2 : Int32).toInt := by rw [cV_of hM61 rfl]
                have hA_175 : (cV 9 M b_53 0).toInt = ((v72_0 : Nat) : Int) := by rw [cV_of hM72 rfl]; exact nI_toInt (by omega)
                have hA_176 : (cV 9 M b_53 2).toInt = (v72_2 : Int32).toInt := by rw [cV_of hM72 rfl]
                have hA_177 : (cV 9 M b_53 3).toInt = (v72_3 : Int32).toInt := by rw [cV_of hM72 rfl]
                have hA_178 : (cV 9 M b_53 4).toInt = (v72_4 : Int32).toInt := by rw [cV_of hM72 rfl]
                have hA_179 : (cV 9 M b_53 5).toInt = (v72_5 : Int32).toInt := by rw [cV_of hM72 rfl]
                have hA_180 : (cV 9 M b_53 6).toInt = (v72_6 : Int32).toInt := by rw [cV_of hM72 rfl]
                have hA_181 : (cV 9 M b_53 7).toInt = (v72_7 : Int32).toInt := by rw [cV_of hM72 rfl]
                have hno : ¬ okDi x1 x3 PK SX SY k1 k2 k3 k4 := fun q9 => by obtain ⟨⟨a1, a2, a3, a4⟩, ⟨a5, a6⟩, a7, a8, ⟨a9, a10⟩, a11, a12⟩ := q9; first | omega | exact hho a7
                rw [hQ]
                exact W.iret (v := (-1)) hx hb hr (fun t ht hW9 => ⟨⟨(-1), (K, L, M), rfl, ⟨hX0, hW, hF, hT2, hT9, (by unfold anDi; rw [if_neg hno])⟩, ⟨3, (⟨_, by unfold sxDi syDi; rw [if_neg hno, if_neg hno]; exact hC.mono⟩), by rw [ht]; exact hP, hD⟩⟩, hS.F ht⟩) hS.2.2 dX11_die_95
            · have hz := rfl (a := 0)
              refine lv_if_eq (tgt := 90) hx hb dX11_die_78 (by decide) (fun _ => ?_) (fun c_182 => absurd c_182 (by decide))
              refine lv_aload_n hx hb dX11_die_90 rfl (lv_at hl 3 rfl) ?_
              refine lv_iconst (v := 3) hx hb dX11_die_91 (by decide) ?_
              have hPc := hP.sub (ws' := [(xa, (b11_1 x0 (nI x1) x2 (nI x3) x4 x5 x6 x7 x8 x9 x10))]) [0] rfl
              have hDc := hD.sub (ws' := [(xa, (b11_1 x0 (nI x1) x2 (nI x3) x4 x5 x6 x7 x8 x9 x10))]) [0] (by decide) rfl
              have hKc := hK.sub (tys' := []) [] rfl
              have hFc := va_free (wc := [(xa, (b11_1 x0 (nI x1) x2 (nI x3) x4 x5 x6 x7 x8 x9 x10))]) hD hS hA [0] rfl
              refine va_calli (va_runV (As := [.int 3]) (rest := []) ⟨hx, hb, hml, hown, hg⟩ (k_refuse l D H_63.size xa x0 (nI x1) x2 (nI x3) x4 x5 x6 x7 x8 x9 x10 3) (cwV 1 hg (gV wd_344 wd_345 wd_346 wd_3 wd_347) rfl rfl rfl (by decide +kernel) ⟨(Nat.le_trans (Nat.le_of_ble_eq_true rfl) hRf), (Nat.le_trans (Nat.le_of_ble_eq_true rfl) hRl)⟩) ⟨Pr.blind, va_recv hK hP (ci := 11) (q0 := 0) rfl rfl, fun U hU hW => ⟨rfl, Pr.at hPc hKc hDc hN hU hW⟩⟩ rfl rfl hl.1 rfl (lv_room (Nat.le_of_ble_eq_true rfl)) dX11_die_92 ⟨(Nat.le_trans (Nat.le_of_ble_eq_true rfl) hRc), (Nat.le_trans (Nat.le_of_ble_eq_true rfl) hRs)⟩) hS (fun q _ h => hFc q h) hFc (fun r_184 M_185 t H_183 locs ht hvm hw hB hz1 hk1 hS => ?_)
              have hp_186 := hw
              obtain ⟨hP1, hK1, hD1⟩ := hB
              rw [ht] at hP1
              obtain ⟨hP, hD⟩ := va_joinQ (X := [(xa, (b11_1 x0 (nI x1) x2 (nI x3) x4 x5 x6 x7 x8 x9 x10))]) (cx := [(xa, (b11_1 x0 (nI x1) x2 (nI x3) x4 x5 x6 x7 x8 x9 x10))]) (wr := []) (w1 := [(xa, (b11_1 x0 (nI x1) x2 (nI x3) x4 x5 x6 x7 x8 3 (-1)))]) (pl := va_pl L M) hP hD [0] [] rfl rfl (by decide) (by decide) hk1 hFc hP1 hD1
              have hP : va_P D vwCl ([(xa, (b11_1 x0 (nI x1) x2 (nI x3) x4 x5 x6 x7 x8 3 (-1)))] ++ va_pl L M) H_183 := hP
              have hD : va_D A ([(xa, (b11_1 x0 (nI x1) x2 (nI x3) x4 x5 x6 x7 x8 3 (-1)))] ++ va_pl L M) := hD
              have hq := Eq.symm hp_186
              subst hq
              refine W.widen (k := 1) (n := 16) (Nat.le_of_ble_eq_true rfl) (Nat.le_of_ble_eq_true rfl) ?_
              have hI_187 : (0 : Int) ≤ (k2 : Int32).toInt := inltI rfl rfl c_45
              have hI_188 : (k2 : Int32).toInt < (6 : Int) := inleI rfl rfl c_46
              have hI_189 : (v61_1 : Int32).toInt = (4 : Int) := ieqI rfl rfl c_62
              have hA_190 : (cV 4 M b_34 0).toInt = (v61_0 : Int32).toInt := by rw [cV_of hM61 rfl]
              have hA_191 : (cV 4 M b_34 1).toInt = (v61_1 : Int32).toInt := by rw [cV_of hM61 rfl]
              have hA_192 : (cV 4 M b_34 2).toInt = (v61_2 : Int32).toInt := by rw [cV_of hM61 rfl]
              have hno : ¬ okDi x1 x3 PK SX SY k1 k2 k3 k4 := fun q9 => by obtain ⟨⟨a1, a2, a3, a4⟩, ⟨a5, a6⟩, a7, a8, ⟨a9, a10⟩, a11, a12⟩ := q9; first | omega | exact hho a7
              rw [hQ]
              exact W.iret (v := (-1)) hx hb hr (fun t ht hW9 => ⟨⟨(-1), (K, L, M), rfl, ⟨hX0, hW, hF, hT2, hT9, (by unfold anDi; rw [if_neg hno])⟩, ⟨3, (⟨_, by unfold sxDi syDi; rw [if_neg hno, if_neg hno]; exact hC.mono⟩), by rw [ht]; exact hP, hD⟩⟩, hS.F ht⟩) hS.2.2 dX11_die_95
          · have hz := rfl (a := 0)
            refine lv_aload_n hx hb dX11_die_66 rfl (lv_at hl 3 rfl) ?_
            refine lv_iconst (v := 2) hx hb dX11_die_67 (by decide) ?_
            have hPc := hP.sub (ws' := [(xa, (b11_1 x0 (nI x1) x2 (nI x3) x4 x5 x6 x7 x8 x9 x10))]) [0] rfl
            have hDc := hD.sub (ws' := [(xa, (b11_1 x0 (nI x1) x2 (nI x3) x4 x5 x6 x7 x8 x9 x10))]) [0] (by decide) rfl
            have hKc := hK.sub (tys' := []) [] rfl
            have hFc := va_free (wc := [(xa, (b11_1 x0 (nI x1) x2 (nI x3) x4 x5 x6 x7 x8 x9 x10))]) hD hS hA [0] rfl
            refine va_calli (va_runV (As := [.int 2]) (rest := []) ⟨hx, hb, hml, hown, hg⟩ (k_refuse l D H_49.size xa x0 (nI x1) x2 (nI x3) x4 x5 x6 x7 x8 x9 x10 2) (cwV 1 hg (gV wd_344 wd_345 wd_346 wd_3 wd_347) rfl rfl rfl (by decide +kernel) ⟨(Nat.le_trans (Nat.le_of_ble_eq_true rfl) hRf), (Nat.le_trans (Nat.le_of_ble_eq_true rfl) hRl)⟩) ⟨Pr.blind, va_recv hK hP (ci := 11) (q0 := 0) rfl rfl, fun U hU hW => ⟨rfl, Pr.at hPc hKc hDc hN hU hW⟩⟩ rfl rfl hl.1 rfl (lv_room (Nat.le_of_ble_eq_true rfl)) dX11_die_68 ⟨(Nat.le_trans (Nat.le_of_ble_eq_true rfl) hRc), (Nat.le_trans (Nat.le_of_ble_eq_true rfl) hRs)⟩) hS (fun q _ h => hFc q h) hFc (fun r_194 M_195 t H_193 locs ht hvm hw hB hz1 hk1 hS => ?_)
            have hp_196 := hw
            obtain ⟨hP1, hK1, hD1⟩ := hB
            rw [ht] at hP1
            obtain ⟨hP, hD⟩ := va_joinQ (X := [(xa, (b11_1 x0 (nI x1) x2 (nI x3) x4 x5 x6 x7 x8 x9 x10))]) (cx := [(xa, (b11_1 x0 (nI x1) x2 (nI x3) x4 x5 x6 x7 x8 x9 x10))]) (wr := []) (w1 := [(xa, (b11_1 x0 (nI x1) x2 (nI x3) x4 x5 x6 x7 x8 2 (-1)))]) (pl := va_pl L M) hP hD [0] [] rfl rfl (by decide) (by decide) hk1 hFc hP1 hD1
            have hP : va_P D vwCl ([(xa, (b11_1 x0 (nI x1) x2 (nI x3) x4 x5 x6 x7 x8 2 (-1)))] ++ va_pl L M) H_193 := hP
            have hD : va_D A ([(xa, (b11_1 x0 (nI x1) x2 (nI x3) x4 x5 x6 x7 x8 2 (-1)))] ++ va_pl L M) := hD
            have hq := Eq.symm hp_196
            subst hq
            refine W.widen (k := 1) (n := 16) (Nat.le_of_ble_eq_true rfl) (Nat.le_of_ble_eq_true rfl) ?_
            have hI_197 : (0 : Int) ≤ (k2 : Int32).toInt := inltI rfl rfl c_45
            have hI_198 : (k2 : Int32).toInt < (6 : Int) := inleI rfl rfl c_46
            have hI_199 : (v61_1 : Int32).toInt ≠ (4 : Int) := ineI rfl rfl c_62
            have hA_200 : (cV 4 M b_34 0).toInt = (v61_0 : Int32).toInt := by rw [cV_of hM61 rfl]
            have hA_201 : (cV 4 M b_34 1).toInt = (v61_1 : Int32).toInt := by rw [cV_of hM61 rfl]
            have hA_202 : (cV 4 M b_34 2).toInt = (v61_2 : Int32).toInt := by rw [cV_of hM61 rfl]
            have hno : ¬ okDi x1 x3 PK SX SY k1 k2 k3 k4 := fun q9 => by obtain ⟨⟨a1, a2, a3, a4⟩, ⟨a5, a6⟩, a7, a8, ⟨a9, a10⟩, a11, a12⟩ := q9; first | omega | exact hho a7
            rw [hQ]
            exact W.iret (v := (-1)) hx hb hr (fun t ht hW9 => ⟨⟨(-1), (K, L, M), rfl, ⟨hX0, hW, hF, hT2, hT9, (by unfold anDi; rw [if_neg hno])⟩, ⟨2, (⟨_, by unfold sxDi syDi; rw [if_neg hno, if_neg hno]; exact hC.mono⟩), by rw [ht]; exact hP, hD⟩⟩, hS.F ht⟩) hS.2.2 dX11_die_71
      · have hz := rfl (a := 0)
        refine lv_if_ne (tgt := 38) hx hb dX11_die_29 (by decide) (fun c_203 => absurd c_203 (by decide)) (fun _ => ?_)
        refine lv_aload_n hx hb dX11_die_32 rfl (lv_at hl 2 rfl) ?_
        refine lv_iconst (v := 1) hx hb dX11_die_33 (by decide) ?_
        have hPc := hP.sub (ws' := [(xa, (b11_1 x0 (nI x1) x2 (nI x3) x4 x5 x6 x7 x8 x9 x10))]) [0] rfl
        have hDc := hD.sub (ws' := [(xa, (b11_1 x0 (nI x1) x2 (nI x3) x4 x5 x6 x7 x8 x9 x10))]) [0] (by decide) rfl
        have hKc := hK.sub (tys' := []) [] rfl
        have hFc := va_free (wc := [(xa, (b11_1 x0 (nI x1) x2 (nI x3) x4 x5 x6 x7 x8 x9 x10))]) hD hS hA [0] rfl
        refine va_calli (va_runV (As := [.int 1]) (rest := []) ⟨hx, hb, hml, hown, hg⟩ (k_refuse l D H_40.size xa x0 (nI x1) x2 (nI x3) x4 x5 x6 x7 x8 x9 x10 1) (cwV 1 hg (gV wd_344 wd_345 wd_346 wd_3 wd_347) rfl rfl rfl (by decide +kernel) ⟨(Nat.le_trans (Nat.le_of_ble_eq_true rfl) hRf), (Nat.le_trans (Nat.le_of_ble_eq_true rfl) hRl)⟩) ⟨Pr.blind, va_recv hK hP (ci := 11) (q0 := 0) rfl rfl, fun U hU hW => ⟨rfl, Pr.at hPc hKc hDc hN hU hW⟩⟩ rfl rfl hl.1 rfl (lv_room (Nat.le_of_ble_eq_true rfl)) dX11_die_34 ⟨(Nat.le_trans (Nat.le_of_ble_eq_true rfl) hRc), (Nat.le_trans (Nat.le_of_ble_eq_true rfl) hRs)⟩) hS (fun q _ h => hFc q h) hFc (fun r_205 M_206 t H_204 locs ht hvm hw hB hz1 hk1 hS => ?_)
        have hp_207 := hw
        obtain ⟨hP1, hK1, hD1⟩ := hB
        rw [ht] at hP1
        obtain ⟨hP, hD⟩ := va_joinQ (X := [(xa, (b11_1 x0 (nI x1) x2 (nI x3) x4 x5 x6 x7 x8 x9 x10))]) (cx := [(xa, (b11_1 x0 (nI x1) x2 (nI x3) x4 x5 x6 x7 x8 x9 x10))]) (wr := []) (w1 := [(xa, (b11_1 x0 (nI x1) x2 (nI x3) x4 x5 x6 x7 x8 1 (-1)))]) (pl := va_pl L M) hP hD [0] [] rfl rfl (by decide) (by decide) hk1 hFc hP1 hD1
        have hP : va_P D vwCl ([(xa, (b11_1 x0 (nI x1) x2 (nI x3) x4 x5 x6 x7 x8 1 (-1)))] ++ va_pl L M) H_204 := hP
        have hD : va_D A ([(xa, (b11_1 x0 (nI x1) x2 (nI x3) x4 x5 x6 x7 x8 1 (-1)))] ++ va_pl L M) := hD
        have hq := Eq.symm hp_207
        subst hq
        refine W.widen (k := 1) (n := 16) (Nat.le_of_ble_eq_true rfl) (Nat.le_of_ble_eq_true rfl) ?_
        have hno : ¬ okDi x1 x3 PK SX SY k1 k2 k3 k4 := fun q9 => by obtain ⟨⟨a1, a2, a3, a4⟩, ⟨a5, a6⟩, a7, a8, ⟨a9, a10⟩, a11, a12⟩ := q9; first | omega | exact hho a7
        rw [hQ]
        exact W.iret (v := (-1)) hx hb hr (fun t ht hW9 => ⟨⟨(-1), (K, L, M), rfl, ⟨hX0, hW, hF, hT2, hT9, (by unfold anDi; rw [if_neg hno])⟩, ⟨1, (⟨_, by unfold sxDi syDi; rw [if_neg hno, if_neg hno]; exact hC.mono⟩), by rw [ht]; exact hP, hD⟩⟩, hS.F ht⟩) hS.2.2 dX11_die_37
