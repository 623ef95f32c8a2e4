set_option maxHeartbeats 4000000 in
set_option maxRecDepth 100000 in
theorem x_join_0 (l : Launch) (D : va_G) (cy : Nat → ClassId) (K0 : Kp) (L0 : List Nat) (M0 : Hp) (sz : Nat) (xa : Nat) (x0 : Nat) (x1 : Nat) (x2 : Nat) (x3 : Nat) (x4 : Nat) (x5 : Nat) (x6 : Nat) (x7 : Int32) (x8 : Nat) (x9 : Int32) (x10 : Int32) (k1 : Int32) (k2 : Int32) (k3 : Int32) (k4 : Int32) (Bo : Nat → Nat × Nat) (T : Int) (PK : Nat → Int32) (PT : Nat → Int32) (SX : Nat → Nat → Int) (SY : Nat → Nat → Nat → Int32) (hW : WOK cy K0 L0 M0) (i0 : isk K0 L0 x0 17 8) (b1 : x1 ≤ 8) (i2 : isk K0 L0 x2 19 40) (b3 : x3 ≤ 40) (i4 : isk K0 L0 x4 7 0) (i5 : isk K0 L0 x5 5 0) (i6 : isk K0 L0 x6 60 24) (i8 : isk K0 L0 x8 73 25) (hC : CX Bo K0 L0 x0 x1 T x3 PK PT SX SY M0) (hSV : ∀ k, k < x1 → SV (SX k) (SY k)) (hHI : ∀ k, k < x1 → HI (SX k) (SY k)) (hT : (0 ≤ T ∧ T ≤ 900000)) (hPX : PX x0 x1 x2 x3 PK PT M0) : Met l yX11_join (wsM yX11_join cX11_join 8 (some .int)) ({ frames := 4, cells := 1, slots := 16, locals := 97 }) (va_Pc [.ref xa, .int k1, .int k2, .int k3, .int k4, .int 0] (PG D cy [(xa, (b11_1 x0 (nI x1) x2 (nI x3) x4 x5 x6 x7 x8 x9 x10))] L0 M0 sz)) (va_Qi (fun (r : Int32) (u : Kp × List Nat × Hp) => ext K0 L0 u.1 u.2.1 ∧ WOK cy u.1 u.2.1 u.2.2 ∧ fr K0 L0 [2, 5, 58, 59, 61, 62] M0 u.2.2 ∧ fT 2 K0 L0 [9, 15] M0 u.2.2 ∧ ((r = anJo x1 x3 PK PT SX SY k1 k2 k3 k4))) (fun u t => ∃ (w9 : Int32), (∃ B9, CX B9 u.1 u.2.1 x0 x1 (T + 1) x3 PK PT (sxJo x1 x3 PK PT SX SY k1 k2 k3 k4) (syJo x1 x3 PK PT SX SY k1 k2 k3 k4 0) u.2.2) ∧ RGC u.2.2 x5 (caJo x1 x3 PK PT SX SY k1 k2 k3 k4) ∧ PQ D [(xa, (b11_1 x0 (nI x1) x2 (nI x3) x4 x5 x6 x7 x8 w9 (-1)))] u.2.1 u.2.2 (va_A ([(xa, (b11_1 x0 (nI x1) x2 (nI x3) x4 x5 x6 x7 x8 x9 x10))] ++ va_pl L0 M0) sz) t) (va_A ([(xa, (b11_1 x0 (nI x1) x2 (nI x3) x4 x5 x6 x7 x8 x9 x10))] ++ va_pl L0 M0) sz)) 1 16 (va_A ([(xa, (b11_1 x0 (nI x1) x2 (nI x3) x4 x5 x6 x7 x8 x9 x10))] ++ va_pl L0 M0) sz) := by
  refine Met.ofW (cc := cX11_join) (maxL := 8) (ret := (some .int)) (by decide) rfl ?_
  intro p e s m args below meth c s₁ B hml hv
  obtain ⟨rfl, hsz, hP, hK, hD0, hN⟩ := hv
  have hx := B.exec
  have hb := B.bytes
  have hr := B.returns
  have hts := atoms_spec (ws := (wsM yX11_join cX11_join 8 (some .int))) B.pre
  have hg : ∀ w ∈ lw_good, w.before _ s = true := fun w h => hts w (List.mem_cons_of_mem _ h)
  have hown : s.vm.findClass RX11 = some m.cls := findClass_of_methodNamed B.named
  have hlocks := B.notSynchronized
  subst hsz
  have hD := hD0.self (sz := s.heap.size)
  generalize hAe : va_A ([(xa, (b11_1 x0 (nI x1) x2 (nI x3) x4 x5 x6 x7 x8 x9 x10))] ++ va_pl L0 M0) s.heap.size = A at hD ⊢
  have hA : ∀ q : Nat, s.heap.size ≤ q → A q := fun q h => by rw [← hAe]; exact Or.inr h
  have hS : va_S A s.heap s.heap [] := va_S.rf
  have hl := lv_entry ([.ref xa, .int k1, .int k2, .int k3, .int k4, .int 0]) (n := 8) (Nat.le_of_ble_eq_true rfl)
  rw [lg_entry_eq]
  generalize (lg_sl ([.ref xa, .int k1, .int k2, .int k3, .int k4, .int 0]) ++ List.replicate (8 - (lg_sl ([.ref xa, .int k1, .int k2, .int k3, .int k4, .int 0])).length) Slot.unset).toArray = ls at hl ⊢
  refine W.nameQ (fun Q hQ => ?_)
  refine W.nameR (fun R hR => ?_)
  have hRf : 4 ≤ R.frames := by rw [hR]; exact Nat.le_of_ble_eq_true rfl
  have hRl : 97 ≤ R.locals := by rw [hR]; exact Nat.le_of_ble_eq_true rfl
  have hRc : 1 ≤ R.cells := by rw [hR]; exact Nat.le_of_ble_eq_true rfl
  have hRs : 16 ≤ R.slots := by rw [hR]; exact Nat.le_of_ble_eq_true rfl
  have hW00 := hW
  have i000 := i0
  have i200 := i2
  have i400 := i4
  have i500 := i5
  have i600 := i6
  have i800 := i8
  have hC00 := hC
  have hPX00 := hPX
  obtain ⟨K, L, M, hX0, hF, hT2, hW, hP, hD, i0, i2, i4, i5, i6, i8, hC, hPX, hMe, hKe, hLe⟩ : ∃ (K : Kp) (L : List Nat) (M : Hp), ext K0 L0 K L ∧ fr K0 L0 [2, 5, 58, 59, 61, 62] M0 M ∧ fT 2 K0 L0 [9, 15] M0 M ∧ WOK cy K L M ∧ va_P D vwCl ([(xa, (b11_1 x0 (nI x1) x2 (nI x3) x4 x5 x6 x7 x8 x9 x10))] ++ va_pl L M) s.heap ∧ va_D A ([(xa, (b11_1 x0 (nI x1) x2 (nI x3) x4 x5 x6 x7 x8 x9 x10))] ++ va_pl L M) ∧ isk K L x0 17 8 ∧ isk K L x2 19 40 ∧ isk K L x4 7 0 ∧ isk K L x5 5 0 ∧ isk K L x6 60 24 ∧ isk K L x8 73 25 ∧ CX Bo K L x0 x1 T x3 PK PT SX SY M ∧ PX x0 x1 x2 x3 PK PT M ∧ M = M0 ∧ K = K0 ∧ L = L0 := ⟨K0, L0, M0, ext.rf, fr.rf, fT.rf, hW, hP, hD, i0, i2, i4, i5, i6, i8, hC, hPX, rfl, rfl, rfl⟩
  have hl : lv_has ls 8 [(0, .ref xa), (1, .int k1), (2, .int k2), (3, .int k3), (4, .int k4), (5, .int 0)] := hl
  have hp4 : ∀ q, isk K L q 4 0 → isk K0 L0 q 4 0 := by rw [hKe, hLe]; exact fun q iq => iq
  refine lv_aload_n hx hb dX11_join_0 rfl (lv_at hl 0 rfl) ?_
  refine va_get (D := D) (ci := 11) (v := .ref x5) (C := RX11) (T := TX11) (N := 11) hx hb hg inG11 hown hK hP 0 rfl rfl 5 (by decide) (hg _ wd_371) (fun _ h9 => h9) rfl dX11_join_1 ?_
  obtain ⟨v1_0, v1_1, v1_2, hM1, h1_0, h1_1⟩ := hW.open_5 i5
  have hPc : va_P D vwCl ([] ++ va_pl L M) s.heap := hP.part (cx := []) [] rfl
  have hDc : va_D A ([] ++ va_pl L M) := hD.part (cx := []) [] (by decide) rfl
  have hFc : ∀ q, va_A ([] ++ va_pl L M) s.heap.size q → A q := pg_free hDc hS hA
  refine va_callv (va_runV (As := []) (rest := []) ⟨hx, hb, hml, hown, hg⟩ (e_forget l D cy K L M s.heap.size x5  hW i5) (cwV 0 hg (gV wd_549 wd_550 wd_551 wd_309 wd_552) rfl rfl rfl (by decide +kernel) ⟨(Nat.le_trans (Nat.le_of_ble_eq_true rfl) hRf), (Nat.le_trans (Nat.le_of_ble_eq_true rfl) hRl)⟩) ⟨PG.blind, pg_recv hK hP i5.1 hM1 rfl, fun U hU hW => ⟨rfl, PG.at hPc hK hDc hN hU hW⟩⟩ rfl rfl hl.1 rfl (lv_room (Nat.le_of_ble_eq_true rfl)) dX11_join_4 ⟨(Nat.le_trans (Nat.le_of_ble_eq_true rfl) hRc), (Nat.le_trans (Nat.le_of_ble_eq_true rfl) hRs)⟩) hS (fun q _ h => hFc q h) hFc (fun M_4 t H_2 locs ht hvm hw hB hz1 hk1 hS => ?_)
  have hWb := hW
  obtain ⟨hW, hF2, hVP, hp_5⟩ := hw
  obtain ⟨hP1, hD1⟩ := hB
  rw [ht] at hP1
  obtain ⟨hP, hD⟩ := va_joinP (X := [(xa, (b11_1 x0 (nI x1) x2 (nI x3) x4 x5 x6 x7 x8 x9 x10))]) (cx := []) (wr := [(xa, (b11_1 x0 (nI x1) x2 (nI x3) x4 x5 x6 x7 x8 x9 x10))]) (rx := []) (pl := va_pl L M) (pl1 := va_pl L M_4) hP hD [] [0] rfl rfl (by decide) (by decide) hk1 hFc hP1 hD1
  have hP : va_P D vwCl ([(xa, (b11_1 x0 (nI x1) x2 (nI x3) x4 x5 x6 x7 x8 x9 x10))] ++ va_pl L M_4) H_2 := hP
  have hD : va_D A ([(xa, (b11_1 x0 (nI x1) x2 (nI x3) x4 x5 x6 x7 x8 x9 x10))] ++ va_pl L M_4) := hD
  have hF : fr K0 L0 [2, 5, 58, 59, 61, 62] M0 M_4 := hF.trX hX0 hF2 (by decide)
  have hT2 : fT 2 K0 L0 [9, 15] M0 M_4 := hT2.frrX hX0 hF2 (by decide)
  have hRG0 := hVP
  have hS0 : SAME K L M M_4 := (SAME.fr (fr.cv hF2 (by decide)) (fr.cv hF2 (by decide)) (fr.cv hF2 (by decide)) (fr.cv hF2 (by decide)) (fr.cv hF2 (by decide)) (fr.cv hF2 (by decide)) (fr.cv hF2 (by decide)) hF2 (by decide))
  have hC := CX.same0 hC hWb i0 b1 hS0 (by rw [hF2.at i0 (by decide)])
  have hPX := PX.mv hPX hWb i0 i2 b3 hF2 (by decide) (by decide) (by decide)
  have hS00 : SAME K0 L0 M0 M_4 := by rw [← hKe, ← hLe, ← hMe]; exact hS0
  have hx00 : RFc (M_4 x0) = RFc (M0 x0) := by rw [hF2.at i0 (by decide), hMe]
  obtain ⟨M, hMM⟩ : ∃ M : Hp, M = M_4 := ⟨_, rfl⟩
  subst hMM
  refine lv_aload_n hx hb dX11_join_7 rfl (lv_at hl 0 rfl) ?_
  refine lv_iload_n hx hb dX11_join_8 rfl (lv_at hl 1 rfl) ?_
  have hPc : va_P D vwCl ([(xa, (b11_1 x0 (nI x1) x2 (nI x3) x4 x5 x6 x7 x8 x9 x10))] ++ va_pl L M) H_2 := hP
  have hDc : va_D A ([(xa, (b11_1 x0 (nI x1) x2 (nI x3) x4 x5 x6 x7 x8 x9 x10))] ++ va_pl L M) := hD
  have hFc : ∀ q, va_A ([(xa, (b11_1 x0 (nI x1) x2 (nI x3) x4 x5 x6 x7 x8 x9 x10))] ++ va_pl L M) H_2.size q → A q := pg_free hDc hS hA
  refine va_callq (va_runV (As := [.int k1]) (rest := []) ⟨hx, hb, hml, hown, hg⟩ (e_houseAt l D cy K L M H_2.size xa x0 x1 x2 x3 x4 x5 x6 x7 x8 x9 x10 k1 Bo T PK PT SX SY  hW i0 b1 i2 b3 i4 i5 i6 i8 hC) (cwV 1 hg (gV wd_340 wd_341 wd_342 wd_3 wd_343) rfl rfl rfl (by decide +kernel) ⟨(Nat.le_trans (Nat.le_of_ble_eq_true rfl) hRf), (Nat.le_trans (Nat.le_of_ble_eq_true rfl) hRl)⟩) ⟨PG.blind, va_recv hK hP (ci := 11) (q0 := 0) rfl rfl, fun U hU hW => ⟨rfl, PG.at hPc hK hDc hN hU hW⟩⟩ rfl rfl hl.1 rfl (lv_room (Nat.le_of_ble_eq_true rfl)) dX11_join_9 ⟨(Nat.le_trans (Nat.le_of_ble_eq_true rfl) hRc), (Nat.le_trans (Nat.le_of_ble_eq_true rfl) hRs)⟩) hS (fun q _ h => hFc q h) hFc (fun r_7 M_8 t H_6 locs ht hvm hw hB hz1 hk1 hS => ?_)
  have hp_9 := hw
  obtain ⟨hP1, hD1⟩ := hB
  rw [ht] at hP1
  have hP : va_P D vwCl ([(xa, (b11_1 x0 (nI x1) x2 (nI x3) x4 x5 x6 x7 x8 x9 x10))] ++ va_pl L M) H_6 := hP1
  have hD : va_D A ([(xa, (b11_1 x0 (nI x1) x2 (nI x3) x4 x5 x6 x7 x8 x9 x10))] ++ va_pl L M) := hD1.mono hFc
  obtain ⟨hp_9, hqx⟩ := hp_9
  rcases r_7 with _ | b_10
  · have hz := rfl (a := 0)
    have hqh := hqx
    refine lv_astoreN (lv' := [(6, .null), (0, .ref xa), (1, .int k1), (2, .int k2), (3, .int k3), (4, .int k4), (5, .int 0)]) hx hb dX11_join_12 hl (by decide) rfl (fun ls hl => ?_)
    refine lv_aload_n hx hb dX11_join_14 rfl (lv_at hl 1 rfl) ?_
    refine lv_iload_n hx hb dX11_join_15 rfl (lv_at hl 4 rfl) ?_
    have hPc : va_P D vwCl ([(xa, (b11_1 x0 (nI x1) x2 (nI x3) x4 x5 x6 x7 x8 x9 x10))] ++ va_pl L M) H_6 := hP
    have hDc : va_D A ([(xa, (b11_1 x0 (nI x1) x2 (nI x3) x4 x5 x6 x7 x8 x9 x10))] ++ va_pl L M) := hD
    have hFc : ∀ q, va_A ([(xa, (b11_1 x0 (nI x1) x2 (nI x3) x4 x5 x6 x7 x8 x9 x10))] ++ va_pl L M) H_6.size q → A q := pg_free hDc hS hA
    refine va_callq (va_runV (As := [.int k3]) (rest := []) ⟨hx, hb, hml, hown, hg⟩ (e_partnerAt l D cy K L M H_6.size xa x0 x1 x2 x3 x4 x5 x6 x7 x8 x9 x10 k3 PK PT  hW i0 b1 i2 b3 i4 i5 i6 i8 hPX) (cwV 1 hg (gV wd_553 wd_554 wd_555 wd_3 wd_556) rfl rfl rfl (by decide +kernel) ⟨(Nat.le_trans (Nat.le_of_ble_eq_true rfl) hRf), (Nat.le_trans (Nat.le_of_ble_eq_true rfl) hRl)⟩) ⟨PG.blind, va_recv hK hP (ci := 11) (q0 := 0) rfl rfl, fun U hU hW => ⟨rfl, PG.at hPc hK hDc hN hU hW⟩⟩ rfl rfl hl.1 rfl (lv_room (Nat.le_of_ble_eq_true rfl)) dX11_join_16 ⟨(Nat.le_trans (Nat.le_of_ble_eq_true rfl) hRc), (Nat.le_trans (Nat.le_of_ble_eq_true rfl) hRs)⟩) hS (fun q _ h => hFc q h) hFc (fun r_12 M_13 t H_11 locs ht hvm hw hB hz1 hk1 hS => ?_)
    have hp_14 := hw
    obtain ⟨hP1, hD1⟩ := hB
    rw [ht] at hP1
    have hP : va_P D vwCl ([(xa, (b11_1 x0 (nI x1) x2 (nI x3) x4 x5 x6 x7 x8 x9 x10))] ++ va_pl L M) H_11 := hP1
    have hD : va_D A ([(xa, (b11_1 x0 (nI x1) x2 (nI x3) x4 x5 x6 x7 x8 x9 x10))] ++ va_pl L M) := hD1.mono hFc
    obtain ⟨hp_14, hqx⟩ := hp_14
    rcases r_12 with _ | b_15
    · have hz := rfl (a := 0)
      have hqp := hqx
      refine lv_astoreN (lv' := [(7, .null), (6, .null), (0, .ref xa), (1, .int k1), (2, .int k2), (3, .int k3), (4, .int k4), (5, .int 0)]) hx hb dX11_join_19 hl (by decide) rfl (fun ls hl => ?_)
      refine lv_aloadN hx hb dX11_join_21 (lv_at hl 1 rfl) ?_
      refine lv_ifnullN (tgt := 38) hx hb dX11_join_23 (by decide) ?_
      refine lv_aload_n hx hb dX11_join_38 rfl (lv_at hl 2 rfl) ?_
      refine lv_iconst (v := 1) hx hb dX11_join_39 (by decide) ?_
      have hPc := hP.sub (ws' := [(xa, (b11_1 x0 (nI x1) x2 (nI x3) x4 x5 x6 x7 x8 x9 x10))]) [0] rfl
      have hDc := hD.sub (ws' := [(xa, (b11_1 x0 (nI x1) x2 (nI x3) x4 x5 x6 x7 x8 x9 x10))]) [0] (by decide) rfl
      have hKc := hK.sub (tys' := []) [] rfl
      have hFc := va_free (wc := [(xa, (b11_1 x0 (nI x1) x2 (nI x3) x4 x5 x6 x7 x8 x9 x10))]) hD hS hA [0] rfl
      refine va_calli (va_runV (As := [.int 1]) (rest := []) ⟨hx, hb, hml, hown, hg⟩ (k_refuse l D H_11.size xa x0 (nI x1) x2 (nI x3) x4 x5 x6 x7 x8 x9 x10 1) (cwV 1 hg (gV wd_344 wd_345 wd_346 wd_3 wd_347) rfl rfl rfl (by decide +kernel) ⟨(Nat.le_trans (Nat.le_of_ble_eq_true rfl) hRf), (Nat.le_trans (Nat.le_of_ble_eq_true rfl) hRl)⟩) ⟨Pr.blind, va_recv hK hP (ci := 11) (q0 := 0) rfl rfl, fun U hU hW => ⟨rfl, Pr.at hPc hKc hDc hN hU hW⟩⟩ rfl rfl hl.1 rfl (lv_room (Nat.le_of_ble_eq_true rfl)) dX11_join_40 ⟨(Nat.le_trans (Nat.le_of_ble_eq_true rfl) hRc), (Nat.le_trans (Nat.le_of_ble_eq_true rfl) hRs)⟩) hS (fun q _ h => hFc q h) hFc (fun r_17 M_18 t H_16 locs ht hvm hw hB hz1 hk1 hS => ?_)
      have hp_19 := hw
      obtain ⟨hP1, hK1, hD1⟩ := hB
      rw [ht] at hP1
      obtain ⟨hP, hD⟩ := va_joinQ (X := [(xa, (b11_1 x0 (nI x1) x2 (nI x3) x4 x5 x6 x7 x8 x9 x10))]) (cx := [(xa, (b11_1 x0 (nI x1) x2 (nI x3) x4 x5 x6 x7 x8 x9 x10))]) (wr := []) (w1 := [(xa, (b11_1 x0 (nI x1) x2 (nI x3) x4 x5 x6 x7 x8 1 (-1)))]) (pl := va_pl L M) hP hD [0] [] rfl rfl (by decide) (by decide) hk1 hFc hP1 hD1
      have hP : va_P D vwCl ([(xa, (b11_1 x0 (nI x1) x2 (nI x3) x4 x5 x6 x7 x8 1 (-1)))] ++ va_pl L M) H_16 := hP
      have hD : va_D A ([(xa, (b11_1 x0 (nI x1) x2 (nI x3) x4 x5 x6 x7 x8 1 (-1)))] ++ va_pl L M) := hD
      have hq := Eq.symm hp_19
      subst hq
      refine W.widen (k := 1) (n := 16) (Nat.le_of_ble_eq_true rfl) (Nat.le_of_ble_eq_true rfl) ?_
      have hnh := hqh.2 rfl
      have hnp := hqp.2 rfl
      have hno : ¬ okJo x1 x3 PK PT SX SY k1 k2 k3 k4 := fun q9 => by obtain ⟨⟨a1, a2, a3, a4⟩, ⟨a5, a6⟩, ⟨a7, a8⟩, ⟨a9, a10⟩, a11, a12⟩ := q9; first | omega | exact a10 hTK | exact a11 hP5 hRC
      have hncr : ¬ okCr x1 x3 PK PT SX SY k1 k2 k3 k4 := fun q9 => by obtain ⟨⟨a1, a2, a3, a4⟩, ⟨a5, a6⟩, ⟨a7, a8⟩, ⟨a9, a10⟩, a11, a12⟩ := q9; first | omega | exact a10 hTK | exact hRC a12 | exact hP5 a11
      rw [hQ]
      exact W.iret (v := (-1)) hx hb hr (fun t ht hW9 => ⟨⟨(-1), (K, L, M), rfl, ⟨hX0, hW, hF, hT2, (by unfold anJo; rw [if_neg hno])⟩, ⟨1, (⟨_, by unfold sxJo syJo; rw [if_neg hno, if_neg hno]; exact hC.mono⟩), (by unfold caJo; rw [if_neg hncr]; exact hRG0), by rw [ht]; exact hP, hD⟩⟩, hS.F ht⟩) hS.2.2 dX11_join_43
    · have hb_20 := hp_14 b_15 rfl
      have hqp := hqx
      refine lv_astore (lv' := [(7, .ref b_15), (6, .null), (0, .ref xa), (1, .int k1), (2, .int k2), (3, .int k3), (4, .int k4), (5, .int 0)]) hx hb dX11_join_19 hl (by decide) rfl (fun ls hl => ?_)
      obtain ⟨hpr9, hpq9⟩ := hqp.1 b_15 rfl
      have hcp : ((k3 : Int32).toNatClampNeg : Int) = (k3 : Int32).toInt := clT (by omega)
      obtain ⟨q9, hpa, hpb, hpc, hpd, hpe⟩ := hPX (k3 : Int32).toNatClampNeg (by omega)
      have hq9e : q9 = b_15 := Option.some.inj (hpa.symm.trans hpq9)
      rw [hq9e] at hpb hpc hpd hpe
      have hpb2 : cV 4 M b_15 0 = k3 := by rw [hpb]; exact (i32_of (by omega) (by omega)).symm
      refine lv_aloadN hx hb dX11_join_21 (lv_at hl 1 rfl) ?_
      refine lv_ifnullN (tgt := 38) hx hb dX11_join_23 (by decide) ?_
      refine lv_aload_n hx hb dX11_join_38 rfl (lv_at hl 2 rfl) ?_
      refine lv_iconst (v := 1) hx hb dX11_join_39 (by decide) ?_
      have hPc := hP.sub (ws' := [(xa, (b11_1 x0 (nI x1) x2 (nI x3) x4 x5 x6 x7 x8 x9 x10))]) [0] rfl
      have hDc := hD.sub (ws' := [(xa, (b11_1 x0 (nI x1) x2 (nI x3) x4 x5 x6 x7 x8 x9 x10))]) [0] (by decide) rfl
      have hKc := hK.sub (tys' := []) [] rfl
      have hFc := va_free (wc := [(xa, (b11_1 x0 (nI x1) x2 (nI x3) x4 x5 x6 x7 x8 x9 x10))]) hD hS hA [0] rfl
      refine va_calli (va_runV (As := [.int 1]) (rest := []) ⟨hx, hb, hml, hown, hg⟩ (k_refuse l D H_11.size xa x0 (nI x1) x2 (nI x3) x4 x5 x6 x7 x8 x9 x10 1) (cwV 1 hg (gV wd_344 wd_345 wd_346 wd_3 wd_347) rfl rfl rfl (by decide +kernel) ⟨(Nat.le_trans (Nat.le_of_ble_eq_true rfl) hRf), (Nat.le_trans (Nat.le_of_ble_eq_true rfl) hRl)⟩) ⟨Pr.blind, va_recv hK hP (ci := 11) (q0 := 0) rfl rfl, fun U hU hW => ⟨rfl, Pr.at hPc hKc hDc hN hU hW⟩⟩ rfl rfl hl.1 rfl (lv_room (Nat.le_of_ble_eq_true rfl)) dX11_join_40 ⟨(Nat.le_trans (Nat.le_of_ble_eq_true rfl) hRc), (Nat.le_trans (Nat.le_of_ble_eq_true rfl) hRs)⟩) hS (fun q _ h => hFc q h) hFc (fun r_22 M_23 t H_21 locs ht hvm hw hB hz1 hk1 hS => ?_)
      have hp_24 := hw
      obtain ⟨hP1, hK1, hD1⟩ := hB
      rw [ht] at hP1
      obtain ⟨hP, hD⟩ := va_joinQ (X := [(xa, (b11_1 x0 (nI x1) x2 (nI x3) x4 x5 x6 x7 x8 x9 x10))]) (cx := [(xa, (b11_1 x0 (nI x1) x2 (nI x3) x4 x5 x6 x7 x8 x9 x10))]) (wr := []) (w1 := [(xa, (b11_1 x0 (nI x1) x2 (nI x3) x4 x5 x6 x7 x8 1 (-1)))]) (pl := va_pl L M) hP hD [0] [] rfl rfl (by decide) (by decide) hk1 hFc hP1 hD1
      have hP : va_P D vwCl ([(xa, (b11_1 x0 (nI x1) x2 (nI x3) x4 x5 x6 x7 x8 1 (-1)))] ++ va_pl L M) H_21 := hP
      have hD : va_D A ([(xa, (b11_1 x0 (nI x1) x2 (nI x3) x4 x5 x6 x7 x8 1 (-1)))] ++ va_pl L M) := hD
      have hq := Eq.symm hp_24
      subst hq
      refine W.widen (k := 1) (n := 16) (Nat.le_of_ble_eq_true rfl) (Nat.le_of_ble_eq_true rfl) ?_
      have hnh := hqh.2 rfl
      have hno : ¬ okJo x1 x3 PK PT SX SY k1 k2 k3 k4 := fun q9 => by obtain ⟨⟨a1, a2, a3, a4⟩, ⟨a5, a6⟩, ⟨a7, a8⟩, ⟨a9, a10⟩, a11, a12⟩ := q9; first | omega | exact a10 hTK | exact a11 hP5 hRC
      have hncr : ¬ okCr x1 x3 PK PT SX SY k1 k2 k3 k4 := fun q9 => by obtain ⟨⟨a1, a2, a3, a4⟩, ⟨a5, a6⟩, ⟨a7, a8⟩, ⟨a9, a10⟩, a11, a12⟩ := q9; first | omega | exact a10 hTK | exact hRC a12 | exact hP5 a11
      rw [hQ]
      exact W.iret (v := (-1)) hx hb hr (fun t ht hW9 => ⟨⟨(-1), (K, L, M), rfl, ⟨hX0, hW, hF, hT2, (by unfold anJo; rw [if_neg hno])⟩, ⟨1, (⟨_, by unfold sxJo syJo; rw [if_neg hno, if_neg hno]; exact hC.mono⟩), (by unfold caJo; rw [if_neg hncr]; exact hRG0), by rw [ht]; exact hP, hD⟩⟩, hS.F ht⟩) hS.2.2 dX11_join_43
  · have hb_25 := hp_9 b_10 rfl
    have hqh := hqx
    refine lv_astore (lv' := [(6, .ref b_10), (0, .ref xa), (1, .int k1), (2, .int k2), (3, .int k3), (4, .int k4), (5, .int 0)]) hx hb dX11_join_12 hl (by decide) rfl (fun ls hl => ?_)
    obtain ⟨hr9, hb9⟩ := hqh.1 b_10 rfl
    have hck : ((k1 : Int32).toNatClampNeg : Int) = (k1 : Int32).toInt := clT (by omega)
    have hkn : (k1 : Int32).toNatClampNeg < x1 := by omega
    have hSM := hC.at hkn hb9
    have hSVk := hSV (k1 : Int32).toNatClampNeg hkn
    have hHIk := hHI (k1 : Int32).toNatClampNeg hkn
    have hV : VC Bo K L M0 M b_10 (cfx M b_10) (cax M b_10) := by rw [hKe, hLe]; exact VC.rb b_10 hW00 hS00 hC00.oc (by rw [← hKe, ← hLe]; exact hC.oc)
    have hb90 : RFc (M0 x0) (k1 : Int32).toNatClampNeg = some b_10 := by rw [← hx00]; exact hb9
    obtain ⟨v26_0, v26_1, v26_2, v26_3, v26_4, v26_5, v26_6, v26_7, v26_8, v26_9, v26_10, v26_11, v26_12, v26_13, v26_14, v26_15, v26_16, v26_17, v26_18, v26_19, hM26, h26_3, h26_4, h26_5, h26_6, h26_7, h26_8, h26_9, h26_10, h26_11, h26_12, h26_13, h26_16, h26_17, h26_18, h26_19⟩ := hW.open_2 hb_25
    have hA_27 : (cV 2 M b_10 0).toInt = (v26_0 : Int32).toInt := by rw [cV_of hM26 rfl]
    have hA_28 : (cV 2 M b_10 1).toInt = (v26_1 : Int32).toInt := by rw [cV_of hM26 rfl]
    have hA_29 : (cV 2 M b_10 2).toInt = (v26_2 : Int32).toInt := by rw [cV_of hM26 rfl]
    have hA_30 : (cV 2 M b_10 4).toInt = ((v26_4 : Nat) : Int) := by rw [cV_of hM26 rfl]; exact nI_toInt (by omega)
    have hA_31 : (cV 2 M b_10 5).toInt = ((v26_5 : Nat) : Int) := by rw [cV_of hM26 rfl]; exact nI_toInt (by omega)
    have hA_32 : (cV 2 M b_10 9).toInt = ((v26_9 : Nat) : Int) := by rw [cV_of hM26 rfl]; exact nI_toInt (by omega)
    have hA_33 : (cV 2 M b_10 11).toInt = ((v26_11 : Nat) : Int) := by rw [cV_of hM26 rfl]; exact nI_toInt (by omega)
    have hA_34 : (cV 2 M b_10 15).toInt = (v26_15 : Int32).toInt := by rw [cV_of hM26 rfl]
    have hq0 : (cV 2 M b_10 1).toInt = SX (k1 : Int32).toNatClampNeg 0 := hSM.x0
    have hq1 : (cV 2 M b_10 2).toInt = SX (k1 : Int32).toNatClampNeg 1 := hSM.x1
    have hq10 : (cV 2 M b_10 9).toInt = SX (k1 : Int32).toNatClampNeg 10 := hSM.x10
    have hq11 : (cV 2 M b_10 11).toInt = SX (k1 : Int32).toNatClampNeg 11 := hSM.x11
    have hq12 : (cV 2 M b_10 4).toInt = SX (k1 : Int32).toNatClampNeg 12 := hSM.x12
    have hq13 : (cV 2 M b_10 5).toInt = SX (k1 : Int32).toNatClampNeg 13 := hSM.x13
    have hq14 : (cV 1 M v26_16 3).toInt = SX (k1 : Int32).toNatClampNeg 14 := by have h9 := hSM.x14; rw [← h9]; show _ = (cV 1 M (rA 2 M b_10 16) 3).toInt; rw [rA_of (j := 16) hM26 rfl]
    have hq15 : (cV 1 M v26_17 3).toInt = SX (k1 : Int32).toNatClampNeg 15 := by have h9 := hSM.x15; rw [← h9]; show _ = (cV 1 M (rA 2 M b_10 17) 3).toInt; rw [rA_of (j := 17) hM26 rfl]
    have hq16 : (cV 10 M v26_18 2).toInt = SX (k1 : Int32).toNatClampNeg 16 := by have h9 := hSM.x16; rw [← h9]; show _ = (cV 10 M (rA 2 M b_10 18) 2).toInt; rw [rA_of (j := 18) hM26 rfl]
    have hq19 : (cV 10 M v26_18 1).toInt = cfx M b_10 19 := by show _ = (cV 10 M (rA 2 M b_10 18) 1).toInt; rw [rA_of (j := 18) hM26 rfl]
    have hun := hSM.un
    have hl16 : (ALc (M (rA 1 M v26_16 1)) : Int) = 120 := by have h9 := hC.oc.l16 hW hb_25; rw [rA_of (j := 16) hM26 rfl] at h9; omega
    have hl17 : (ALc (M (rA 1 M v26_17 1)) : Int) = 20 := by have h9 := hC.oc.l17 hW hb_25; rw [rA_of (j := 17) hM26 rfl] at h9; omega
    have hbd0 := hSVk.b0
    have hbd1 := hSVk.b1
    have hbd10 := hSVk.b10
    have hbd11 := hSVk.b11
    have hbd12 := hSVk.b12
    have hbd13 := hSVk.b13
    have hbd14 := hSVk.b14
    have hbd15 := hSVk.b15
    have hbd16 := hSVk.b16
    have hqx14 : cfx M b_10 14 = SX (k1 : Int32).toNatClampNeg 14 := hSM.x14
    have hqx15 : cfx M b_10 15 = SX (k1 : Int32).toNatClampNeg 15 := hSM.x15
    have hqx16 : cfx M b_10 16 = SX (k1 : Int32).toNatClampNeg 16 := hSM.x16
    refine lv_aload_n hx hb dX11_join_14 rfl (lv_at hl 1 rfl) ?_
    refine lv_iload_n hx hb dX11_join_15 rfl (lv_at hl 4 rfl) ?_
    have hPc : va_P D vwCl ([(xa, (b11_1 x0 (nI x1) x2 (nI x3) x4 x5 x6 x7 x8 x9 x10))] ++ va_pl L M) H_6 := hP
    have hDc : va_D A ([(xa, (b11_1 x0 (nI x1) x2 (nI x3) x4 x5 x6 x7 x8 x9 x10))] ++ va_pl L M) := hD
    have hFc : ∀ q, va_A ([(xa, (b11_1 x0 (nI x1) x2 (nI x3) x4 x5 x6 x7 x8 x9 x10))] ++ va_pl L M) H_6.size q → A q := pg_free hDc hS hA
    refine va_callq (va_runV (As := [.int k3]) (rest := []) ⟨hx, hb, hml, hown, hg⟩ (e_partnerAt l D cy K L M H_6.size xa x0 x1 x2 x3 x4 x5 x6 x7 x8 x9 x10 k3 PK PT  hW i0 b1 i2 b3 i4 i5 i6 i8 hPX) (cwV 1 hg (gV wd_553 wd_554 wd_555 wd_3 wd_556) rfl rfl rfl (by decide +kernel) ⟨(Nat.le_trans (Nat.le_of_ble_eq_true rfl) hRf), (Nat.le_trans (Nat.le_of_ble_eq_true rfl) hRl)⟩) ⟨PG.blind, va_recv hK hP (ci := 11) (q0 := 0) rfl rfl, fun U hU hW => ⟨rfl, PG.at hPc hK hDc hN hU hW⟩⟩ rfl rfl hl.1 rfl (lv_room (Nat.le_of_ble_eq_true rfl)) dX11_join_16 ⟨(Nat.le_trans (Nat.le_of_ble_eq_true rfl) hRc), (Nat.le_trans (Nat.le_of_ble_eq_true rfl) hRs)⟩) hS (fun q _ h => hFc q h) hFc (fun r_36 M_37 t H_35 locs ht hvm hw hB hz1 hk1 hS => ?_)
    have hp_38 := hw
    obtain ⟨hP1, hD1⟩ := hB
    rw [ht] at hP1
    have hP : va_P D vwCl ([(xa, (b11_1 x0 (nI x1) x2 (nI x3) x4 x5 x6 x7 x8 x9 x10))] ++ va_pl L M) H_35 := hP1
    have hD : va_D A ([(xa, (b11_1 x0 (nI x1) x2 (nI x3) x4 x5 x6 x7 x8 x9 x10))] ++ va_pl L M) := hD1.mono hFc
    obtain ⟨hp_38, hqx⟩ := hp_38
    rcases r_36 with _ | b_39
    · have hz := rfl (a := 0)
      have hqp := hqx
      refine lv_astoreN (lv' := [(7, .null), (6, .ref b_10), (0, .ref xa), (1, .int k1), (2, .int k2), (3, .int k3), (4, .int k4), (5, .int 0)]) hx hb dX11_join_19 hl (by decide) rfl (fun ls hl => ?_)
      refine lv_aload hx hb dX11_join_21 (lv_at hl 1 rfl) ?_
      refine lv_ifnull hx hb dX11_join_23 ?_
      refine lv_aloadN hx hb dX11_join_26 (lv_at hl 0 rfl) ?_
      refine lv_ifnullN (tgt := 38) hx hb dX11_join_28 (by decide) ?_
      refine lv_aload_n hx hb dX11_join_38 rfl (lv_at hl 2 rfl) ?_
      refine lv_iconst (v := 1) hx hb dX11_join_39 (by decide) ?_
      have hPc := hP.sub (ws' := [(xa, (b11_1 x0 (nI x1) x2 (nI x3) x4 x5 x6 x7 x8 x9 x10))]) [0] rfl
      have hDc := hD.sub (ws' := [(xa, (b11_1 x0 (nI x1) x2 (nI x3) x4 x5 x6 x7 x8 x9 x10))]) [0] (by decide) rfl
      have hKc := hK.sub (tys' := []) [] rfl
      have hFc := va_free (wc := [(xa, (b11_1 x0 (nI x1) x2 (nI x3) x4 x5 x6 x7 x8 x9 x10))]) hD hS hA [0] rfl
      refine va_calli (va_runV (As := [.int 1]) (rest := []) ⟨hx, hb, hml, hown, hg⟩ (k_refuse l D H_35.size xa x0 (nI x1) x2 (nI x3) x4 x5 x6 x7 x8 x9 x10 1) (cwV 1 hg (gV wd_344 wd_345 wd_346 wd_3 wd_347) rfl rfl rfl (by decide +kernel) ⟨(Nat.le_trans (Nat.le_of_ble_eq_true rfl) hRf), (Nat.le_trans (Nat.le_of_ble_eq_true rfl) hRl)⟩) ⟨Pr.blind, va_recv hK hP (ci := 11) (q0 := 0) rfl rfl, fun U hU hW => ⟨rfl, Pr.at hPc hKc hDc hN hU hW⟩⟩ rfl rfl hl.1 rfl (lv_room (Nat.le_of_ble_eq_true rfl)) dX11_join_40 ⟨(Nat.le_trans (Nat.le_of_ble_eq_true rfl) hRc), (Nat.le_trans (Nat.le_of_ble_eq_true rfl) hRs)⟩) hS (fun q _ h => hFc q h) hFc (fun r_41 M_42 t H_40 locs ht hvm hw hB hz1 hk1 hS => ?_)
      have hp_43 := hw
      obtain ⟨hP1, hK1, hD1⟩ := hB
      rw [ht] at hP1
      obtain ⟨hP, hD⟩ := va_joinQ (X := [(xa, (b11_1 x0 (nI x1) x2 (nI x3) x4 x5 x6 x7 x8 x9 x10))]) (cx := [(xa, (b11_1 x0 (nI x1) x2 (nI x3) x4 x5 x6 x7 x8 x9 x10))]) (wr := []) (w1 := [(xa, (b11_1 x0 (nI x1) x2 (nI x3) x4 x5 x6 x7 x8 1 (-1)))]) (pl := va_pl L M) hP hD [0] [] rfl rfl (by decide) (by decide) hk1 hFc hP1 hD1
      have hP : va_P D vwCl ([(xa, (b11_1 x0 (nI x1) x2 (nI x3) x4 x5 x6 x7 x8 1 (-1)))] ++ va_pl L M) H_40 := hP
      have hD : va_D A ([(xa, (b11_1 x0 (nI x1) x2 (nI x3) x4 x5 x6 x7 x8 1 (-1)))] ++ va_pl L M) := hD
      have hq := Eq.symm hp_43
      subst hq
      refine W.widen (k := 1) (n := 16) (Nat.le_of_ble_eq_true rfl) (Nat.le_of_ble_eq_true rfl) ?_
      have hnp := hqp.2 rfl
      have hno : ¬ okJo x1 x3 PK PT SX SY k1 k2 k3 k4 := fun q9 => by obtain ⟨⟨a1, a2, a3, a4⟩, ⟨a5, a6⟩, ⟨a7, a8⟩, ⟨a9, a10⟩, a11, a12⟩ := q9; first | omega | exact a10 hTK | exact a11 hP5 hRC
      have hncr : ¬ okCr x1 x3 PK PT SX SY k1 k2 k3 k4 := fun q9 => by obtain ⟨⟨a1, a2, a3, a4⟩, ⟨a5, a6⟩, ⟨a7, a8⟩, ⟨a9, a10⟩, a11, a12⟩ := q9; first | omega | exact a10 hTK | exact hRC a12 | exact hP5 a11
      rw [hQ]
      exact W.iret (v := (-1)) hx hb hr (fun t ht hW9 => ⟨⟨(-1), (K, L, M), rfl, ⟨hX0, hW, hF, hT2, (by unfold anJo; rw [if_neg hno])⟩, ⟨1, (⟨_, by unfold sxJo syJo; rw [if_neg hno, if_neg hno]; exact hC.mono⟩), (by unfold caJo; rw [if_neg hncr]; exact hRG0), by rw [ht]; exact hP, hD⟩⟩, hS.F ht⟩) hS.2.2 dX11_join_43
    · have hb_44 := hp_38 b_39 rfl
      have hqp := hqx
      refine lv_astore (lv' := [(7, .ref b_39), (6, .ref b_10), (0, .ref xa), (1, .int k1), (2, .int k2), (3, .int k3), (4, .int k4), (5, .int 0)]) hx hb dX11_join_19 hl (by decide) rfl (fun ls hl => ?_)
      obtain ⟨hpr9, hpq9⟩ := hqp.1 b_39 rfl
      have hcp : ((k3 : Int32).toNatClampNeg : Int) = (k3 : Int32).toInt := clT (by omega)
      obtain ⟨q9, hpa, hpb, hpc, hpd, hpe⟩ := hPX (k3 : Int32).toNatClampNeg (by omega)
      have hq9e : q9 = b_39 := Option.some.inj (hpa.symm.trans hpq9)
      rw [hq9e] at hpb hpc hpd hpe
      have hpb2 : cV 4 M b_39 0 = k3 := by rw [hpb]; exact (i32_of (by omega) (by omega)).symm
      refine lv_aload hx hb dX11_join_21 (lv_at hl 1 rfl) ?_
      refine lv_ifnull hx hb dX11_join_23 ?_
      refine lv_aload hx hb dX11_join_26 (lv_at hl 0 rfl) ?_
      refine lv_ifnull hx hb dX11_join_28 ?_
      refine lv_iload_n hx hb dX11_join_31 rfl (lv_at hl 4 rfl) ?_
      have hPc : va_P D vwCl ([] ++ va_pl L M) H_35 := hP.part (cx := []) [] rfl
      have hDc : va_D A ([] ++ va_pl L M) := hD.part (cx := []) [] (by decide) rfl
      have hFc : ∀ q, va_A ([] ++ va_pl L M) H_35.size q → A q := pg_free hDc hS hA
      refine va_calli (va_runS (As := [.int k2]) (rest := []) ⟨hx, hb, hml, hown, hg⟩ (e_X11_isSeat l D cy K L M H_35.size k2  hW ) (va_cwS 1 hg (gS wd_348 wd_47 wd_3 wd_46) rfl rfl rfl (by decide +kernel) ⟨(Nat.le_trans (Nat.le_of_ble_eq_true rfl) hRf), (Nat.le_trans (Nat.le_of_ble_eq_true rfl) hRl)⟩) ⟨PG.blind, fun U hU hW => ⟨rfl, PG.at hPc hK hDc hN hU hW⟩⟩ rfl rfl hl.1 rfl (lv_room (Nat.le_of_ble_eq_true rfl)) dX11_join_32 ⟨(Nat.le_trans (Nat.le_of_ble_eq_true rfl) hRc), (Nat.le_trans (Nat.le_of_ble_eq_true rfl) hRs)⟩) hS (fun q _ h => hFc q h) hFc (fun r_46 M_47 t H_45 locs ht hvm hw hB hz1 hk1 hS => ?_)
      have hp_48 := hw
      obtain ⟨hP1, hD1⟩ := hB
      rw [ht] at hP1
      obtain ⟨hP, hD⟩ := va_joinP (X := [(xa, (b11_1 x0 (nI x1) x2 (nI x3) x4 x5 x6 x7 x8 x9 x10))]) (cx := []) (wr := [(xa, (b11_1 x0 (nI x1) x2 (nI x3) x4 x5 x6 x7 x8 x9 x10))]) (rx := []) (pl := va_pl L M) (pl1 := va_pl L M) hP hD [] [0] rfl rfl (by decide) (by decide) hk1 hFc hP1 hD1
      have hP : va_P D vwCl ([(xa, (b11_1 x0 (nI x1) x2 (nI x3) x4 x5 x6 x7 x8 x9 x10))] ++ va_pl L M) H_45 := hP
      have hD : va_D A ([(xa, (b11_1 x0 (nI x1) x2 (nI x3) x4 x5 x6 x7 x8 x9 x10))] ++ va_pl L M) := hD
      rcases hp_48 with ⟨rfl, c_49, c_50, c_51⟩ | ⟨rfl, c_52⟩
      · have hz := rfl (a := 0)
        refine lv_if_ne (tgt := 44) hx hb dX11_join_35 (by decide) (fun _ => ?_) (fun c_53 => absurd c_53 (by decide))
        refine lv_aload hx hb dX11_join_44 (lv_at hl 1 rfl) ?_
        refine lv_iload hx hb dX11_join_46 (lv_at hl 6 rfl) ?_
        have hPc : va_P D vwCl ([] ++ va_pl L M) H_45 := hP.part (cx := []) [] rfl
        have hDc : va_D A ([] ++ va_pl L M) := hD.part (cx := []) [] (by decide) rfl
        have hFc : ∀ q, va_A ([] ++ va_pl L M) H_45.size q → A q := pg_free hDc hS hA
        refine va_calli (va_runV (As := [.int k4]) (rest := []) ⟨hx, hb, hml, hown, hg⟩ (e_X2_isFree l D cy K L M H_45.size b_10 k4  hW hb_25) (cwV 1 hg (gV wd_361 wd_362 wd_363 wd_57 wd_364) rfl rfl rfl (by decide +kernel) ⟨(Nat.le_trans (Nat.le_of_ble_eq_true rfl) hRf), (Nat.le_trans (Nat.le_of_ble_eq_true rfl) hRl)⟩) ⟨PG.blind, pg_recv hK hP hb_25.1 hM26 rfl, fun U hU hW => ⟨rfl, PG.at hPc hK hDc hN hU hW⟩⟩ rfl rfl hl.1 rfl (lv_room (Nat.le_of_ble_eq_true rfl)) dX11_join_48 ⟨(Nat.le_trans (Nat.le_of_ble_eq_true rfl) hRc), (Nat.le_trans (Nat.le_of_ble_eq_true rfl) hRs)⟩) hS (fun q _ h => hFc q h) hFc (fun r_55 M_56 t H_54 locs ht hvm hw hB hz1 hk1 hS => ?_)
        have hp_57 := hw
        obtain ⟨hP1, hD1⟩ := hB
        rw [ht] at hP1
        obtain ⟨hP, hD⟩ := va_joinP (X := [(xa, (b11_1 x0 (nI x1) x2 (nI x3) x4 x5 x6 x7 x8 x9 x10))]) (cx := []) (wr := [(xa, (b11_1 x0 (nI x1) x2 (nI x3) x4 x5 x6 x7 x8 x9 x10))]) (rx := []) (pl := va_pl L M) (pl1 := va_pl L M) hP hD [] [0] rfl rfl (by decide) (by decide) hk1 hFc hP1 hD1
        have hP : va_P D vwCl ([(xa, (b11_1 x0 (nI x1) x2 (nI x3) x4 x5 x6 x7 x8 x9 x10))] ++ va_pl L M) H_54 := hP
        have hD : va_D A ([(xa, (b11_1 x0 (nI x1) x2 (nI x3) x4 x5 x6 x7 x8 x9 x10))] ++ va_pl L M) := hD
        rcases hp_57 with ⟨rfl, c_58, c_59, c_60⟩ | ⟨rfl, c_61⟩
        · have hz := rfl (a := 0)
          refine lv_if_ne (tgt := 60) hx hb dX11_join_51 (by decide) (fun _ => ?_) (fun c_62 => absurd c_62 (by decide))
          refine lv_aload hx hb dX11_join_60 (lv_at hl 1 rfl) ?_
          refine pg_get (D := D) (ci := 2) (v := .ref v26_6) (C := RX2) (T := TX2) (N := 20) hx hb hg inG2 hown hK hP hb_25.1 hM26 rfl 6 (by decide) (hg _ wd_350) (fun _ h9 => h9) rfl dX11_join_62 ?_
          refine lv_iload_n hx hb dX11_join_65 rfl (lv_at hl 4 rfl) ?_
          obtain ⟨f63, hM63⟩ := hW.open_52 h26_6
          refine pg_iald hx hb hK hP h26_6.1 0 hM63 rfl (inb k2 6 (by omega) c_50 c_51) dX11_join_66 ?_
          refine lv_topi (fun f_64 ef_64 => ?_)
          have hcs : ((k2 : Int32).toNatClampNeg : Int) = k2.toInt := clT (by omega)
          have h50 : cax M b_10 50 k2.toNatClampNeg = f_64 := by show vLe M b_10 k2.toNatClampNeg = _; unfold vLe; rw [rA_of (j := 6) hM26 rfl, IFc_of hM63, ef_64]
          have h50i := congrArg Int32.toInt h50
          have hse := hSM.se k2.toNatClampNeg (by omega)
          refine lv_if_ne (tgt := 81) hx hb dX11_join_67 (by decide) (fun c_65 => ?_) (fun c_65 => ?_)
          · have hz := rfl (a := 0)
            refine lv_aload_n hx hb dX11_join_81 rfl (lv_at hl 2 rfl) ?_
            refine lv_iconst (v := 4) hx hb dX11_join_82 (by decide) ?_
            have hPc := hP.sub (ws' := [(xa, (b11_1 x0 (nI x1) x2 (nI x3) x4 x5 x6 x7 x8 x9 x10))]) [0] rfl
            have hDc := hD.sub (ws' := [(xa, (b11_1 x0 (nI x1) x2 (nI x3) x4 x5 x6 x7 x8 x9 x10))]) [0] (by decide) rfl
            have hKc := hK.sub (tys' := []) [] rfl
            have hFc := va_free (wc := [(xa, (b11_1 x0 (nI x1) x2 (nI x3) x4 x5 x6 x7 x8 x9 x10))]) hD hS hA [0] rfl
            refine va_calli (va_runV (As := [.int 4]) (rest := []) ⟨hx, hb, hml, hown, hg⟩ (k_refuse l D H_54.size xa x0 (nI x1) x2 (nI x3) x4 x5 x6 x7 x8 x9 x10 4) (cwV 1 hg (gV wd_344 wd_345 wd_346 wd_3 wd_347) rfl rfl rfl (by decide +kernel) ⟨(Nat.le_trans (Nat.le_of_ble_eq_true rfl) hRf), (Nat.le_trans (Nat.le_of_ble_eq_true rfl) hRl)⟩) ⟨Pr.blind, va_recv hK hP (ci := 11) (q0 := 0) rfl rfl, fun U hU hW => ⟨rfl, Pr.at hPc hKc hDc hN hU hW⟩⟩ rfl rfl hl.1 rfl (lv_room (Nat.le_of_ble_eq_true rfl)) dX11_join_83 ⟨(Nat.le_trans (Nat.le_of_ble_eq_true rfl) hRc), (Nat.le_trans (Nat.le_of_ble_eq_true rfl) hRs)⟩) hS (fun q _ h => hFc q h) hFc (fun r_67 M_68 t H_66 locs ht hvm hw hB hz1 hk1 hS => ?_)
            have hp_69 := hw
            obtain ⟨hP1, hK1, hD1⟩ := hB
            rw [ht] at hP1
            obtain ⟨hP, hD⟩ := va_joinQ (X := [(xa, (b11_1 x0 (nI x1) x2 (nI x3) x4 x5 x6 x7 x8 x9 x10))]) (cx := [(xa, (b11_1 x0 (nI x1) x2 (nI x3) x4 x5 x6 x7 x8 x9 x10))]) (wr := []) (w1 := [(xa, (b11_1 x0 (nI x1) x2 (nI x3) x4 x5 x6 x7 x8 4 (-1)))]) (pl := va_pl L M) hP hD [0] [] rfl rfl (by decide) (by decide) hk1 hFc hP1 hD1
            have hP : va_P D vwCl ([(xa, (b11_1 x0 (nI x1) x2 (nI x3) x4 x5 x6 x7 x8 4 (-1)))] ++ va_pl L M) H_66 := hP
            have hD : va_D A ([(xa, (b11_1 x0 (nI x1) x2 (nI x3) x4 x5 x6 x7 x8 4 (-1)))] ++ va_pl L M) := hD
            have hq := Eq.symm hp_69
            subst hq
            refine W.widen (k := 1) (n := 16) (Nat.le_of_ble_eq_true rfl) (Nat.le_of_ble_eq_true rfl) ?_
            have hI_70 : (0 : Int) ≤ (k2 : Int32).toInt := inltI rfl rfl c_50
            have hI_71 : (k2 : Int32).toInt < (6 : Int) := inleI rfl rfl c_51
            have hI_72 : (0 : Int) ≤ (k4 : Int32).toInt := inltI rfl rfl c_59
            have hI_73 : (k4 : Int32).toInt ≤ (999 : Int) := inltI rfl rfl c_60
            have hI_74 : (f_64 : Int32).toInt ≠ (0 : Int) := ineI rfl rfl c_65
            have hlt := hSM.letd (s := k2.toNatClampNeg) (by omega) (by omega)
            have hno : ¬ okJo x1 x3 PK PT SX SY k1 k2 k3 k4 := fun q9 => by obtain ⟨⟨a1, a2, a3, a4⟩, ⟨a5, a6⟩, ⟨a7, a8⟩, ⟨a9, a10⟩, a11, a12⟩ := q9; first | omega | exact a10 hTK | exact a11 hP5 hRC
            have hncr : ¬ okCr x1 x3 PK PT SX SY k1 k2 k3 k4 := fun q9 => by obtain ⟨⟨a1, a2, a3, a4⟩, ⟨a5, a6⟩, ⟨a7, a8⟩, ⟨a9, a10⟩, a11, a12⟩ := q9; first | omega | exact a10 hTK | exact hRC a12 | exact hP5 a11
            rw [hQ]
            exact W.iret (v := (-1)) hx hb hr (fun t ht hW9 => ⟨⟨(-1), (K, L, M), rfl, ⟨hX0, hW, hF, hT2, (by unfold anJo; rw [if_neg hno])⟩, ⟨4, (⟨_, by unfold sxJo syJo; rw [if_neg hno, if_neg hno]; exact hC.mono⟩), (by unfold caJo; rw [if_neg hncr]; exact hRG0), by rw [ht]; exact hP, hD⟩⟩, hS.F ht⟩) hS.2.2 dX11_join_86
          · have hz := rfl (a := 0)
            refine lv_aload hx hb dX11_join_70 (lv_at hl 1 rfl) ?_
            refine lv_iload_n hx hb dX11_join_72 rfl (lv_at hl 4 rfl) ?_
            refine lv_iload hx hb dX11_join_73 (lv_at hl 6 rfl) ?_
            have hPc : va_P D vwCl ([] ++ va_pl L M) H_54 := hP.part (cx := []) [] rfl
            have hDc : va_D A ([] ++ va_pl L M) := hD.part (cx := []) [] (by decide) rfl
            have hFc : ∀ q, va_A ([] ++ va_pl L M) H_54.size q → A q := pg_free hDc hS hA
            refine va_calli (va_runV (As := [.int k2, .int k4]) (rest := []) ⟨hx, hb, hml, hown, hg⟩ (e_vacant l D cy K L M H_54.size b_10 k2 k4  hW hb_25) (cwV 2 hg (gV wd_557 wd_558 wd_559 wd_57 wd_560) rfl rfl rfl (by decide +kernel) ⟨(Nat.le_trans (Nat.le_of_ble_eq_true rfl) hRf), (Nat.le_trans (Nat.le_of_ble_eq_true rfl) hRl)⟩) ⟨PG.blind, pg_recv hK hP hb_25.1 hM26 rfl, fun U hU hW => ⟨rfl, PG.at hPc hK hDc hN hU hW⟩⟩ rfl rfl hl.1 rfl (lv_room (Nat.le_of_ble_eq_true rfl)) dX11_join_75 ⟨(Nat.le_trans (Nat.le_of_ble_eq_true rfl) hRc), (Nat.le_trans (Nat.le_of_ble_eq_true rfl) hRs)⟩) hS (fun q _ h => hFc q h) hFc (fun r_76 M_77 t H_75 locs ht hvm hw hB hz1 hk1 hS => ?_)
            have hp_78 := hw
            obtain ⟨hP1, hD1⟩ := hB
            rw [ht] at hP1
            obtain ⟨hP, hD⟩ := va_joinP (X := [(xa, (b11_1 x0 (nI x1) x2 (nI x3) x4 x5 x6 x7 x8 x9 x10))]) (cx := []) (wr := [(xa, (b11_1 x0 (nI x1) x2 (nI x3) x4 x5 x6 x7 x8 x9 x10))]) (rx := []) (pl := va_pl L M) (pl1 := va_pl L M) hP hD [] [0] rfl rfl (by decide) (by decide) hk1 hFc hP1 hD1
            have hP : va_P D vwCl ([(xa, (b11_1 x0 (nI x1) x2 (nI x3) x4 x5 x6 x7 x8 x9 x10))] ++ va_pl L M) H_75 := hP
            have hD : va_D A ([(xa, (b11_1 x0 (nI x1) x2 (nI x3) x4 x5 x6 x7 x8 x9 x10))] ++ va_pl L M) := hD
            rcases hp_78 with ⟨rfl, c_79⟩ | ⟨rfl, c_80⟩
            · have hz := rfl (a := 0)
              have hvc := hSM.vac (s := k2) (d := k4) (n := (cV 2 M b_10 9).toInt) (by omega) hq10
              have hI_81 : (0 : Int) ≤ (k2 : Int32).toInt := inltI rfl rfl c_50
              have hI_82 : (k2 : Int32).toInt < (6 : Int) := inleI rfl rfl c_51
              have hI_83 : (0 : Int) ≤ (k4 : Int32).toInt := inltI rfl rfl c_59
              have hI_84 : (k4 : Int32).toInt ≤ (999 : Int) := inltI rfl rfl c_60
              have hI_85 : (f_64 : Int32).toInt = (0 : Int) := ieqI rfl rfl c_65
              have hTK : ¬ TKN (SX k1.toNatClampNeg) (SY k1.toNatClampNeg) k2 k4 := hvc.mp c_79
              have hs0 : 0 ≤ (SY k1.toNatClampNeg 9 k2.toNatClampNeg).toInt := by rcases seatOf_or hse.1 with q9 | q9 <;> omega
              refine lv_if_ne (tgt := 87) hx hb dX11_join_78 (by decide) (fun _ => ?_) (fun c_86 => absurd c_86 (by decide))
              refine lv_aload hx hb dX11_join_87 (lv_at hl 0 rfl) ?_
              obtain ⟨v87_0, v87_1, v87_2, v87_3, hM87, h87_3⟩ := hW.open_4 hb_44
              refine pg_get (D := D) (ci := 4) (v := va_rf v87_3) (C := RX4) (T := TX4) (N := 4) hx hb hg inG4 hown hK hP hb_44.1 hM87 rfl 3 (by decide) (hg _ wd_561) (fun _ h9 => h9) rfl dX11_join_89 ?_
              rcases v87_3 with _ | b_88
              · have hz := rfl (a := 0)
                have hP5 : PK k3.toNatClampNeg ≠ 5 := by rcases hpe with ⟨_, _, _, b9, e9, _⟩ | e9; rw [cR_q (q := none) hM87 rfl] at e9; cases e9; exact e9.1
                have hcn : cR 4 M b_39 3 = none := cR_q (q := none) hM87 rfl
                refine lv_ifnullN (tgt := 133) hx hb dX11_join_92 (by decide) ?_
                refine lv_aload hx hb dX11_join_133 (lv_at hl 1 rfl) ?_
                refine pg_get (D := D) (ci := 2) (v := .int (nI v26_9)) (C := RX2) (T := TX2) (N := 20) hx hb hg inG2 hown hK hP hb_25.1 hM26 rfl 9 (by decide) (hg _ wd_465) (fun _ h9 => h9) rfl dX11_join_135 ?_
                refine lv_bipush (v := 24) hx hb dX11_join_138 (by decide) ?_
                refine lv_icmp_lt (tgt := 150) hx hb dX11_join_140 (by decide) (fun c_89 => ?_) (fun c_89 => ?_)
                · have hz := rfl (a := 0)
                  have n_90 : v26_9 < 24 := (iLT (a := v26_9) (b := 24) (by omega) (by omega)).mp c_89
                  have hro9 : 0 ≤ (cfx M b_10) 10 ∧ (cfx M b_10) 10 < 24 := by have h9 := hSM.x10; have h8 : (cfx M b_10) 10 = SX k1.toNatClampNeg 10 := h9; omega
                  have hnn9 : (cax M b_10) 28 ((cfx M b_10) 10).toNat ≠ 1 := fun z9 => by have h9 := hSM.x10; have h8 : (cfx M b_10) 10 = SX k1.toNatClampNeg 10 := h9; have h7 := (hSM.tn ((cfx M b_10) 10).toNat (by omega)).mp z9; omega
                  refine lv_aload_n hx hb dX11_join_150 rfl (lv_at hl 2 rfl) ?_
                  refine lv_aload hx hb dX11_join_151 (lv_at hl 1 rfl) ?_
                  refine lv_aload hx hb dX11_join_153 (lv_at hl 0 rfl) ?_
                  refine lv_iload_n hx hb dX11_join_155 rfl (lv_at hl 4 rfl) ?_
                  refine lv_iload hx hb dX11_join_156 (lv_at hl 6 rfl) ?_
                  refine lv_iload hx hb dX11_join_158 (lv_at hl 7 rfl) ?_
                  have hPc : va_P D vwCl ([] ++ va_pl L M) H_75 := hP.part (cx := []) [] rfl
                  have hDc : va_D A ([] ++ va_pl L M) := hD.part (cx := []) [] (by decide) rfl
                  have hFc : ∀ q, va_A ([] ++ va_pl L M) H_75.size q → A q := pg_free hDc hS hA
                  refine va_calli (va_runV (As := [.ref b_39, .int k2, .int k4, .int 0]) (rest := [.ref xa]) ⟨hx, hb, hml, hown, hg⟩ (e_addT_0 l D cy K L M H_75.size b_10 b_39 k2 k4 Bo M0 (cfx M b_10) (cax M b_10)  hW hb_25 hb_44 hV hro9 c_49 hnn9) (cwV 4 hg (gV wd_562 wd_563 wd_564 wd_57 wd_565) rfl rfl rfl (by decide +kernel) ⟨(Nat.le_trans (Nat.le_of_ble_eq_true rfl) hRf), (Nat.le_trans (Nat.le_of_ble_eq_true rfl) hRl)⟩) ⟨PG.blind, pg_recv hK hP hb_25.1 hM26 rfl, fun U hU hW => ⟨rfl, PG.at hPc hK hDc hN hU hW⟩⟩ rfl rfl hl.1 rfl (lv_room (Nat.le_of_ble_eq_true rfl)) dX11_join_160 ⟨(Nat.le_trans (Nat.le_of_ble_eq_true rfl) hRc), (Nat.le_trans (Nat.le_of_ble_eq_true rfl) hRs)⟩) hS (fun q _ h => hFc q h) hFc (fun r_92 M_93 t H_91 locs ht hvm hw hB hz1 hk1 hS => ?_)
                  have hWb := hW
                  obtain ⟨K9, L9, M_93m⟩ := M_93
                  dsimp only at hw hB
                  obtain ⟨hx9, hW, hF2, gT2, hp_94⟩ := hw
                  obtain ⟨hg_95, hg_96, hg_97, hP1, hD1⟩ := hB
                  rw [ht] at hP1
                  obtain ⟨hP, hD⟩ := va_joinP (X := [(xa, (b11_1 x0 (nI x1) x2 (nI x3) x4 x5 x6 x7 x8 x9 x10))]) (cx := []) (wr := [(xa, (b11_1 x0 (nI x1) x2 (nI x3) x4 x5 x6 x7 x8 x9 x10))]) (rx := []) (pl := va_pl L M) (pl1 := va_pl L9 M_93m) hP hD [] [0] rfl rfl (by decide) (by decide) hk1 hFc hP1 hD1
                  have hP : va_P D vwCl ([(xa, (b11_1 x0 (nI x1) x2 (nI x3) x4 x5 x6 x7 x8 x9 x10))] ++ va_pl L9 M_93m) H_91 := hP
                  have hD : va_D A ([(xa, (b11_1 x0 (nI x1) x2 (nI x3) x4 x5 x6 x7 x8 x9 x10))] ++ va_pl L9 M_93m) := hD
                  have hM_98 : M_93m v26_6 = .inl (cy 14, 6, .inl (f63)) := (hF2.at h26_6 (by decide)).trans hM63
                  have hM_99 : M_93m b_39 = .inr (4, [.int v87_0, .int v87_1, .int v87_2, va_rf none]) := (hF2.at hb_44 (by decide)).trans hM87
                  have hF : fr K0 L0 [2, 5, 58, 59, 61, 62] M0 M_93m := hF.trX hX0 hF2 (by decide)
                  have hT2 : fT 2 K0 L0 [9, 15] M0 M_93m := hT2.trX hX0 gT2 (by decide)
                  have hX0 := hX0.tr hx9
                  obtain ⟨B_100, f_101, hf9, hV⟩ := hg_95
                  have hRGa : RGS M M_93m x5 := RGS.of hWb i5 hF2 (by decide) (by decide)
                  have hNW9 := hg_96
                  have hsl9 := hg_97
                  have hp4 : ∀ q, isk K9 L9 q 4 0 → isk K0 L0 q 4 0 := fun q iq => hp4 q (hNW9.2 q iq)
                  have i_102 := i0.ext hx9
                  have i_103 := i2.ext hx9
                  have i_104 := i4.ext hx9
                  have i_105 := i5.ext hx9
                  have i_106 := i6.ext hx9
                  have i_107 := i8.ext hx9
                  have i_108 := hb_25.ext hx9
                  have i_109 := h26_6.ext hx9
                  have i_110 := hb_44.ext hx9
                  obtain ⟨K, L, hK9, hL9⟩ : ∃ (K : Kp) (L : List Nat), K = K9 ∧ L = L9 := ⟨_, _, rfl, rfl⟩
                  subst hK9
                  subst hL9
                  refine W.widen (k := 1) (n := 16) (Nat.le_of_ble_eq_true rfl) (Nat.le_of_ble_eq_true rfl) ?_
                  obtain rfl := hp_94
                  have hPc := hP.sub (ws' := [(xa, (b11_1 x0 (nI x1) x2 (nI x3) x4 x5 x6 x7 x8 x9 x10))]) [0] rfl
                  have hDc := hD.sub (ws' := [(xa, (b11_1 x0 (nI x1) x2 (nI x3) x4 x5 x6 x7 x8 x9 x10))]) [0] (by decide) rfl
                  have hKc := hK.sub (tys' := []) [] rfl
                  have hFc := va_free (wc := [(xa, (b11_1 x0 (nI x1) x2 (nI x3) x4 x5 x6 x7 x8 x9 x10))]) hD hS hA [0] rfl
                  refine va_calli (va_runV (As := [.int (nI ((cfx M b_10) 10).toNat)]) (rest := []) ⟨hx, hb, hml, hown, hg⟩ (k_accept l D H_91.size xa x0 (nI x1) x2 (nI x3) x4 x5 x6 x7 x8 x9 x10 (nI ((cfx M b_10) 10).toNat)) (cwV 1 hg (gV wd_356 wd_357 wd_358 wd_3 wd_359) rfl rfl rfl (by decide +kernel) ⟨(Nat.le_trans (Nat.le_of_ble_eq_true rfl) hRf), (Nat.le_trans (Nat.le_of_ble_eq_true rfl) hRl)⟩) ⟨Pr.blind, va_recv hK hP (ci := 11) (q0 := 0) rfl rfl, fun U hU hW => ⟨rfl, Pr.at hPc hKc hDc hN hU hW⟩⟩ rfl rfl hl.1 rfl (lv_room (Nat.le_of_ble_eq_true rfl)) dX11_join_163 ⟨(Nat.le_trans (Nat.le_of_ble_eq_true rfl) hRc), (Nat.le_trans (Nat.le_of_ble_eq_true rfl) hRs)⟩) hS (fun q _ h => hFc q h) hFc (fun r_112 M_113 t H_111 locs ht hvm hw hB hz1 hk1 hS => ?_)
                  have hp_114 := hw
                  obtain ⟨hP1, hK1, hD1⟩ := hB
                  rw [ht] at hP1
                  obtain ⟨hP, hD⟩ := va_joinQ (X := [(xa, (b11_1 x0 (nI x1) x2 (nI x3) x4 x5 x6 x7 x8 x9 x10))]) (cx := [(xa, (b11_1 x0 (nI x1) x2 (nI x3) x4 x5 x6 x7 x8 x9 x10))]) (wr := []) (w1 := [(xa, (b11_1 x0 (nI x1) x2 (nI x3) x4 x5 x6 x7 x8 0 (-1)))]) (pl := va_pl L M_93m) hP hD [0] [] rfl rfl (by decide) (by decide) hk1 hFc hP1 hD1
                  have hP : va_P D vwCl ([(xa, (b11_1 x0 (nI x1) x2 (nI x3) x4 x5 x6 x7 x8 0 (-1)))] ++ va_pl L M_93m) H_111 := hP
                  have hD : va_D A ([(xa, (b11_1 x0 (nI x1) x2 (nI x3) x4 x5 x6 x7 x8 0 (-1)))] ++ va_pl L M_93m) := hD
                  have hq := Eq.symm hp_114
                  subst hq
                  have hI_115 : ((v26_9 : Nat) : Int) < (24 : Int) := iltI (nI_toInt (by omega)) rfl c_89
                  have hyes : okJo x1 x3 PK PT SX SY k1 k2 k3 k4 := ⟨⟨by omega, by omega, by omega, by omega⟩, ⟨by omega, by omega⟩, ⟨by omega, by omega⟩, ⟨hs0, hTK⟩, (fun q9 => absurd q9 hP5), by omega⟩
                  have hncr : ¬ okCr x1 x3 PK PT SX SY k1 k2 k3 k4 := fun q9 => by obtain ⟨⟨a1, a2, a3, a4⟩, ⟨a5, a6⟩, ⟨a7, a8⟩, ⟨a9, a10⟩, a11, a12⟩ := q9; first | omega | exact a10 hTK | exact hRC a12 | exact hP5 a11
                  have hk40 : M b_39 = M b_39 := rfl
                  have hcv40 : cV 4 M b_39 0 = k3 := by rw [cV_eq hk40]; exact hpb2
                  have hcr40 : cR 4 M b_39 3 = cR 4 M b_39 3 := cR_eq hk40
                  have hkd40 : cV 4 M b_39 1 = PK k3.toNatClampNeg := by rw [cV_eq hk40]; exact hpc
                  have hc15 : (cV 2 M b_10 15).toInt = cfx M b_10 18 := rfl
                  have hou : owN M (cR 4 M b_39 3) = ownP PK PT k3 := by rw [hcr40, hcn, ownN hP5]; rfl
                  have hob9 : owB M (cV 2 M b_10 15) (cR 4 M b_39 3) = cfx M b_10 18 := by rw [hcr40, hcn]; exact hc15
                  have hbt9 : ∀ o : Nat, o < 8 → ((owB M (cV 2 M b_10 15) (cR 4 M b_39 3) / 2 ^ o) % 2 = 1 ↔ ((cfx M b_10 18 / 2 ^ o) % 2 = 1 ∨ (ownP PK PT k3).toInt = (o : Int))) := fun o ho => by rw [hob9, ownN hP5]; exact ⟨Or.inl, fun z => z.resolve_right (fun w => by rw [show (-1 : Int32).toInt = -1 from rfl] at w; omega)⟩
                  have hbd9 : 0 ≤ owB M (cV 2 M b_10 15) (cR 4 M b_39 3) ∧ owB M (cV 2 M b_10 15) (cR 4 M b_39 3) < 256 := by rw [hob9]; exact hSM.ob
                  obtain ⟨f19, f20, f21, f22, f23, f24, f25, f26, f27, f28, f29⟩ := hf9
                  have h500 : cax M b_10 50 k2.toNatClampNeg = 0 := by rw [h50]; assumption
                  rw [hQ]
                  exact W.iret (v := (nI ((cfx M b_10) 10).toNat)) hx hb hr (fun t ht hW9 => ⟨⟨(nI ((cfx M b_10) 10).toNat), (K, L, M_93m), rfl, ⟨hX0, hW, hF, hT2, (by unfold anJo; rw [if_pos hyes]; exact congrArg nI (congrArg Int.toNat hSM.x10))⟩, ⟨0, (⟨_, by unfold sxJo syJo; rw [if_pos hyes, if_pos hyes]; exact hC00.fin hW00 i000 b1 hkn hb90 hV hX0 (congrArg RFc (hF.at i000 (by decide))) (fun q iq => ⟨hp4 q iq, cR_c (fr.cv hF (by decide) q (hp4 q iq) 3 rfl)⟩) (((hSM.ten (s := k2) (p := k3) (d := k4) (by omega) (by omega) h500 (by omega) (f19.trans hcv40) f20 f21 f22 f23 f24 f25 f26 (f29.trans hkd40) (f27.trans hou) f28 hbd9 hbt9).up1))⟩), (by unfold caJo; rw [if_neg hncr]; exact (hRG0.mv hRGa)), by rw [ht]; exact hP, hD⟩⟩, hS.F ht⟩) hS.2.2 dX11_join_166
                · have hz := rfl (a := 0)
                  have n_116 : ¬ (v26_9 < 24) := fun q => c_89 ((iLT (a := v26_9) (b := 24) (by omega) (by omega)).mpr q)
                  refine lv_aload_n hx hb dX11_join_143 rfl (lv_at hl 2 rfl) ?_
                  refine lv_bipush (v := 9) hx hb dX11_join_144 (by decide) ?_
                  have hPc := hP.sub (ws' := [(xa, (b11_1 x0 (nI x1) x2 (nI x3) x4 x5 x6 x7 x8 x9 x10))]) [0] rfl
                  have hDc := hD.sub (ws' := [(xa, (b11_1 x0 (nI x1) x2 (nI x3) x4 x5 x6 x7 x8 x9 x10))]) [0] (by decide) rfl
                  have hKc := hK.sub (tys' := []) [] rfl
                  have hFc := va_free (wc := [(xa, (b11_1 x0 (nI x1) x2 (nI x3) x4 x5 x6 x7 x8 x9 x10))]) hD hS hA [0] rfl
                  refine va_calli (va_runV (As := [.int 9]) (rest := []) ⟨hx, hb, hml, hown, hg⟩ (k_refuse l D H_75.size xa x0 (nI x1) x2 (nI x3) x4 x5 x6 x7 x8 x9 x10 9) (cwV 1 hg (gV wd_344 wd_345 wd_346 wd_3 wd_347) rfl rfl rfl (by decide +kernel) ⟨(Nat.le_trans (Nat.le_of_ble_eq_true rfl) hRf), (Nat.le_trans (Nat.le_of_ble_eq_true rfl) hRl)⟩) ⟨Pr.blind, va_recv hK hP (ci := 11) (q0 := 0) rfl rfl, fun U hU hW => ⟨rfl, Pr.at hPc hKc hDc hN hU hW⟩⟩ rfl rfl hl.1 rfl (lv_room (Nat.le_of_ble_eq_true rfl)) dX11_join_146 ⟨(Nat.le_trans (Nat.le_of_ble_eq_true rfl) hRc), (Nat.le_trans (Nat.le_of_ble_eq_true rfl) hRs)⟩) hS (fun q _ h => hFc q h) hFc (fun r_118 M_119 t H_117 locs ht hvm hw hB hz1 hk1 hS => ?_)
                  have hp_120 := hw
                  obtain ⟨hP1, hK1, hD1⟩ := hB
                  rw [ht] at hP1
                  obtain ⟨hP, hD⟩ := va_joinQ (X := [(xa, (b11_1 x0 (nI x1) x2 (nI x3) x4 x5 x6 x7 x8 x9 x10))]) (cx := [(xa, (b11_1 x0 (nI x1) x2 (nI x3) x4 x5 x6 x7 x8 x9 x10))]) (wr := []) (w1 := [(xa, (b11_1 x0 (nI x1) x2 (nI x3) x4 x5 x6 x7 x8 9 (-1)))]) (pl := va_pl L M) hP hD [0] [] rfl rfl (by decide) (by decide) hk1 hFc hP1 hD1
                  have hP : va_P D vwCl ([(xa, (b11_1 x0 (nI x1) x2 (nI x3) x4 x5 x6 x7 x8 9 (-1)))] ++ va_pl L M) H_117 := hP
                  have hD : va_D A ([(xa, (b11_1 x0 (nI x1) x2 (nI x3) x4 x5 x6 x7 x8 9 (-1)))] ++ va_pl L M) := hD
                  have hq := Eq.symm hp_120
                  subst hq
                  refine W.widen (k := 1) (n := 16) (Nat.le_of_ble_eq_true rfl) (Nat.le_of_ble_eq_true rfl) ?_
                  have hI_121 : (24 : Int) ≤ ((v26_9 : Nat) : Int) := inltI (nI_toInt (by omega)) rfl c_89
                  have hA_122 : (cV 4 M b_39 0).toInt = (v87_0 : Int32).toInt := by rw [cV_of hM87 rfl]
                  have hA_123 : (cV 4 M b_39 1).toInt = (v87_1 : Int32).toInt := by rw [cV_of hM87 rfl]
                  have hA_124 : (cV 4 M b_39 2).toInt = (v87_2 : Int32).toInt := by rw [cV_of hM87 rfl]
                  have hno : ¬ okJo x1 x3 PK PT SX SY k1 k2 k3 k4 := fun q9 => by obtain ⟨⟨a1, a2, a3, a4⟩, ⟨a5, a6⟩, ⟨a7, a8⟩, ⟨a9, a10⟩, a11, a12⟩ := q9; first | omega | exact a10 hTK | exact a11 hP5 hRC
                  have hncr : ¬ okCr x1 x3 PK PT SX SY k1 k2 k3 k4 := fun q9 => by obtain ⟨⟨a1, a2, a3, a4⟩, ⟨a5, a6⟩, ⟨a7, a8⟩, ⟨a9, a10⟩, a11, a12⟩ := q9; first | omega | exact a10 hTK | exact hRC a12 | exact hP5 a11
                  rw [hQ]
                  exact W.iret (v := (-1)) hx hb hr (fun t ht hW9 => ⟨⟨(-1), (K, L, M), rfl, ⟨hX0, hW, hF, hT2, (by unfold anJo; rw [if_neg hno])⟩, ⟨9, (⟨_, by unfold sxJo syJo; rw [if_neg hno, if_neg hno]; exact hC.mono⟩), (by unfold caJo; rw [if_neg hncr]; exact hRG0), by rw [ht]; exact hP, hD⟩⟩, hS.F ht⟩) hS.2.2 dX11_join_149
              · have hb_125 := h87_3 b_88 rfl
                have hcn : cR 4 M b_39 3 = some b_88 := cR_q (q := (some b_88)) hM87 rfl
                have hpf : PK k3.toNatClampNeg = 5 ∧ 0 ≤ (PT k3.toNatClampNeg).toInt ∧ (PT k3.toNatClampNeg).toInt < (x1 : Int) ∧ RFc (M x0) (PT k3.toNatClampNeg).toNatClampNeg = some b_88 := by rcases hpe with ⟨z1, z2, z3, b9, e9, z4⟩ | e9; rw [hcn] at e9; cases e9; exact ⟨z1, z2, z3, z4⟩; rw [hcn] at e9; exact absurd e9.2 (by intro z9; cases z9)
                obtain ⟨hP5, hpg, hph, hpi⟩ := hpf
                have hcpt : ((PT k3.toNatClampNeg).toNatClampNeg : Int) = (PT k3.toNatClampNeg).toInt := clT hpg
                have hSM2 := hC.at (k := (PT k3.toNatClampNeg).toNatClampNeg) (by omega) hpi
                have hn20 : (cV 2 M b_88 0).toInt = (((PT k3.toNatClampNeg).toNatClampNeg : Nat) : Int) := hSM2.x20
                refine lv_ifnull hx hb dX11_join_92 ?_
                refine lv_aload_n hx hb dX11_join_95 rfl (lv_at hl 2 rfl) ?_
                refine va_get (D := D) (ci := 11) (v := .ref x5) (C := RX11) (T := TX11) (N := 11) hx hb hg inG11 hown hK hP 0 rfl rfl 5 (by decide) (hg _ wd_371) (fun _ h9 => h9) rfl dX11_join_96 ?_
                refine lv_aload_n hx hb dX11_join_99 rfl (lv_at hl 2 rfl) ?_
                refine va_get (D := D) (ci := 11) (v := .ref x0) (C := RX11) (T := TX11) (N := 11) hx hb hg inG11 hown hK hP 0 rfl rfl 0 (by decide) (hg _ wd_337) (fun _ h9 => h9) rfl dX11_join_100 ?_
                refine lv_aload_n hx hb dX11_join_103 rfl (lv_at hl 2 rfl) ?_
                refine va_get (D := D) (ci := 11) (v := .int (nI x1)) (C := RX11) (T := TX11) (N := 11) hx hb hg inG11 hown hK hP 0 rfl rfl 1 (by decide) (hg _ wd_336) (fun _ h9 => h9) rfl dX11_join_104 ?_
                refine lv_aload hx hb dX11_join_107 (lv_at hl 1 rfl) ?_
                refine pg_get (D := D) (ci := 2) (v := .int v26_0) (C := RX2) (T := TX2) (N := 20) hx hb hg inG2 hown hK hP hb_25.1 hM26 rfl 0 (by decide) (hg _ wd_566) (fun _ h9 => h9) rfl dX11_join_109 ?_
                refine lv_aload hx hb dX11_join_112 (lv_at hl 0 rfl) ?_
                refine pg_get (D := D) (ci := 4) (v := va_rf (some b_88)) (C := RX4) (T := TX4) (N := 4) hx hb hg inG4 hown hK hP hb_44.1 hM87 rfl 3 (by decide) (hg _ wd_561) (fun _ h9 => h9) rfl dX11_join_114 ?_
                obtain ⟨v126_0, v126_1, v126_2, v126_3, v126_4, v126_5, v126_6, v126_7, v126_8, v126_9, v126_10, v126_11, v126_12, v126_13, v126_14, v126_15, v126_16, v126_17, v126_18, v126_19, hM126, h126_3, h126_4, h126_5, h126_6, h126_7, h126_8, h126_9, h126_10, h126_11, h126_12, h126_13, h126_16, h126_17, h126_18, h126_19⟩ := hW.open_2 hb_125
                refine pg_get (D := D) (ci := 2) (v := .int v126_0) (C := RX2) (T := TX2) (N := 20) hx hb hg inG2 hown hK hP hb_125.1 hM126 rfl 0 (by decide) (hg _ wd_566) (fun _ h9 => h9) rfl dX11_join_117 ?_
                have hn0 : (cV 2 M b_10 0).toInt = ((k1.toNatClampNeg : Nat) : Int) := hSM.x20
                have hv3 : v26_0 = nI k1.toNatClampNeg := i32_of (by rw [← hn0, cV_of (j := 0) hM26 rfl]) (by omega)
                have hv4 : v126_0 = nI (PT k3.toNatClampNeg).toNatClampNeg := i32_of (by rw [← hn20, cV_of (j := 0) hM126 rfl]) (by omega)
                have hsv9 := Eq.symm hv3
                subst hsv9
                have hsv9 := Eq.symm hv4
                subst hsv9
                have hWj := hW
                obtain ⟨v127_0, v127_1, v127_2, hM127, h127_0, h127_1⟩ := hW.open_5 i5
                have hPc : va_P D vwCl ([] ++ va_pl L M) H_75 := hP.part (cx := []) [] rfl
                have hDc : va_D A ([] ++ va_pl L M) := hD.part (cx := []) [] (by decide) rfl
                have hFc : ∀ q, va_A ([] ++ va_pl L M) H_75.size q → A q := pg_free hDc hS hA
                refine va_calli (va_runV (As := [.ref x0, .int (nI x1), .int (nI k1.toNatClampNeg), .int (nI (PT k3.toNatClampNeg).toNatClampNeg)]) (rest := []) ⟨hx, hb, hml, hown, hg⟩ (e_trace l D cy K L M H_75.size x5 x0 x1 k1.toNatClampNeg ((PT k3.toNatClampNeg).toNatClampNeg) (ownS PK PT SX SY) v127_0 v127_1 v127_2 hW i5 i0 b1 (by omega) (by omega) hC.owq hM127 h127_0 h127_1) (cwV 4 hg (gV wd_567 wd_568 wd_569 wd_309 wd_570) rfl rfl rfl (by decide +kernel) ⟨(Nat.le_trans (Nat.le_of_ble_eq_true rfl) hRf), (Nat.le_trans (Nat.le_of_ble_eq_true rfl) hRl)⟩) ⟨PG.blind, pg_recv hK hP i5.1 hM127 rfl, fun U hU hW => ⟨rfl, PG.at hPc hK hDc hN hU hW⟩⟩ rfl rfl hl.1 rfl (lv_room (Nat.le_of_ble_eq_true rfl)) dX11_join_120 ⟨(Nat.le_trans (Nat.le_of_ble_eq_true rfl) hRc), (Nat.le_trans (Nat.le_of_ble_eq_true rfl) hRs)⟩) hS (fun q _ h => hFc q h) hFc (fun r_129 M_130 t H_128 locs ht hvm hw hB hz1 hk1 hS => ?_)
                have hWb := hW
                obtain ⟨hW, hF2, hVP, hp_131⟩ := hw
                obtain ⟨hP1, hD1⟩ := hB
                rw [ht] at hP1
                obtain ⟨hP, hD⟩ := va_joinP (X := [(xa, (b11_1 x0 (nI x1) x2 (nI x3) x4 x5 x6 x7 x8 x9 x10))]) (cx := []) (wr := [(xa, (b11_1 x0 (nI x1) x2 (nI x3) x4 x5 x6 x7 x8 x9 x10))]) (rx := []) (pl := va_pl L M) (pl1 := va_pl L M_130) hP hD [] [0] rfl rfl (by decide) (by decide) hk1 hFc hP1 hD1
                have hP : va_P D vwCl ([(xa, (b11_1 x0 (nI x1) x2 (nI x3) x4 x5 x6 x7 x8 x9 x10))] ++ va_pl L M_130) H_128 := hP
                have hD : va_D A ([(xa, (b11_1 x0 (nI x1) x2 (nI x3) x4 x5 x6 x7 x8 x9 x10))] ++ va_pl L M_130) := hD
                have hM_132 : M_130 b_10 = (b2_2 (nI k1.toNatClampNeg) v26_1 v26_2 v26_3 (nI v26_4) (nI v26_5) v26_6 v26_7 v26_8 (nI v26_9) v26_10 (nI v26_11) v26_12 v26_13 v26_14 v26_15 v26_16 v26_17 v26_18 v26_19) := (hF2.at hb_25 (by decide)).trans hM26
                have hM_133 : M_130 v26_6 = .inl (cy 14, 6, .inl (f63)) := (hF2.at h26_6 (by decide)).trans hM63
                have hM_134 : M_130 b_39 = .inr (4, [.int v87_0, .int v87_1, .int v87_2, va_rf (some b_88)]) := (hF2.at hb_44 (by decide)).trans hM87
                have hM_135 : M_130 b_88 = (b2_2 (nI (PT k3.toNatClampNeg).toNatClampNeg) v126_1 v126_2 v126_3 (nI v126_4) (nI v126_5) v126_6 v126_7 v126_8 (nI v126_9) v126_10 (nI v126_11) v126_12 v126_13 v126_14 v126_15 v126_16 v126_17 v126_18 v126_19) := (hF2.at hb_125 (by decide)).trans hM126
                have hF : fr K0 L0 [2, 5, 58, 59, 61, 62] M0 M_130 := hF.trX hX0 hF2 (by decide)
                have hT2 : fT 2 K0 L0 [9, 15] M0 M_130 := hT2.frrX hX0 hF2 (by decide)
                have hV : VC Bo K L M0 M_130 b_10 (cfx M b_10) (cax M b_10) := hV.same hWb hb_25 (SAME.fr (fr.cv hF2 (by decide)) (fr.cv hF2 (by decide)) (fr.cv hF2 (by decide)) (fr.cv hF2 (by decide)) (fr.cv hF2 (by decide)) (fr.cv hF2 (by decide)) (fr.cv hF2 (by decide)) hF2 (by decide))
                rcases hp_131 with ⟨rfl, c_136⟩ | ⟨rfl, c_137⟩
                · have hz := rfl (a := 0)
                  have hSj : SAME K L M M_130 := (SAME.fr (fr.cv hF2 (by decide)) (fr.cv hF2 (by decide)) (fr.cv hF2 (by decide)) (fr.cv hF2 (by decide)) (fr.cv hF2 (by decide)) (fr.cv hF2 (by decide)) (fr.cv hF2 (by decide)) hF2 (by decide))
                  have hxj : RFc (M_130 x0) = RFc (M x0) := by rw [hF2.at i0 (by decide)]
                  have hRC := c_136
                  have hRGt := hVP
                  have hFj := hF2
                  have ip4j := hb_44
                  have ibj := hb_25
                  have ib2j := hb_125
                  refine lv_if_eq (tgt := 133) hx hb dX11_join_123 (by decide) (fun c_138 => absurd c_138 (by decide)) (fun _ => ?_)
                  refine lv_aload_n hx hb dX11_join_126 rfl (lv_at hl 2 rfl) ?_
                  refine lv_bipush (v := 8) hx hb dX11_join_127 (by decide) ?_
                  have hPc := hP.sub (ws' := [(xa, (b11_1 x0 (nI x1) x2 (nI x3) x4 x5 x6 x7 x8 x9 x10))]) [0] rfl
                  have hDc := hD.sub (ws' := [(xa, (b11_1 x0 (nI x1) x2 (nI x3) x4 x5 x6 x7 x8 x9 x10))]) [0] (by decide) rfl
                  have hKc := hK.sub (tys' := []) [] rfl
                  have hFc := va_free (wc := [(xa, (b11_1 x0 (nI x1) x2 (nI x3) x4 x5 x6 x7 x8 x9 x10))]) hD hS hA [0] rfl
                  refine va_calli (va_runV (As := [.int 8]) (rest := []) ⟨hx, hb, hml, hown, hg⟩ (k_refuse l D H_128.size xa x0 (nI x1) x2 (nI x3) x4 x5 x6 x7 x8 x9 x10 8) (cwV 1 hg (gV wd_344 wd_345 wd_346 wd_3 wd_347) rfl rfl rfl (by decide +kernel) ⟨(Nat.le_trans (Nat.le_of_ble_eq_true rfl) hRf), (Nat.le_trans (Nat.le_of_ble_eq_true rfl) hRl)⟩) ⟨Pr.blind, va_recv hK hP (ci := 11) (q0 := 0) rfl rfl, fun U hU hW => ⟨rfl, Pr.at hPc hKc hDc hN hU hW⟩⟩ rfl rfl hl.1 rfl (lv_room (Nat.le_of_ble_eq_true rfl)) dX11_join_129 ⟨(Nat.le_trans (Nat.le_of_ble_eq_true rfl) hRc), (Nat.le_trans (Nat.le_of_ble_eq_true rfl) hRs)⟩) hS (fun q _ h => hFc q h) hFc (fun r_140 M_141 t H_139 locs ht hvm hw hB hz1 hk1 hS => ?_)
                  have hp_142 := hw
                  obtain ⟨hP1, hK1, hD1⟩ := hB
                  rw [ht] at hP1
                  obtain ⟨hP, hD⟩ := va_joinQ (X := [(xa, (b11_1 x0 (nI x1) x2 (nI x3) x4 x5 x6 x7 x8 x9 x10))]) (cx := [(xa, (b11_1 x0 (nI x1) x2 (nI x3) x4 x5 x6 x7 x8 x9 x10))]) (wr := []) (w1 := [(xa, (b11_1 x0 (nI x1) x2 (nI x3) x4 x5 x6 x7 x8 8 (-1)))]) (pl := va_pl L M_130) hP hD [0] [] rfl rfl (by decide) (by decide) hk1 hFc hP1 hD1
                  have hP : va_P D vwCl ([(xa, (b11_1 x0 (nI x1) x2 (nI x3) x4 x5 x6 x7 x8 8 (-1)))] ++ va_pl L M_130) H_139 := hP
                  have hD : va_D A ([(xa, (b11_1 x0 (nI x1) x2 (nI x3) x4 x5 x6 x7 x8 8 (-1)))] ++ va_pl L M_130) := hD
                  have hq := Eq.symm hp_142
                  subst hq
                  refine W.widen (k := 1) (n := 16) (Nat.le_of_ble_eq_true rfl) (Nat.le_of_ble_eq_true rfl) ?_
                  have hno : ¬ okJo x1 x3 PK PT SX SY k1 k2 k3 k4 := fun q9 => by obtain ⟨⟨a1, a2, a3, a4⟩, ⟨a5, a6⟩, ⟨a7, a8⟩, ⟨a9, a10⟩, a11, a12⟩ := q9; first | omega | exact a10 hTK | exact a11 hP5 hRC
                  have hcr : okCr x1 x3 PK PT SX SY k1 k2 k3 k4 := ⟨⟨by omega, by omega, by omega, by omega⟩, ⟨by omega, by omega⟩, ⟨by omega, by omega⟩, ⟨hs0, hTK⟩, hP5, hRC⟩
                  rw [hQ]
                  exact W.iret (v := (-1)) hx hb hr (fun t ht hW9 => ⟨⟨(-1), (K, L, M_130), rfl, ⟨hX0, hW, hF, hT2, (by unfold anJo; rw [if_neg hno])⟩, ⟨8, (⟨_, by unfold sxJo syJo; rw [if_neg hno, if_neg hno]; exact CX.mono (CX.same0 hC hWj i0 b1 hSj (by rw [hxj]))⟩), (by unfold caJo; rw [if_pos hcr]; exact hRGt.2 hRC), by rw [ht]; exact hP, hD⟩⟩, hS.F ht⟩) hS.2.2 dX11_join_132
                · have hz := rfl (a := 0)
                  have hSj : SAME K L M M_130 := (SAME.fr (fr.cv hF2 (by decide)) (fr.cv hF2 (by decide)) (fr.cv hF2 (by decide)) (fr.cv hF2 (by decide)) (fr.cv hF2 (by decide)) (fr.cv hF2 (by decide)) (fr.cv hF2 (by decide)) hF2 (by decide))
                  have hxj : RFc (M_130 x0) = RFc (M x0) := by rw [hF2.at i0 (by decide)]
                  have hRC := c_137
                  have hRGt := hVP
                  have hFj := hF2
                  have ip4j := hb_44
                  have ibj := hb_25
                  have ib2j := hb_125
                  refine lv_if_eq (tgt := 133) hx hb dX11_join_123 (by decide) (fun _ => ?_) (fun c_143 => absurd c_143 (by decide))
                  refine lv_aload hx hb dX11_join_133 (lv_at hl 1 rfl) ?_
                  refine pg_get (D := D) (ci := 2) (v := .int (nI v26_9)) (C := RX2) (T := TX2) (N := 20) hx hb hg inG2 hown hK hP hb_25.1 hM_132 rfl 9 (by decide) (hg _ wd_465) (fun _ h9 => h9) rfl dX11_join_135 ?_
                  refine lv_bipush (v := 24) hx hb dX11_join_138 (by decide) ?_
                  refine lv_icmp_lt (tgt := 150) hx hb dX11_join_140 (by decide) (fun c_144 => ?_) (fun c_144 => ?_)
                  · have hz := rfl (a := 0)
                    have n_145 : v26_9 < 24 := (iLT (a := v26_9) (b := 24) (by omega) (by omega)).mp c_144
                    have hro9 : 0 ≤ (cfx M b_10) 10 ∧ (cfx M b_10) 10 < 24 := by have h9 := hSM.x10; have h8 : (cfx M b_10) 10 = SX k1.toNatClampNeg 10 := h9; omega
                    have hnn9 : (cax M b_10) 28 ((cfx M b_10) 10).toNat ≠ 1 := fun z9 => by have h9 := hSM.x10; have h8 : (cfx M b_10) 10 = SX k1.toNatClampNeg 10 := h9; have h7 := (hSM.tn ((cfx M b_10) 10).toNat (by omega)).mp z9; omega
                    refine lv_aload_n hx hb dX11_join_150 rfl (lv_at hl 2 rfl) ?_
                    refine lv_aload hx hb dX11_join_151 (lv_at hl 1 rfl) ?_
                    refine lv_aload hx hb dX11_join_153 (lv_at hl 0 rfl) ?_
                    refine lv_iload_n hx hb dX11_join_155 rfl (lv_at hl 4 rfl) ?_
                    refine lv_iload hx hb dX11_join_156 (lv_at hl 6 rfl) ?_
                    refine lv_iload hx hb dX11_join_158 (lv_at hl 7 rfl) ?_
                    have hPc : va_P D vwCl ([] ++ va_pl L M_130) H_128 := hP.part (cx := []) [] rfl
                    have hDc : va_D A ([] ++ va_pl L M_130) := hD.part (cx := []) [] (by decide) rfl
                    have hFc : ∀ q, va_A ([] ++ va_pl L M_130) H_128.size q → A q := pg_free hDc hS hA
                    refine va_calli (va_runV (As := [.ref b_39, .int k2, .int k4, .int 0]) (rest := [.ref xa]) ⟨hx, hb, hml, hown, hg⟩ (e_addT_0 l D cy K L M_130 H_128.size b_10 b_39 k2 k4 Bo M0 (cfx M b_10) (cax M b_10)  hW hb_25 hb_44 hV hro9 c_49 hnn9) (cwV 4 hg (gV wd_562 wd_563 wd_564 wd_57 wd_565) rfl rfl rfl (by decide +kernel) ⟨(Nat.le_trans (Nat.le_of_ble_eq_true rfl) hRf), (Nat.le_trans (Nat.le_of_ble_eq_true rfl) hRl)⟩) ⟨PG.blind, pg_recv hK hP hb_25.1 hM_132 rfl, fun U hU hW => ⟨rfl, PG.at hPc hK hDc hN hU hW⟩⟩ rfl rfl hl.1 rfl (lv_room (Nat.le_of_ble_eq_true rfl)) dX11_join_160 ⟨(Nat.le_trans (Nat.le_of_ble_eq_true rfl) hRc), (Nat.le_trans (Nat.le_of_ble_eq_true rfl) hRs)⟩) hS (fun q _ h => hFc q h) hFc (fun r_147 M_148 t H_146 locs ht hvm hw hB hz1 hk1 hS => ?_)
                    have hWb := hW
                    obtain ⟨K9, L9, M_148m⟩ := M_148
                    dsimp only at hw hB
                    obtain ⟨hx9, hW, hF2, gT2, hp_149⟩ := hw
                    obtain ⟨hg_150, hg_151, hg_152, hP1, hD1⟩ := hB
                    rw [ht] at hP1
                    obtain ⟨hP, hD⟩ := va_joinP (X := [(xa, (b11_1 x0 (nI x1) x2 (nI x3) x4 x5 x6 x7 x8 x9 x10))]) (cx := []) (wr := [(xa, (b11_1 x0 (nI x1) x2 (nI x3) x4 x5 x6 x7 x8 x9 x10))]) (rx := []) (pl := va_pl L M_130) (pl1 := va_pl L9 M_148m) hP hD [] [0] rfl rfl (by decide) (by decide) hk1 hFc hP1 hD1
                    have hP : va_P D vwCl ([(xa, (b11_1 x0 (nI x1) x2 (nI x3) x4 x5 x6 x7 x8 x9 x10))] ++ va_pl L9 M_148m) H_146 := hP
                    have hD : va_D A ([(xa, (b11_1 x0 (nI x1) x2 (nI x3) x4 x5 x6 x7 x8 x9 x10))] ++ va_pl L9 M_148m) := hD
                    have hM_153 : M_148m v26_6 = .inl (cy 14, 6, .inl (f63)) := (hF2.at h26_6 (by decide)).trans hM_133
                    have hM_154 : M_148m b_39 = .inr (4, [.int v87_0, .int v87_1, .int v87_2, va_rf (some b_88)]) := (hF2.at hb_44 (by decide)).trans hM_134
                    have hF : fr K0 L0 [2, 5, 58, 59, 61, 62] M0 M_148m := hF.trX hX0 hF2 (by decide)
                    have hT2 : fT 2 K0 L0 [9, 15] M0 M_148m := hT2.trX hX0 gT2 (by decide)
                    have hX0 := hX0.tr hx9
                    obtain ⟨B_155, f_156, hf9, hV⟩ := hg_150
                    have hRGa : RGS M_130 M_148m x5 := RGS.of hWb i5 hF2 (by decide) (by decide)
                    have hNW9 := hg_151
                    have hsl9 := hg_152
                    have hp4 : ∀ q, isk K9 L9 q 4 0 → isk K0 L0 q 4 0 := fun q iq => hp4 q (hNW9.2 q iq)
                    have i_157 := i0.ext hx9
                    have i_158 := i2.ext hx9
                    have i_159 := i4.ext hx9
                    have i_160 := i5.ext hx9
                    have i_161 := i6.ext hx9
                    have i_162 := i8.ext hx9
                    have i_163 := hb_25.ext hx9
                    have i_164 := h26_6.ext hx9
                    have i_165 := hb_44.ext hx9
                    have i_166 := hb_125.ext hx9
                    obtain ⟨K, L, hK9, hL9⟩ : ∃ (K : Kp) (L : List Nat), K = K9 ∧ L = L9 := ⟨_, _, rfl, rfl⟩
                    subst hK9
                    subst hL9
                    refine W.widen (k := 1) (n := 16) (Nat.le_of_ble_eq_true rfl) (Nat.le_of_ble_eq_true rfl) ?_
                    obtain rfl := hp_149
                    have hPc := hP.sub (ws' := [(xa, (b11_1 x0 (nI x1) x2 (nI x3) x4 x5 x6 x7 x8 x9 x10))]) [0] rfl
                    have hDc := hD.sub (ws' := [(xa, (b11_1 x0 (nI x1) x2 (nI x3) x4 x5 x6 x7 x8 x9 x10))]) [0] (by decide) rfl
                    have hKc := hK.sub (tys' := []) [] rfl
                    have hFc := va_free (wc := [(xa, (b11_1 x0 (nI x1) x2 (nI x3) x4 x5 x6 x7 x8 x9 x10))]) hD hS hA [0] rfl
                    refine va_calli (va_runV (As := [.int (nI ((cfx M b_10) 10).toNat)]) (rest := []) ⟨hx, hb, hml, hown, hg⟩ (k_accept l D H_146.size xa x0 (nI x1) x2 (nI x3) x4 x5 x6 x7 x8 x9 x10 (nI ((cfx M b_10) 10).toNat)) (cwV 1 hg (gV wd_356 wd_357 wd_358 wd_3 wd_359) rfl rfl rfl (by decide +kernel) ⟨(Nat.le_trans (Nat.le_of_ble_eq_true rfl) hRf), (Nat.le_trans (Nat.le_of_ble_eq_true rfl) hRl)⟩) ⟨Pr.blind, va_recv hK hP (ci := 11) (q0 := 0) rfl rfl, fun U hU hW => ⟨rfl, Pr.at hPc hKc hDc hN hU hW⟩⟩ rfl rfl hl.1 rfl (lv_room (Nat.le_of_ble_eq_true rfl)) dX11_join_163 ⟨(Nat.le_trans (Nat.le_of_ble_eq_true rfl) hRc), (Nat.le_trans (Nat.le_of_ble_eq_true rfl) hRs)⟩) hS (fun q _ h => hFc q h) hFc (fun r_168 M_169 t H_167 locs ht hvm hw hB hz1 hk1 hS => ?_)
                    have hp_170 := hw
                    obtain ⟨hP1, hK1, hD1⟩ := hB
                    rw [ht] at hP1
                    obtain ⟨hP, hD⟩ := va_joinQ (X := [(xa, (b11_1 x0 (nI x1) x2 (nI x3) x4 x5 x6 x7 x8 x9 x10))]) (cx := [(xa, (b11_1 x0 (nI x1) x2 (nI x3) x4 x5 x6 x7 x8 x9 x10))]) (wr := []) (w1 := [(xa, (b11_1 x0 (nI x1) x2 (nI x3) x4 x5 x6 x7 x8 0 (-1)))]) (pl := va_pl L M_148m) hP hD [0] [] rfl rfl (by decide) (by decide) hk1 hFc hP1 hD1
                    have hP : va_P D vwCl ([(xa, (b11_1 x0 (nI x1) x2 (nI x3) x4 x5 x6 x7 x8 0 (-1)))] ++ va_pl L M_148m) H_167 := hP
                    have hD : va_D A ([(xa, (b11_1 x0 (nI x1) x2 (nI x3) x4 x5 x6 x7 x8 0 (-1)))] ++ va_pl L M_148m) := hD
                    have hq := Eq.symm hp_170
                    subst hq
                    have hI_171 : ((v26_9 : Nat) : Int) < (24 : Int) := iltI (nI_toInt (by omega)) rfl c_144
                    have hyes : okJo x1 x3 PK PT SX SY k1 k2 k3 k4 := ⟨⟨by omega, by omega, by omega, by omega⟩, ⟨by omega, by omega⟩, ⟨by omega, by omega⟩, ⟨hs0, hTK⟩, (fun _ => hRC), by omega⟩
                    have hncr : ¬ okCr x1 x3 PK PT SX SY k1 k2 k3 k4 := fun q9 => by obtain ⟨⟨a1, a2, a3, a4⟩, ⟨a5, a6⟩, ⟨a7, a8⟩, ⟨a9, a10⟩, a11, a12⟩ := q9; first | omega | exact a10 hTK | exact hRC a12 | exact hP5 a11
                    have hk40 : M_130 b_39 = M b_39 := hFj.at ip4j (by decide)
                    have hcv40 : cV 4 M_130 b_39 0 = k3 := by rw [cV_eq hk40]; exact hpb2
                    have hcr40 : cR 4 M_130 b_39 3 = cR 4 M b_39 3 := cR_eq hk40
                    have hkd40 : cV 4 M_130 b_39 1 = PK k3.toNatClampNeg := by rw [cV_eq hk40]; exact hpc
                    have hc15 : (cV 2 M_130 b_10 15).toInt = cfx M b_10 18 := by show _ = (cV 2 M b_10 15).toInt; rw [cV_eq (hFj.at ibj (by decide))]
                    have hou : owN M_130 (cR 4 M_130 b_39 3) = ownP PK PT k3 := by rw [hcr40, hcn, own5 hP5]; show cV 2 M_130 b_88 0 = _; rw [cV_eq (hFj.at ib2j (by decide))]; apply Int32.toInt.inj; rw [hn20]; exact hcpt
                    have hb18 := BT_or (a := cV 2 M_130 b_10 15) (k := (PT k3.toNatClampNeg).toNatClampNeg) (by rw [hc15]; exact hSM.ob.1) (by rw [hc15]; exact hSM.ob.2) (by omega)
                    have hob9 : owB M_130 (cV 2 M_130 b_10 15) (cR 4 M_130 b_39 3) = (cV 2 M_130 b_10 15 ||| ((1 : Int32) <<< (nI (PT k3.toNatClampNeg).toNatClampNeg &&& 31))).toInt := by rw [hcr40, hcn]; show (_ ||| ((1 : Int32) <<< (cV 2 M_130 b_88 0 &&& 31))).toInt = _; rw [show cV 2 M_130 b_88 0 = nI (PT k3.toNatClampNeg).toNatClampNeg from i32_of (by rw [cV_eq (hFj.at ib2j (by decide))]; exact hn20) (by omega)]
                    have hbt9 : ∀ o : Nat, o < 8 → ((owB M_130 (cV 2 M_130 b_10 15) (cR 4 M_130 b_39 3) / 2 ^ o) % 2 = 1 ↔ ((cfx M b_10 18 / 2 ^ o) % 2 = 1 ∨ (ownP PK PT k3).toInt = (o : Int))) := fun o ho => by rw [hob9, hb18.2 o ho, hc15, own5 hP5]; exact ⟨fun z => z.imp id (fun w => by omega), fun z => z.imp id (fun w => by omega)⟩
                    have hbd9 : 0 ≤ owB M_130 (cV 2 M_130 b_10 15) (cR 4 M_130 b_39 3) ∧ owB M_130 (cV 2 M_130 b_10 15) (cR 4 M_130 b_39 3) < 256 := by rw [hob9]; exact hb18.1
                    obtain ⟨f19, f20, f21, f22, f23, f24, f25, f26, f27, f28, f29⟩ := hf9
                    have h500 : cax M b_10 50 k2.toNatClampNeg = 0 := by rw [h50]; assumption
                    rw [hQ]
                    exact W.iret (v := (nI ((cfx M b_10) 10).toNat)) hx hb hr (fun t ht hW9 => ⟨⟨(nI ((cfx M b_10) 10).toNat), (K, L, M_148m), rfl, ⟨hX0, hW, hF, hT2, (by unfold anJo; rw [if_pos hyes]; exact congrArg nI (congrArg Int.toNat hSM.x10))⟩, ⟨0, (⟨_, by unfold sxJo syJo; rw [if_pos hyes, if_pos hyes]; exact hC00.fin hW00 i000 b1 hkn hb90 hV hX0 (congrArg RFc (hF.at i000 (by decide))) (fun q iq => ⟨hp4 q iq, cR_c (fr.cv hF (by decide) q (hp4 q iq) 3 rfl)⟩) (((hSM.ten (s := k2) (p := k3) (d := k4) (by omega) (by omega) h500 (by omega) (f19.trans hcv40) f20 f21 f22 f23 f24 f25 f26 (f29.trans hkd40) (f27.trans hou) f28 hbd9 hbt9).up1))⟩), (by unfold caJo; rw [if_neg hncr]; exact ((hRG0.mv (hRGt.1 hRC)).mv hRGa)), by rw [ht]; exact hP, hD⟩⟩, hS.F ht⟩) hS.2.2 dX11_join_166
                  · have hz := rfl (a := 0)
                    have n_172 : ¬ (v26_9 < 24) := fun q => c_144 ((iLT (a := v26_9) (b := 24) (by omega) (by omega)).mpr q)
                    refine lv_aload_n hx hb dX11_join_143 rfl (lv_at hl 2 rfl) ?_
                    refine lv_bipush (v := 9) hx hb dX11_join_144 (by decide) ?_
                    have hPc := hP.sub (ws' := [(xa, (b11_1 x0 (nI x1) x2 (nI x3) x4 x5 x6 x7 x8 x9 x10))]) [0] rfl
                    have hDc := hD.sub (ws' := [(xa, (b11_1 x0 (nI x1) x2 (nI x3) x4 x5 x6 x7 x8 x9 x10))]) [0] (by decide) rfl
                    have hKc := hK.sub (tys' := []) [] rfl
                    have hFc := va_free (wc := [(xa, (b11_1 x0 (nI x1) x2 (nI x3) x4 x5 x6 x7 x8 x9 x10))]) hD hS hA [0] rfl
                    refine va_calli (va_runV (As := [.int 9]) (rest := []) ⟨hx, hb, hml, hown, hg⟩ (k_refuse l D H_128.size xa x0 (nI x1) x2 (nI x3) x4 x5 x6 x7 x8 x9 x10 9) (cwV 1 hg (gV wd_344 wd_345 wd_346 wd_3 wd_347) rfl rfl rfl (by decide +kernel) ⟨(Nat.le_trans (Nat.le_of_ble_eq_true rfl) hRf), (Nat.le_trans (Nat.le_of_ble_eq_true rfl) hRl)⟩) ⟨Pr.blind, va_recv hK hP (ci := 11) (q0 := 0) rfl rfl, fun U hU hW => ⟨rfl, Pr.at hPc hKc hDc hN hU hW⟩⟩ rfl rfl hl.1 rfl (lv_room (Nat.le_of_ble_eq_true rfl)) dX11_join_146 ⟨(Nat.le_trans (Nat.le_of_ble_eq_true rfl) hRc), (Nat.le_trans (Nat.le_of_ble_eq_true rfl) hRs)⟩) hS (fun q _ h => hFc q h) hFc (fun r_174 M_175 t H_173 locs ht hvm hw hB hz1 hk1 hS => ?_)
                    have hp_176 := hw
                    obtain ⟨hP1, hK1, hD1⟩ := hB
                    rw [ht] at hP1
                    obtain ⟨hP, hD⟩ := va_joinQ (X := [(xa, (b11_1 x0 (nI x1) x2 (nI x3) x4 x5 x6 x7 x8 x9 x10))]) (cx := [(xa, (b11_1 x0 (nI x1) x2 (nI x3) x4 x5 x6 x7 x8 x9 x10))]) (wr := []) (w1 := [(xa, (b11_1 x0 (nI x1) x2 (nI x3) x4 x5 x6 x7 x8 9 (-1)))]) (pl := va_pl L M_130) hP hD [0] [] rfl rfl (by decide) (by decide) hk1 hFc hP1 hD1
                    have hP : va_P D vwCl ([(xa, (b11_1 x0 (nI x1) x2 (nI x3) x4 x5 x6 x7 x8 9 (-1)))] ++ va_pl L M_130) H_173 := hP
                    have hD : va_D A ([(xa, (b11_1 x0 (nI x1) x2 (nI x3) x4 x5 x6 x7 x8 9 (-1)))] ++ va_pl L M_130) := hD
                    have hq := Eq.symm hp_176
                    subst hq
                    refine W.widen (k := 1) (n := 16) (Nat.le_of_ble_eq_true rfl) (Nat.le_of_ble_eq_true rfl) ?_
                    have hI_177 : (24 : Int) ≤ ((v26_9 : Nat) : Int) := inltI (nI_toInt (by omega)) rfl c_144
                    have hno : ¬ okJo x1 x3 PK PT SX SY k1 k2 k3 k4 := fun q9 => by obtain ⟨⟨a1, a2, a3, a4⟩, ⟨a5, a6⟩, ⟨a7, a8⟩, ⟨a9, a10⟩, a11, a12⟩ := q9; first | omega | exact a10 hTK | exact a11 hP5 hRC
                    have hncr : ¬ okCr x1 x3 PK PT SX SY k1 k2 k3 k4 := fun q9 => by obtain ⟨⟨a1, a2, a3, a4⟩, ⟨a5, a6⟩, ⟨a7, a8⟩, ⟨a9, a10⟩, a11, a12⟩ := q9; first | omega | exact a10 hTK | exact hRC a12 | exact hP5 a11
                    rw [hQ]
                    exact W.iret (v := (-1)) hx hb hr (fun t ht hW9 => ⟨⟨(-1), (K, L, M_130), rfl, ⟨hX0, hW, hF, hT2, (by unfold anJo; rw [if_neg hno])⟩, ⟨9, (⟨_, by unfold sxJo syJo; rw [if_neg hno, if_neg hno]; exact CX.mono (CX.same0 hC hWj i0 b1 hSj (by rw [hxj]))⟩), (by unfold caJo; rw [if_neg hncr]; exact (hRG0.mv (hRGt.1 hRC))), by rw [ht]; exact hP, hD⟩⟩, hS.F ht⟩) hS.2.2 dX11_join_149
            · have hz := rfl (a := 0)
              have hvc := hSM.vac (s := k2) (d := k4) (n := (cV 2 M b_10 9).toInt) (by omega) hq10
              have hTK : TKN (SX k1.toNatClampNeg) (SY k1.toNatClampNeg) k2 k4 := Classical.byContradiction (fun z9 => c_80 (hvc.mpr z9))
              refine lv_if_ne (tgt := 87) hx hb dX11_join_78 (by decide) (fun c_178 => absurd c_178 (by decide)) (fun _ => ?_)
              refine lv_aload_n hx hb dX11_join_81 rfl (lv_at hl 2 rfl) ?_
              refine lv_iconst (v := 4) hx hb dX11_join_82 (by decide) ?_
              have hPc := hP.sub (ws' := [(xa, (b11_1 x0 (nI x1) x2 (nI x3) x4 x5 x6 x7 x8 x9 x10))]) [0] rfl
              have hDc := hD.sub (ws' := [(xa, (b11_1 x0 (nI x1) x2 (nI x3) x4 x5 x6 x7 x8 x9 x10))]) [0] (by decide) rfl
              have hKc := hK.sub (tys' := []) [] rfl
              have hFc := va_free (wc := [(xa, (b11_1 x0 (nI x1) x2 (nI x3) x4 x5 x6 x7 x8 x9 x10))]) hD hS hA [0] rfl
              refine va_calli (va_runV (As := [.int 4]) (rest := []) ⟨hx, hb, hml, hown, hg⟩ (k_refuse l D H_75.size xa x0 (nI x1) x2 (nI x3) x4 x5 x6 x7 x8 x9 x10 4) (cwV 1 hg (gV wd_344 wd_345 wd_346 wd_3 wd_347) rfl rfl rfl (by decide +kernel) ⟨(Nat.le_trans (Nat.le_of_ble_eq_true rfl) hRf), (Nat.le_trans (Nat.le_of_ble_eq_true rfl) hRl)⟩) ⟨Pr.blind, va_recv hK hP (ci := 11) (q0 := 0) rfl rfl, fun U hU hW => ⟨rfl, Pr.at hPc hKc hDc hN hU hW⟩⟩ rfl rfl hl.1 rfl (lv_room (Nat.le_of_ble_eq_true rfl)) dX11_join_83 ⟨(Nat.le_trans (Nat.le_of_ble_eq_true rfl) hRc), (Nat.le_trans (Nat.le_of_ble_eq_true rfl) hRs)⟩) hS (fun q _ h => hFc q h) hFc (fun r_180 M_181 t H_179 locs ht hvm hw hB hz1 hk1 hS => ?_)
              have hp_182 := hw
              obtain ⟨hP1, hK1, hD1⟩ := hB
              rw [ht] at hP1
              obtain ⟨hP, hD⟩ := va_joinQ (X := [(xa, (b11_1 x0 (nI x1) x2 (nI x3) x4 x5 x6 x7 x8 x9 x10))]) (cx := [(xa, (b11_1 x0 (nI x1) x2 (nI x3) x4 x5 x6 x7 x8 x9 x10))]) (wr := []) (w1 := [(xa, (b11_1 x0 (nI x1) x2 (nI x3) x4 x5 x6 x7 x8 4 (-1)))]) (pl := va_pl L M) hP hD [0] [] rfl rfl (by decide) (by decide) hk1 hFc hP1 hD1
              have hP : va_P D vwCl ([(xa, (b11_1 x0 (nI x1) x2 (nI x3) x4 x5 x6 x7 x8 4 (-1)))] ++ va_pl L M) H_179 := hP
              have hD : va_D A ([(xa, (b11_1 x0 (nI x1) x2 (nI x3) x4 x5 x6 x7 x8 4 (-1)))] ++ va_pl L M) := hD
              have hq := Eq.symm hp_182
              subst hq
              refine W.widen (k := 1) (n := 16) (Nat.le_of_ble_eq_true rfl) (Nat.le_of_ble_eq_true rfl) ?_
              have hI_183 : (0 : Int) ≤ (k2 : Int32).toInt := inltI rfl rfl c_50
              have hI_184 : (k2 : Int32).toInt < (6 : Int) := inleI rfl rfl c_51
              have hI_185 : (0 : Int) ≤ (k4 : Int32).toInt := inltI rfl rfl c_59
              have hI_186 : (k4 : Int32).toInt ≤ (999 : Int) := inltI rfl rfl c_60
              have hI_187 : (f_64 : Int32).toInt = (0 : Int) := ieqI rfl rfl c_65
              have hno : ¬ okJo x1 x3 PK PT SX SY k1 k2 k3 k4 := fun q9 => by obtain ⟨⟨a1, a2, a3, a4⟩, ⟨a5, a6⟩, ⟨a7, a8⟩, ⟨a9, a10⟩, a11, a12⟩ := q9; first | omega | exact a10 hTK | exact a11 hP5 hRC
              have hncr : ¬ okCr x1 x3 PK PT SX SY k1 k2 k3 k4 := fun q9 => by obtain ⟨⟨a1, a2, a3, a4⟩, ⟨a5, a6⟩, ⟨a7, a8⟩, ⟨a9, a10⟩, a11, a12⟩ := q9; first | omega | exact a10 hTK | exact hRC a12 | exact hP5 a11
              rw [hQ]
              exact W.iret (v := (-1)) hx hb hr (fun t ht hW9 => ⟨⟨(-1), (K, L, M), rfl, ⟨hX0, hW, hF, hT2, (by unfold anJo; rw [if_neg hno])⟩, ⟨4, (⟨_, by unfold sxJo syJo; rw [if_neg hno, if_neg hno]; exact hC.mono⟩), (by unfold caJo; rw [if_neg hncr]; exact hRG0), by rw [ht]; exact hP, hD⟩⟩, hS.F ht⟩) hS.2.2 dX11_join_86
        · have hz := rfl (a := 0)
          refine lv_if_ne (tgt := 60) hx hb dX11_join_51 (by decide) (fun c_188 => absurd c_188 (by decide)) (fun _ => ?_)
          refine lv_aload_n hx hb dX11_join_54 rfl (lv_at hl 2 rfl) ?_
          refine lv_iconst (v := 3) hx hb dX11_join_55 (by decide) ?_
          have hPc := hP.sub (ws' := [(xa, (b11_1 x0 (nI x1) x2 (nI x3) x4 x5 x6 x7 x8 x9 x10))]) [0] rfl
          have hDc := hD.sub (ws' := [(xa, (b11_1 x0 (nI x1) x2 (nI x3) x4 x5 x6 x7 x8 x9 x10))]) [0] (by decide) rfl
          have hKc := hK.sub (tys' := []) [] rfl
          have hFc := va_free (wc := [(xa, (b11_1 x0 (nI x1) x2 (nI x3) x4 x5 x6 x7 x8 x9 x10))]) hD hS hA [0] rfl
          refine va_calli (va_runV (As := [.int 3]) (rest := []) ⟨hx, hb, hml, hown, hg⟩ (k_refuse l D H_54.size xa x0 (nI x1) x2 (nI x3) x4 x5 x6 x7 x8 x9 x10 3) (cwV 1 hg (gV wd_344 wd_345 wd_346 wd_3 wd_347) rfl rfl rfl (by decide +kernel) ⟨(Nat.le_trans (Nat.le_of_ble_eq_true rfl) hRf), (Nat.le_trans (Nat.le_of_ble_eq_true rfl) hRl)⟩) ⟨Pr.blind, va_recv hK hP (ci := 11) (q0 := 0) rfl rfl, fun U hU hW => ⟨rfl, Pr.at hPc hKc hDc hN hU hW⟩⟩ rfl rfl hl.1 rfl (lv_room (Nat.le_of_ble_eq_true rfl)) dX11_join_56 ⟨(Nat.le_trans (Nat.le_of_ble_eq_true rfl) hRc), (Nat.le_trans (Nat.le_of_ble_eq_true rfl) hRs)⟩) hS (fun q _ h => hFc q h) hFc (fun r_190 M_191 t H_189 locs ht hvm hw hB hz1 hk1 hS => ?_)
          have hp_192 := hw
          obtain ⟨hP1, hK1, hD1⟩ := hB
          rw [ht] at hP1
          obtain ⟨hP, hD⟩ := va_joinQ (X := [(xa, (b11_1 x0 (nI x1) x2 (nI x3) x4 x5 x6 x7 x8 x9 x10))]) (cx := [(xa, (b11_1 x0 (nI x1) x2 (nI x3) x4 x5 x6 x7 x8 x9 x10))]) (wr := []) (w1 := [(xa, (b11_1 x0 (nI x1) x2 (nI x3) x4 x5 x6 x7 x8 3 (-1)))]) (pl := va_pl L M) hP hD [0] [] rfl rfl (by decide) (by decide) hk1 hFc hP1 hD1
          have hP : va_P D vwCl ([(xa, (b11_1 x0 (nI x1) x2 (nI x3) x4 x5 x6 x7 x8 3 (-1)))] ++ va_pl L M) H_189 := hP
          have hD : va_D A ([(xa, (b11_1 x0 (nI x1) x2 (nI x3) x4 x5 x6 x7 x8 3 (-1)))] ++ va_pl L M) := hD
          have hq := Eq.symm hp_192
          subst hq
          refine W.widen (k := 1) (n := 16) (Nat.le_of_ble_eq_true rfl) (Nat.le_of_ble_eq_true rfl) ?_
          have hI_193 : (0 : Int) ≤ (k2 : Int32).toInt := inltI rfl rfl c_50
          have hI_194 : (k2 : Int32).toInt < (6 : Int) := inleI rfl rfl c_51
          have hno : ¬ okJo x1 x3 PK PT SX SY k1 k2 k3 k4 := fun q9 => by obtain ⟨⟨a1, a2, a3, a4⟩, ⟨a5, a6⟩, ⟨a7, a8⟩, ⟨a9, a10⟩, a11, a12⟩ := q9; first | omega | exact a10 hTK | exact a11 hP5 hRC
          have hncr : ¬ okCr x1 x3 PK PT SX SY k1 k2 k3 k4 := fun q9 => by obtain ⟨⟨a1, a2, a3, a4⟩, ⟨a5, a6⟩, ⟨a7, a8⟩, ⟨a9, a10⟩, a11, a12⟩ := q9; first | omega | exact a10 hTK | exact hRC a12 | exact hP5 a11
          rw [hQ]
          exact W.iret (v := (-1)) hx hb hr (fun t ht hW9 => ⟨⟨(-1), (K, L, M), rfl, ⟨hX0, hW, hF, hT2, (by unfold anJo; rw [if_neg hno])⟩, ⟨3, (⟨_, by unfold sxJo syJo; rw [if_neg hno, if_neg hno]; exact hC.mono⟩), (by unfold caJo; rw [if_neg hncr]; exact hRG0), by rw [ht]; exact hP, hD⟩⟩, hS.F ht⟩) hS.2.2 dX11_join_59
      · have hz := rfl (a := 0)
        refine lv_if_ne (tgt := 44) hx hb dX11_join_35 (by decide) (fun c_195 => absurd c_195 (by decide)) (fun _ => ?_)
        refine lv_aload_n hx hb dX11_join_38 rfl (lv_at hl 2 rfl) ?_
        refine lv_iconst (v := 1) hx hb dX11_join_39 (by decide) ?_
        have hPc := hP.sub (ws' := [(xa, (b11_1 x0 (nI x1) x2 (nI x3) x4 x5 x6 x7 x8 x9 x10))]) [0] rfl
        have hDc := hD.sub (ws' := [(xa, (b11_1 x0 (nI x1) x2 (nI x3) x4 x5 x6 x7 x8 x9 x10))]) [0] (by decide) rfl
        have hKc := hK.sub (tys' := []) [] rfl
        have hFc := va_free (wc := [(xa, (b11_1 x0 (nI x1) x2 (nI x3) x4 x5 x6 x7 x8 x9 x10))]) hD hS hA [0] rfl
        refine va_calli (va_runV (As := [.int 1]) (rest := []) ⟨hx, hb, hml, hown, hg⟩ (k_refuse l D H_45.size xa x0 (nI x1) x2 (nI x3) x4 x5 x6 x7 x8 x9 x10 1) (cwV 1 hg (gV wd_344 wd_345 wd_346 wd_3 wd_347) rfl rfl rfl (by decide +kernel) ⟨(Nat.le_trans (Nat.le_of_ble_eq_true rfl) hRf), (Nat.le_trans (Nat.le_of_ble_eq_true rfl) hRl)⟩) ⟨Pr.blind, va_recv hK hP (ci := 11) (q0 := 0) rfl rfl, fun U hU hW => ⟨rfl, Pr.at hPc hKc hDc hN hU hW⟩⟩ rfl rfl hl.1 rfl (lv_room (Nat.le_of_ble_eq_true rfl)) dX11_join_40 ⟨(Nat.le_trans (Nat.le_of_ble_eq_true rfl) hRc), (Nat.le_trans (Nat.le_of_ble_eq_true rfl) hRs)⟩) hS (fun q _ h => hFc q h) hFc (fun r_197 M_198 t H_196 locs ht hvm hw hB hz1 hk1 hS => ?_)
        have hp_199 := hw
        obtain ⟨hP1, hK1, hD1⟩ := hB
        rw [ht] at hP1
        obtain ⟨hP, hD⟩ := va_joinQ (X := [(xa, (b11_1 x0 (nI x1) x2 (nI x3) x4 x5 x6 x7 x8 x9 x10))]) (cx := [(xa, (b11_1 x0 (nI x1) x2 (nI x3) x4 x5 x6 x7 x8 x9 x10))]) (wr := []) (w1 := [(xa, (b11_1 x0 (nI x1) x2 (nI x3) x4 x5 x6 x7 x8 1 (-1)))]) (pl := va_pl L M) hP hD [0] [] rfl rfl (by decide) (by decide) hk1 hFc hP1 hD1
        have hP : va_P D vwCl ([(xa, (b11_1 x0 (nI x1) x2 (nI x3) x4 x5 x6 x7 x8 1 (-1)))] ++ va_pl L M) H_196 := hP
        have hD : va_D A ([(xa, (b11_1 x0 (nI x1) x2 (nI x3) x4 x5 x6 x7 x8 1 (-1)))] ++ va_pl L M) := hD
        have hq := Eq.symm hp_199
        subst hq
        refine W.widen (k := 1) (n := 16) (Nat.le_of_ble_eq_true rfl) (Nat.le_of_ble_eq_true rfl) ?_
        have hno : ¬ okJo x1 x3 PK PT SX SY k1 k2 k3 k4 := fun q9 => by obtain ⟨⟨a1, a2, a3, a4⟩, ⟨a5, a6⟩, ⟨a7, a8⟩, ⟨a9, a10⟩, a11, a12⟩ := q9; first | omega | exact a10 hTK | exact a11 hP5 hRC
        have hncr : ¬ okCr x1 x3 PK PT SX SY k1 k2 k3 k4 := fun q9 => by obtain ⟨⟨a1, a2, a3, a4⟩, ⟨a5, a6⟩, ⟨a7, a8⟩, ⟨a9, a10⟩, a11, a12⟩ := q9; first | omega | exact a10 hTK | exact hRC a12 | exact hP5 a11
        rw [hQ]
        exact W.iret (v := (-1)) hx hb hr (fun t ht hW9 => ⟨⟨(-1), (K, L, M), rfl, ⟨hX0, hW, hF, hT2, (by unfold anJo; rw [if_neg hno])⟩, ⟨1, (⟨_, by unfold sxJo syJo; rw [if_neg hno, if_neg hno]; exact hC.mono⟩), (by unfold caJo; rw [if_neg hncr]; exact hRG0), by rw [ht]; exact hP, hD⟩⟩, hS.F ht⟩) hS.2.2 dX11_join_43
set_option maxHeartbeats 4000000 in
set_option maxRecDepth 100000 in
theorem x_join_1 (l : Launch) (D : va_G) (cy : Nat → ClassId) (K0 : Kp) (L0 : List Nat) (M0 : Hp) (sz : Nat) (xa : Nat) (x0 : Nat) (x1 : Nat) (x2 : Nat) (x3 : Nat) (x4 : Nat) (x5 : Nat) (x6 : Nat) (x7 : Int32) (x8 : Nat) (x9 : Int32) (x10 : Int32) (k1 : Int32) (k2 : Int32) (k3 : Int32) (k4 : Int32) (Bo : Nat → Nat × Nat) (T : Int) (PK : Nat → Int32) (PT : Nat → Int32) (SX : Nat → Nat → Int) (SY : Nat → Nat → Nat → Int32) (hW : WOK cy K0 L0 M0) (i0 : isk K0 L0 x0 17 8) (b1 : x1 ≤ 8) (i2 : isk K0 L0 x2 19 40) (b3 : x3 ≤ 40) (i4 : isk K0 L0 x4 7 0) (i5 : isk K0 L0 x5 5 0) (i6 : isk K0 L0 x6 60 24) (i8 : isk K0 L0 x8 73 25) (hC : CX Bo K0 L0 x0 x1 T x3 PK PT SX SY M0) (hSV : ∀ k, k < x1 → SV (SX k) (SY k)) (hHI : ∀ k, k < x1 → HI (SX k) (SY k)) (hT : (0 ≤ T ∧ T ≤ 900000)) (hPX : PX x0 x1 x2 x3 PK PT M0) : Met l yX11_join (wsM yX11_join cX11_join 8 (some .int)) ({ frames := 4, cells := 1, slots := 16, locals := 97 }) (va_Pc [.ref xa, .int k1, .int k2, .int k3, .int k4, .int 1] (PG D cy [(xa, (b11_1 x0 (nI x1) x2 (nI x3) x4 x5 x6 x7 x8 x9 x10))] L0 M0 sz)) (va_Qi (fun (r : Int32) (u : Kp × List Nat × Hp) => ext K0 L0 u.1 u.2.1 ∧ WOK cy u.1 u.2.1 u.2.2 ∧ fr K0 L0 [2, 5, 58, 59, 61, 62] M0 u.2.2 ∧ fT 2 K0 L0 [9, 15] M0 u.2.2 ∧ ((r = anJo x1 x3 PK PT SX SY k1 k2 k3 k4))) (fun u t => ∃ (w9 : Int32), (∃ B9, CX B9 u.1 u.2.1 x0 x1 (T + 1) x3 PK PT (sxJo x1 x3 PK PT SX SY k1 k2 k3 k4) (syJo x1 x3 PK PT SX SY k1 k2 k3 k4 1) u.2.2) ∧ RGC u.2.2 x5 (caJo x1 x3 PK PT SX SY k1 k2 k3 k4) ∧ PQ D [(xa, (b11_1 x0 (nI x1) x2 (nI x3) x4 x5 x6 x7 x8 w9 (-1)))] u.2.1 u.2.2 (va_A ([(xa, (b11_1 x0 (nI x1) x2 (nI x3) x4 x5 x6 x7 x8 x9 x10))] ++ va_pl L0 M0) sz) t) (va_A ([(xa, (b11_1 x0 (nI x1) x2 (nI x3) x4 x5 x6 x7 x8 x9 x10))] ++ va_pl L0 M0) sz)) 1 16 (va_A ([(xa, (b11_1 x0 (nI x1) x2 (nI x3) x4 x5 x6 x7 x8 x9 x10))] ++ va_pl L0 M0) sz) := by
  refine Met.ofW (cc := cX11_join) (maxL := 8) (ret := (some .int)) (by decide) rfl ?_
  intro p e s m args below meth c s₁ B hml hv
  obtain ⟨rfl, hsz, hP, hK, hD0, hN⟩ := hv
  have hx := B.exec
  have hb := B.bytes
  have hr := B.returns
  have hts := atoms_spec (ws := (wsM yX11_join cX11_join 8 (some .int))) B.pre
  have hg : ∀ w ∈ lw_good, w.before _ s = true := fun w h => hts w (List.mem_cons_of_mem _ h)
  have hown : s.vm.findClass RX11 = some m.cls := findClass_of_methodNamed B.named
  have hlocks := B.notSynchronized
  subst hsz
  have hD := hD0.self (sz := s.heap.size)
  generalize hAe : va_A ([(xa, (b11_1 x0 (nI x1) x2 (nI x3) x4 x5 x6 x7 x8 x9 x10))] ++ va_pl L0 M0) s.heap.size = A at hD ⊢
  have hA : ∀ q : Nat, s.heap.size ≤ q → A q := fun q h => by rw [← hAe]; exact Or.inr h
  have hS : va_S A s.heap s.heap [] := va_S.rf
  have hl := lv_entry ([.ref xa, .int k1, .int k2, .int k3, .int k4, .int 1]) (n := 8) (Nat.le_of_ble_eq_true rfl)
  rw [lg_entry_eq]
  generalize (lg_sl ([.ref xa, .int k1, .int k2, .int k3, .int k4, .int 1]) ++ List.replicate (8 - (lg_sl ([.ref xa, .int k1, .int k2, .int k3, .int k4, .int 1])).length) Slot.unset).toArray = ls at hl ⊢
  refine W.nameQ (fun Q hQ => ?_)
  refine W.nameR (fun R hR => ?_)
  have hRf : 4 ≤ R.frames := by rw [hR]; exact Nat.le_of_ble_eq_true rfl
  have hRl : 97 ≤ R.locals := by rw [hR]; exact Nat.le_of_ble_eq_true rfl
  have hRc : 1 ≤ R.cells := by rw [hR]; exact Nat.le_of_ble_eq_true rfl
  have hRs : 16 ≤ R.slots := by rw [hR]; exact Nat.le_of_ble_eq_true rfl
  have hW00 := hW
  have i000 := i0
  have i200 := i2
  have i400 := i4
  have i500 := i5
  have i600 := i6
  have i800 := i8
  have hC00 := hC
  have hPX00 := hPX
  obtain ⟨K, L, M, hX0, hF, hT2, hW, hP, hD, i0, i2, i4, i5, i6, i8, hC, hPX, hMe, hKe, hLe⟩ : ∃ (K : Kp) (L : List Nat) (M : Hp), ext K0 L0 K L ∧ fr K0 L0 [2, 5, 58, 59, 61, 62] M0 M ∧ fT 2 K0 L0 [9, 15] M0 M ∧ WOK cy K L M ∧ va_P D vwCl ([(xa, (b11_1 x0 (nI x1) x2 (nI x3) x4 x5 x6 x7 x8 x9 x10))] ++ va_pl L M) s.heap ∧ va_D A ([(xa, (b11_1 x0 (nI x1) x2 (nI x3) x4 x5 x6 x7 x8 x9 x10))] ++ va_pl L M) ∧ isk K L x0 17 8 ∧ isk K L x2 19 40 ∧ isk K L x4 7 0 ∧ isk K L x5 5 0 ∧ isk K L x6 60 24 ∧ isk K L x8 73 25 ∧ CX Bo K L x0 x1 T x3 PK PT SX SY M ∧ PX x0 x1 x2 x3 PK PT M ∧ M = M0 ∧ K = K0 ∧ L = L0 := ⟨K0, L0, M0, ext.rf, fr.rf, fT.rf, hW, hP, hD, i0, i2, i4, i5, i6, i8, hC, hPX, rfl, rfl, rfl⟩
  have hl : lv_has ls 8 [(0, .ref xa), (1, .int k1), (2, .int k2), (3, .int k3), (4, .int k4), (5, .int 1)] := hl
  have hp4 : ∀ q, isk K L q 4 0 → isk K0 L0 q 4 0 := by rw [hKe, hLe]; exact fun q iq => iq
  refine lv_aload_n hx hb dX11_join_0 rfl (lv_at hl 0 rfl) ?_
  refine va_get (D := D) (ci := 11) (v := .ref x5) (C := RX11) (T := TX11) (N := 11) hx hb hg inG11 hown hK hP 0 rfl rfl 5 (by decide) (hg _ wd_371) (fun _ h9 => h9) rfl dX11_join_1 ?_
  obtain ⟨v1_0, v1_1, v1_2, hM1, h1_0, h1_1⟩ := hW.open_5 i5
  have hPc : va_P D vwCl ([] ++ va_pl L M) s.heap := hP.part (cx := []) [] rfl
  have hDc : va_D A ([] ++ va_pl L M) := hD.part (cx := []) [] (by decide) rfl
  have hFc : ∀ q, va_A ([] ++ va_pl L M) s.heap.size q → A q := pg_free hDc hS hA
  refine va_callv (va_runV (As := []) (rest := []) ⟨hx, hb, hml, hown, hg⟩ (e_forget l D cy K L M s.heap.size x5  hW i5) (cwV 0 hg (gV wd_549 wd_550 wd_551 wd_309 wd_552) rfl rfl rfl (by decide +kernel) ⟨(Nat.le_trans (Nat.le_of_ble_eq_true rfl) hRf), (Nat.le_trans (Nat.le_of_ble_eq_true rfl) hRl)⟩) ⟨PG.blind, pg_recv hK hP i5.1 hM1 rfl, fun U hU hW => ⟨rfl, PG.at hPc hK hDc hN hU hW⟩⟩ rfl rfl hl.1 rfl (lv_room (Nat.le_of_ble_eq_true rfl)) dX11_join_4 ⟨(Nat.le_trans (Nat.le_of_ble_eq_true rfl) hRc), (Nat.le_trans (Nat.le_of_ble_eq_true rfl) hRs)⟩) hS (fun q _ h => hFc q h) hFc (fun M_4 t H_2 locs ht hvm hw hB hz1 hk1 hS => ?_)
  have hWb := hW
  obtain ⟨hW, hF2, hVP, hp_5⟩ := hw
  obtain ⟨hP1, hD1⟩ := hB
  rw [ht] at hP1
  obtain ⟨hP, hD⟩ := va_joinP (X := [(xa, (b11_1 x0 (nI x1) x2 (nI x3) x4 x5 x6 x7 x8 x9 x10))]) (cx := []) (wr := [(xa, (b11_1 x0 (nI x1) x2 (nI x3) x4 x5 x6 x7 x8 x9 x10))]) (rx := []) (pl := va_pl L M) (pl1 := va_pl L M_4) hP hD [] [0] rfl rfl (by decide) (by decide) hk1 hFc hP1 hD1
  have hP : va_P D vwCl ([(xa, (b11_1 x0 (nI x1) x2 (nI x3) x4 x5 x6 x7 x8 x9 x10))] ++ va_pl L M_4) H_2 := hP
  have hD : va_D A ([(xa, (b11_1 x0 (nI x1) x2 (nI x3) x4 x5 x6 x7 x8 x9 x10))] ++ va_pl L M_4) := hD
  have hF : fr K0 L0 [2, 5, 58, 59, 61, 62] M0 M_4 := hF.trX hX0 hF2 (by decide)
  have hT2 : fT 2 K0 L0 [9, 15] M0 M_4 := hT2.frrX hX0 hF2 (by decide)
  have hRG0 := hVP
  have hS0 : SAME K L M M_4 := (SAME.fr (fr.cv hF2 (by decide)) (fr.cv hF2 (by decide)) (fr.cv hF2 (by decide)) (fr.cv hF2 (by decide)) (fr.cv hF2 (by decide)) (fr.cv hF2 (by decide)) (fr.cv hF2 (by decide)) hF2 (by decide))
  have hC := CX.same0 hC hWb i0 b1 hS0 (by rw [hF2.at i0 (by decide)])
  have hPX := PX.mv hPX hWb i0 i2 b3 hF2 (by decide) (by decide) (by decide)
  have hS00 : SAME K0 L0 M0 M_4 := by rw [← hKe, ← hLe, ← hMe]; exact hS0
  have hx00 : RFc (M_4 x0) = RFc (M0 x0) := by rw [hF2.at i0 (by decide), hMe]
  obtain ⟨M, hMM⟩ : ∃ M : Hp, M = M_4 := ⟨_, rfl⟩
  subst hMM
  refine lv_aload_n hx hb dX11_join_7 rfl (lv_at hl 0 rfl) ?_
  refine lv_iload_n hx hb dX11_join_8 rfl (lv_at hl 1 rfl) ?_
  have hPc : va_P D vwCl ([(xa, (b11_1 x0 (nI x1) x2 (nI x3) x4 x5 x6 x7 x8 x9 x10))] ++ va_pl L M) H_2 := hP
  have hDc : va_D A ([(xa, (b11_1 x0 (nI x1) x2 (nI x3) x4 x5 x6 x7 x8 x9 x10))] ++ va_pl L M) := hD
  have hFc : ∀ q, va_A ([(xa, (b11_1 x0 (nI x1) x2 (nI x3) x4 x5 x6 x7 x8 x9 x10))] ++ va_pl L M) H_2.size q → A q := pg_free hDc hS hA
  refine va_callq (va_runV (As := [.int k1]) (rest := []) ⟨hx, hb, hml, hown, hg⟩ (e_houseAt l D cy K L M H_2.size xa x0 x1 x2 x3 x4 x5 x6 x7 x8 x9 x10 k1 Bo T PK PT SX SY  hW i0 b1 i2 b3 i4 i5 i6 i8 hC) (cwV 1 hg (gV wd_340 wd_341 wd_342 wd_3 wd_343) rfl rfl rfl (by decide +kernel) ⟨(Nat.le_trans (Nat.le_of_ble_eq_true rfl) hRf), (Nat.le_trans (Nat.le_of_ble_eq_true rfl) hRl)⟩) ⟨PG.blind, va_recv hK hP (ci := 11) (q0 := 0) rfl rfl, fun U hU hW => ⟨rfl, PG.at hPc hK hDc hN hU hW⟩⟩ rfl rfl hl.1 rfl (lv_room (Nat.le_of_ble_eq_true rfl)) dX11_join_9 ⟨(Nat.le_trans (Nat.le_of_ble_eq_true rfl) hRc), (Nat.le_trans (Nat.le_of_ble_eq_true rfl) hRs)⟩) hS (fun q _ h => hFc q h) hFc (fun r_7 M_8 t H_6 locs ht hvm hw hB hz1 hk1 hS => ?_)
  have hp_9 := hw
  obtain ⟨hP1, hD1⟩ := hB
  rw [ht] at hP1
  have hP : va_P D vwCl ([(xa, (b11_1 x0 (nI x1) x2 (nI x3) x4 x5 x6 x7 x8 x9 x10))] ++ va_pl L M) H_6 := hP1
  have hD : va_D A ([(xa, (b11_1 x0 (nI x1) x2 (nI x3) x4 x5 x6 x7 x8 x9 x10))] ++ va_pl L M) := hD1.mono hFc
  obtain ⟨hp_9, hqx⟩ := hp_9
  rcases r_7 with _ | b_10
  · have hz := rfl (a := 0)
    have hqh := hqx
    refine lv_astoreN (lv' := [(6, .null), (0, .ref xa), (1, .int k1), (2, .int k2), (3, .int k3), (4, .int k4), (5, .int 1)]) hx hb dX11_join_12 hl (by decide) rfl (fun ls hl => ?_)
    refine lv_aload_n hx hb dX11_join_14 rfl (lv_at hl 1 rfl) ?_
    refine lv_iload_n hx hb dX11_join_15 rfl (lv_at hl 4 rfl) ?_
    have hPc : va_P D vwCl ([(xa, (b11_1 x0 (nI x1) x2 (nI x3) x4 x5 x6 x7 x8 x9 x10))] ++ va_pl L M) H_6 := hP
    have hDc : va_D A ([(xa, (b11_1 x0 (nI x1) x2 (nI x3) x4 x5 x6 x7 x8 x9 x10))] ++ va_pl L M) := hD
    have hFc : ∀ q, va_A ([(xa, (b11_1 x0 (nI x1) x2 (nI x3) x4 x5 x6 x7 x8 x9 x10))] ++ va_pl L M) H_6.size q → A q := pg_free hDc hS hA
    refine va_callq (va_runV (As := [.int k3]) (rest := []) ⟨hx, hb, hml, hown, hg⟩ (e_partnerAt l D cy K L M H_6.size xa x0 x1 x2 x3 x4 x5 x6 x7 x8 x9 x10 k3 PK PT  hW i0 b1 i2 b3 i4 i5 i6 i8 hPX) (cwV 1 hg (gV wd_553 wd_554 wd_555 wd_3 wd_556) rfl rfl rfl (by decide +kernel) ⟨(Nat.le_trans (Nat.le_of_ble_eq_true rfl) hRf), (Nat.le_trans (Nat.le_of_ble_eq_true rfl) hRl)⟩) ⟨PG.blind, va_recv hK hP (ci := 11) (q0 := 0) rfl rfl, fun U hU hW => ⟨rfl, PG.at hPc hK hDc hN hU hW⟩⟩ rfl rfl hl.1 rfl (lv_room (Nat.le_of_ble_eq_true rfl)) dX11_join_16 ⟨(Nat.le_trans (Nat.le_of_ble_eq_true rfl) hRc), (Nat.le_trans (Nat.le_of_ble_eq_true rfl) hRs)⟩) hS (fun q _ h => hFc q h) hFc (fun r_12 M_13 t H_11 locs ht hvm hw hB hz1 hk1 hS => ?_)
    have hp_14 := hw
    obtain ⟨hP1, hD1⟩ := hB
    rw [ht] at hP1
    have hP : va_P D vwCl ([(xa, (b11_1 x0 (nI x1) x2 (nI x3) x4 x5 x6 x7 x8 x9 x10))] ++ va_pl L M) H_11 := hP1
    have hD : va_D A ([(xa, (b11_1 x0 (nI x1) x2 (nI x3) x4 x5 x6 x7 x8 x9 x10))] ++ va_pl L M) := hD1.mono hFc
    obtain ⟨hp_14, hqx⟩ := hp_14
    rcases r_12 with _ | b_15
    · have hz := rfl (a := 0)
      have hqp := hqx
      refine lv_astoreN (lv' := [(7, .null), (6, .null), (0, .ref xa), (1, .int k1), (2, .int k2), (3, .int k3), (4, .int k4), (5, .int 1)]) hx hb dX11_join_19 hl (by decide) rfl (fun ls hl => ?_)
      refine lv_aloadN hx hb dX11_join_21 (lv_at hl 1 rfl) ?_
      refine lv_ifnullN (tgt := 38) hx hb dX11_join_23 (by decide) ?_
      refine lv_aload_n hx hb dX11_join_38 rfl (lv_at hl 2 rfl) ?_
      refine lv_iconst (v := 1) hx hb dX11_join_39 (by decide) ?_
      have hPc := hP.sub (ws' := [(xa, (b11_1 x0 (nI x1) x2 (nI x3) x4 x5 x6 x7 x8 x9 x10))]) [0] rfl
      have hDc := hD.sub (ws' := [(xa, (b11_1 x0 (nI x1) x2 (nI x3) x4 x5 x6 x7 x8 x9 x10))]) [0] (by decide) rfl
      have hKc := hK.sub (tys' := []) [] rfl
      have hFc := va_free (wc := [(xa, (b11_1 x0 (nI x1) x2 (nI x3) x4 x5 x6 x7 x8 x9 x10))]) hD hS hA [0] rfl
      refine va_calli (va_runV (As := [.int 1]) (rest := []) ⟨hx, hb, hml, hown, hg⟩ (k_refuse l D H_11.size xa x0 (nI x1) x2 (nI x3) x4 x5 x6 x7 x8 x9 x10 1) (cwV 1 hg (gV wd_344 wd_345 wd_346 wd_3 wd_347) rfl rfl rfl (by decide +kernel) ⟨(Nat.le_trans (Nat.le_of_ble_eq_true rfl) hRf), (Nat.le_trans (Nat.le_of_ble_eq_true rfl) hRl)⟩) ⟨Pr.blind, va_recv hK hP (ci := 11) (q0 := 0) rfl rfl, fun U hU hW => ⟨rfl, Pr.at hPc hKc hDc hN hU hW⟩⟩ rfl rfl hl.1 rfl (lv_room (Nat.le_of_ble_eq_true rfl)) dX11_join_40 ⟨(Nat.le_trans (Nat.le_of_ble_eq_true rfl) hRc), (Nat.le_trans (Nat.le_of_ble_eq_true rfl) hRs)⟩) hS (fun q _ h => hFc q h) hFc (fun r_17 M_18 t H_16 locs ht hvm hw hB hz1 hk1 hS => ?_)
      have hp_19 := hw
      obtain ⟨hP1, hK1, hD1⟩ := hB
      rw [ht] at hP1
      obtain ⟨hP, hD⟩ := va_joinQ (X := [(xa, (b11_1 x0 (nI x1) x2 (nI x3) x4 x5 x6 x7 x8 x9 x10))]) (cx := [(xa, (b11_1 x0 (nI x1) x2 (nI x3) x4 x5 x6 x7 x8 x9 x10))]) (wr := []) (w1 := [(xa, (b11_1 x0 (nI x1) x2 (nI x3) x4 x5 x6 x7 x8 1 (-1)))]) (pl := va_pl L M) hP hD [0] [] rfl rfl (by decide) (by decide) hk1 hFc hP1 hD1
      have hP : va_P D vwCl ([(xa, (b11_1 x0 (nI x1) x2 (nI x3) x4 x5 x6 x7 x8 1 (-1)))] ++ va_pl L M) H_16 := hP
      have hD : va_D A ([(xa, (b11_1 x0 (nI x1) x2 (nI x3) x4 x5 x6 x7 x8 1 (-1)))] ++ va_pl L M) := hD
      have hq := Eq.symm hp_19
      subst hq
      refine W.widen (k := 1) (n := 16) (Nat.le_of_ble_eq_true rfl) (Nat.le_of_ble_eq_true rfl) ?_
      have hnh := hqh.2 rfl
      have hnp := hqp.2 rfl
      have hno : ¬ okJo x1 x3 PK PT SX SY k1 k2 k3 k4 := fun q9 => by obtain ⟨⟨a1, a2, a3, a4⟩, ⟨a5, a6⟩, ⟨a7, a8⟩, ⟨a9, a10⟩, a11, a12⟩ := q9; first | omega | exact a10 hTK | exact a11 hP5 hRC
      have hncr : ¬ okCr x1 x3 PK PT SX SY k1 k2 k3 k4 := fun q9 => by obtain ⟨⟨a1, a2, a3, a4⟩, ⟨a5, a6⟩, ⟨a7, a8⟩, ⟨a9, a10⟩, a11, a12⟩ := q9; first | omega | exact a10 hTK | exact hRC a12 | exact hP5 a11
      rw [hQ]
      exact W.iret (v := (-1)) hx hb hr (fun t ht hW9 => ⟨⟨(-1), (K, L, M), rfl, ⟨hX0, hW, hF, hT2, (by unfold anJo; rw [if_neg hno])⟩, ⟨1, (⟨_, by unfold sxJo syJo; rw [if_neg hno, if_neg hno]; exact hC.mono⟩), (by unfold caJo; rw [if_neg hncr]; exact hRG0), by rw [ht]; exact hP, hD⟩⟩, hS.F ht⟩) hS.2.2 dX11_join_43
    · have hb_20 := hp_14 b_15 rfl
      have hqp := hqx
      refine lv_astore (lv' := [(7, .ref b_15), (6, .null), (0, .ref xa), (1, .int k1), (2, .int k2), (3, .int k3), (4, .int k4), (5, .int 1)]) hx hb dX11_join_19 hl (by decide) rfl (fun ls hl => ?_)
      obtain ⟨hpr9, hpq9⟩ := hqp.1 b_15 rfl
      have hcp : ((k3 : Int32).toNatClampNeg : Int) = (k3 : Int32).toInt := clT (by omega)
      obtain ⟨q9, hpa, hpb, hpc, hpd, hpe⟩ := hPX (k3 : Int32).toNatClampNeg (by omega)
      have hq9e : q9 = b_15 := Option.some.inj (hpa.symm.trans hpq9)
      rw [hq9e] at hpb hpc hpd hpe
      have hpb2 : cV 4 M b_15 0 = k3 := by rw [hpb]; exact (i32_of (by omega) (by omega)).symm
      refine lv_aloadN hx hb dX11_join_21 (lv_at hl 1 rfl) ?_
      refine lv_ifnullN (tgt := 38) hx hb dX11_join_23 (by decide) ?_
      refine lv_aload_n hx hb dX11_join_38 rfl (lv_at hl 2 rfl) ?_
      refine lv_iconst (v := 1) hx hb dX11_join_39 (by decide) ?_
      have hPc := hP.sub (ws' := [(xa, (b11_1 x0 (nI x1) x2 (nI x3) x4 x5 x6 x7 x8 x9 x10))]) [0] rfl
      have hDc := hD.sub (ws' := [(xa, (b11_1 x0 (nI x1) x2 (nI x3) x4 x5 x6 x7 x8 x9 x10))]) [0] (by decide) rfl
      have hKc := hK.sub (tys' := []) [] rfl
      have hFc := va_free (wc := [(xa, (b11_1 x0 (nI x1) x2 (nI x3) x4 x5 x6 x7 x8 x9 x10))]) hD hS hA [0] rfl
      refine va_calli (va_runV (As := [.int 1]) (rest := []) ⟨hx, hb, hml, hown, hg⟩ (k_refuse l D H_11.size xa x0 (nI x1) x2 (nI x3) x4 x5 x6 x7 x8 x9 x10 1) (cwV 1 hg (gV wd_344 wd_345 wd_346 wd_3 wd_347) rfl rfl rfl (by decide +kernel) ⟨(Nat.le_trans (Nat.le_of_ble_eq_true rfl) hRf), (Nat.le_trans (Nat.le_of_ble_eq_true rfl) hRl)⟩) ⟨Pr.blind, va_recv hK hP (ci := 11) (q0 := 0) rfl rfl, fun U hU hW => ⟨rfl, Pr.at hPc hKc hDc hN hU hW⟩⟩ rfl rfl hl.1 rfl (lv_room (Nat.le_of_ble_eq_true rfl)) dX11_join_40 ⟨(Nat.le_trans (Nat.le_of_ble_eq_true rfl) hRc), (Nat.le_trans (Nat.le_of_ble_eq_true rfl) hRs)⟩) hS (fun q _ h => hFc q h) hFc (fun r_22 M_23 t H_21 locs ht hvm hw hB hz1 hk1 hS => ?_)
      have hp_24 := hw
      obtain ⟨hP1, hK1, hD1⟩ := hB
      rw [ht] at hP1
      obtain ⟨hP, hD⟩ := va_joinQ (X := [(xa, (b11_1 x0 (nI x1) x2 (nI x3) x4 x5 x6 x7 x8 x9 x10))]) (cx := [(xa, (b11_1 x0 (nI x1) x2 (nI x3) x4 x5 x6 x7 x8 x9 x10))]) (wr := []) (w1 := [(xa, (b11_1 x0 (nI x1) x2 (nI x3) x4 x5 x6 x7 x8 1 (-1)))]) (pl := va_pl L M) hP hD [0] [] rfl rfl (by decide) (by decide) hk1 hFc hP1 hD1
      have hP : va_P D vwCl ([(xa, (b11_1 x0 (nI x1) x2 (nI x3) x4 x5 x6 x7 x8 1 (-1)))] ++ va_pl L M) H_21 := hP
      have hD : va_D A ([(xa, (b11_1 x0 (nI x1) x2 (nI x3) x4 x5 x6 x7 x8 1 (-1)))] ++ va_pl L M) := hD
      have hq := Eq.symm hp_24
      subst hq
      refine W.widen (k := 1) (n := 16) (Nat.le_of_ble_eq_true rfl) (Nat.le_of_ble_eq_true rfl) ?_
      have hnh := hqh.2 rfl
      have hno : ¬ okJo x1 x3 PK PT SX SY k1 k2 k3 k4 := fun q9 => by obtain ⟨⟨a1, a2, a3, a4⟩, ⟨a5, a6⟩, ⟨a7, a8⟩, ⟨a9, a10⟩, a11, a12⟩ := q9; first | omega | exact a10 hTK | exact a11 hP5 hRC
      have hncr : ¬ okCr x1 x3 PK PT SX SY k1 k2 k3 k4 := fun q9 => by obtain ⟨⟨a1, a2, a3, a4⟩, ⟨a5, a6⟩, ⟨a7, a8⟩, ⟨a9, a10⟩, a11, a12⟩ := q9; first | omega | exact a10 hTK | exact hRC a12 | exact hP5 a11
      rw [hQ]
      exact W.iret (v := (-1)) hx hb hr (fun t ht hW9 => ⟨⟨(-1), (K, L, M), rfl, ⟨hX0, hW, hF, hT2, (by unfold anJo; rw [if_neg hno])⟩, ⟨1, (⟨_, by unfold sxJo syJo; rw [if_neg hno, if_neg hno]; exact hC.mono⟩), (by unfold caJo; rw [if_neg hncr]; exact hRG0), by rw [ht]; exact hP, hD⟩⟩, hS.F ht⟩) hS.2.2 dX11_join_43
  · have hb_25 := hp_9 b_10 rfl
    have hqh := hqx
    refine lv_astore (lv' := [(6, .ref b_10), (0, .ref xa), (1, .int k1), (2, .int k2), (3, .int k3), (4, .int k4), (5, .int 1)]) hx hb dX11_join_12 hl (by decide) rfl (fun ls hl => ?_)
    obtain ⟨hr9, hb9⟩ := hqh.1 b_10 rfl
    have hck : ((k1 : Int32).toNatClampNeg : Int) = (k1 : Int32).toInt := clT (by omega)
    have hkn : (k1 : Int32).toNatClampNeg < x1 := by omega
    have hSM := hC.at hkn hb9
    have hSVk := hSV (k1 : Int32).toNatClampNeg hkn
    have hHIk := hHI (k1 : Int32).toNatClampNeg hkn
    have hV : VC Bo K L M0 M b_10 (cfx M b_10) (cax M b_10) := by rw [hKe, hLe]; exact VC.rb b_10 hW00 hS00 hC00.oc (by rw [← hKe, ← hLe]; exact hC.oc)
    have hb90 : RFc (M0 x0) (k1 : Int32).toNatClampNeg = some b_10 := by rw [← hx00]; exact hb9
    obtain ⟨v26_0, v26_1, v26_2, v26_3, v26_4, v26_5, v26_6, v26_7, v26_8, v26_9, v26_10, v26_11, v26_12, v26_13, v26_14, v26_15, v26_16, v26_17, v26_18, v26_19, hM26, h26_3, h26_4, h26_5, h26_6, h26_7, h26_8, h26_9, h26_10, h26_11, h26_12, h26_13, h26_16, h26_17, h26_18, h26_19⟩ := hW.open_2 hb_25
    have hA_27 : (cV 2 M b_10 0).toInt = (v26_0 : Int32).toInt := by rw [cV_of hM26 rfl]
    have hA_28 : (cV 2 M b_10 1).toInt = (v26_1 : Int32).toInt := by rw [cV_of hM26 rfl]
    have hA_29 : (cV 2 M b_10 2).toInt = (v26_2 : Int32).toInt := by rw [cV_of hM26 rfl]
    have hA_30 : (cV 2 M b_10 4).toInt = ((v26_4 : Nat) : Int) := by rw [cV_of hM26 rfl]; exact nI_toInt (by omega)
    have hA_31 : (cV 2 M b_10 5).toInt = ((v26_5 : Nat) : Int) := by rw [cV_of hM26 rfl]; exact nI_toInt (by omega)
    have hA_32 : (cV 2 M b_10 9).toInt = ((v26_9 : Nat) : Int) := by rw [cV_of hM26 rfl]; exact nI_toInt (by omega)
    have hA_33 : (cV 2 M b_10 11).toInt = ((v26_11 : Nat) : Int) := by rw [cV_of hM26 rfl]; exact nI_toInt (by omega)
    have hA_34 : (cV 2 M b_10 15).toInt = (v26_15 : Int32).toInt := by rw [cV_of hM26 rfl]
    have hq0 : (cV 2 M b_10 1).toInt = SX (k1 : Int32).toNatClampNeg 0 := hSM.x0
    have hq1 : (cV 2 M b_10 2).toInt = SX (k1 : Int32).toNatClampNeg 1 := hSM.x1
    have hq10 : (cV 2 M b_10 9).toInt = SX (k1 : Int32).toNatClampNeg 10 := hSM.x10
    have hq11 : (cV 2 M b_10 11).toInt = SX (k1 : Int32).toNatClampNeg 11 := hSM.x11
    have hq12 : (cV 2 M b_10 4).toInt = SX (k1 : Int32).toNatClampNeg 12 := hSM.x12
    have hq13 : (cV 2 M b_10 5).toInt = SX (k1 : Int32).toNatClampNeg 13 := hSM.x13
    have hq14 : (cV 1 M v26_16 3).toInt = SX (k1 : Int32).toNatClampNeg 14 := by have h9 := hSM.x14; rw [← h9]; show _ = (cV 1 M (rA 2 M b_10 16) 3).toInt; rw [rA_of (j := 16) hM26 rfl]
    have hq15 : (cV 1 M v26_17 3).toInt = SX (k1 : Int32).toNatClampNeg 15 := by have h9 := hSM.x15; rw [← h9]; show _ = (cV 1 M (rA 2 M b_10 17) 3).toInt; rw [rA_of (j := 17) hM26 rfl]
    have hq16 : (cV 10 M v26_18 2).toInt = SX (k1 : Int32).toNatClampNeg 16 := by have h9 := hSM.x16; rw [← h9]; show _ = (cV 10 M (rA 2 M b_10 18) 2).toInt; rw [rA_of (j := 18) hM26 rfl]
    have hq19 : (cV 10 M v26_18 1).toInt = cfx M b_10 19 := by show _ = (cV 10 M (rA 2 M b_10 18) 1).toInt; rw [rA_of (j := 18) hM26 rfl]
    have hun := hSM.un
    have hl16 : (ALc (M (rA 1 M v26_16 1)) : Int) = 120 := by have h9 := hC.oc.l16 hW hb_25; rw [rA_of (j := 16) hM26 rfl] at h9; omega
    have hl17 : (ALc (M (rA 1 M v26_17 1)) : Int) = 20 := by have h9 := hC.oc.l17 hW hb_25; rw [rA_of (j := 17) hM26 rfl] at h9; omega
    have hbd0 := hSVk.b0
    have hbd1 := hSVk.b1
    have hbd10 := hSVk.b10
    have hbd11 := hSVk.b11
    have hbd12 := hSVk.b12
    have hbd13 := hSVk.b13
    have hbd14 := hSVk.b14
    have hbd15 := hSVk.b15
    have hbd16 := hSVk.b16
    have hqx14 : cfx M b_10 14 = SX (k1 : Int32).toNatClampNeg 14 := hSM.x14
    have hqx15 : cfx M b_10 15 = SX (k1 : Int32).toNatClampNeg 15 := hSM.x15
    have hqx16 : cfx M b_10 16 = SX (k1 : Int32).toNatClampNeg 16 := hSM.x16
    refine lv_aload_n hx hb dX11_join_14 rfl (lv_at hl 1 rfl) ?_
    refine lv_iload_n hx hb dX11_join_15 rfl (lv_at hl 4 rfl) ?_
    have hPc : va_P D vwCl ([(xa, (b11_1 x0 (nI x1) x2 (nI x3) x4 x5 x6 x7 x8 x9 x10))] ++ va_pl L M) H_6 := hP
    have hDc : va_D A ([(xa, (b11_1 x0 (nI x1) x2 (nI x3) x4 x5 x6 x7 x8 x9 x10))] ++ va_pl L M) := hD
    have hFc : ∀ q, va_A ([(xa, (b11_1 x0 (nI x1) x2 (nI x3) x4 x5 x6 x7 x8 x9 x10))] ++ va_pl L M) H_6.size q → A q := pg_free hDc hS hA
    refine va_callq (va_runV (As := [.int k3]) (rest := []) ⟨hx, hb, hml, hown, hg⟩ (e_partnerAt l D cy K L M H_6.size xa x0 x1 x2 x3 x4 x5 x6 x7 x8 x9 x10 k3 PK PT  hW i0 b1 i2 b3 i4 i5 i6 i8 hPX) (cwV 1 hg (gV wd_553 wd_554 wd_555 wd_3 wd_556) rfl rfl rfl (by decide +kernel) ⟨(Nat.le_trans (Nat.le_of_ble_eq_true rfl) hRf), (Nat.le_trans (Nat.le_of_ble_eq_true rfl) hRl)⟩) ⟨PG.blind, va_recv hK hP (ci := 11) (q0 := 0) rfl rfl, fun U hU hW => ⟨rfl, PG.at hPc hK hDc hN hU hW⟩⟩ rfl rfl hl.1 rfl (lv_room (Nat.le_of_ble_eq_true rfl)) dX11_join_16 ⟨(Nat.le_trans (Nat.le_of_ble_eq_true rfl) hRc), (Nat.le_trans (Nat.le_of_ble_eq_true rfl) hRs)⟩) hS (fun q _ h => hFc q h) hFc (fun r_36 M_37 t H_35 locs ht hvm hw hB hz1 hk1 hS => ?_)
    have hp_38 := hw
    obtain ⟨hP1, hD1⟩ := hB
    rw [ht] at hP1
    have hP : va_P D vwCl ([(xa, (b11_1 x0 (nI x1) x2 (nI x3) x4 x5 x6 x7 x8 x9 x10))] ++ va_pl L M) H_35 := hP1
    have hD : va_D A ([(xa, (b11_1 x0 (nI x1) x2 (nI x3) x4 x5 x6 x7 x8 x9 x10))] ++ va_pl L M) := hD1.mono hFc
    obtain ⟨hp_38, hqx⟩ := hp_38
    rcases r_36 with _ | b_39
    · have hz := rfl (a := 0)
      have hqp := hqx
      refine lv_astoreN (lv' := [(7, .null), (6, .ref b_10), (0, .ref xa), (1, .int k1), (2, .int k2), (3, .int k3), (4, .int k4), (5, .int 1)]) hx hb dX11_join_19 hl (by decide) rfl (fun ls hl => ?_)
      refine lv_aload hx hb dX11_join_21 (lv_at hl 1 rfl) ?_
      refine lv_ifnull hx hb dX11_join_23 ?_
      refine lv_aloadN hx hb dX11_join_26 (lv_at hl 0 rfl) ?_
      refine lv_ifnullN (tgt := 38) hx hb dX11_join_28 (by decide) ?_
      refine lv_aload_n hx hb dX11_join_38 rfl (lv_at hl 2 rfl) ?_
      refine lv_iconst (v := 1) hx hb dX11_join_39 (by decide) ?_
      have hPc := hP.sub (ws' := [(xa, (b11_1 x0 (nI x1) x2 (nI x3) x4 x5 x6 x7 x8 x9 x10))]) [0] rfl
      have hDc := hD.sub (ws' := [(xa, (b11_1 x0 (nI x1) x2 (nI x3) x4 x5 x6 x7 x8 x9 x10))]) [0] (by decide) rfl
      have hKc := hK.sub (tys' := []) [] rfl
      have hFc := va_free (wc := [(xa, (b11_1 x0 (nI x1) x2 (nI x3) x4 x5 x6 x7 x8 x9 x10))]) hD hS hA [0] rfl
      refine va_calli (va_runV (As := [.int 1]) (rest := []) ⟨hx, hb, hml, hown, hg⟩ (k_refuse l D H_35.size xa x0 (nI x1) x2 (nI x3) x4 x5 x6 x7 x8 x9 x10 1) (cwV 1 hg (gV wd_344 wd_345 wd_346 wd_3 wd_347) rfl rfl rfl (by decide +kernel) ⟨(Nat.le_trans (Nat.le_of_ble_eq_true rfl) hRf), (Nat.le_trans (Nat.le_of_ble_eq_true rfl) hRl)⟩) ⟨Pr.blind, va_recv hK hP (ci := 11) (q0 := 0) rfl rfl, fun U hU hW => ⟨rfl, Pr.at hPc hKc hDc hN hU hW⟩⟩ rfl rfl hl.1 rfl (lv_room (Nat.le_of_ble_eq_true rfl)) dX11_join_40 ⟨(Nat.le_trans (Nat.le_of_ble_eq_true rfl) hRc), (Nat.le_trans (Nat.le_of_ble_eq_true rfl) hRs)⟩) hS (fun q _ h => hFc q h) hFc (fun r_41 M_42 t H_40 locs ht hvm hw hB hz1 hk1 hS => ?_)
      have hp_43 := hw
      obtain ⟨hP1, hK1, hD1⟩ := hB
      rw [ht] at hP1
      obtain ⟨hP, hD⟩ := va_joinQ (X := [(xa, (b11_1 x0 (nI x1) x2 (nI x3) x4 x5 x6 x7 x8 x9 x10))]) (cx := [(xa, (b11_1 x0 (nI x1) x2 (nI x3) x4 x5 x6 x7 x8 x9 x10))]) (wr := []) (w1 := [(xa, (b11_1 x0 (nI x1) x2 (nI x3) x4 x5 x6 x7 x8 1 (-1)))]) (pl := va_pl L M) hP hD [0] [] rfl rfl (by decide) (by decide) hk1 hFc hP1 hD1
      have hP : va_P D vwCl ([(xa, (b11_1 x0 (nI x1) x2 (nI x3) x4 x5 x6 x7 x8 1 (-1)))] ++ va_pl L M) H_40 := hP
      have hD : va_D A ([(xa, (b11_1 x0 (nI x1) x2 (nI x3) x4 x5 x6 x7 x8 1 (-1)))] ++ va_pl L M) := hD
      have hq := Eq.symm hp_43
      subst hq
      refine W.widen (k := 1) (n := 16) (Nat.le_of_ble_eq_true rfl) (Nat.le_of_ble_eq_true rfl) ?_
      have hnp := hqp.2 rfl
      have hno : ¬ okJo x1 x3 PK PT SX SY k1 k2 k3 k4 := fun q9 => by obtain ⟨⟨a1, a2, a3, a4⟩, ⟨a5, a6⟩, ⟨a7, a8⟩, ⟨a9, a10⟩, a11, a12⟩ := q9; first | omega | exact a10 hTK | exact a11 hP5 hRC
      have hncr : ¬ okCr x1 x3 PK PT SX SY k1 k2 k3 k4 := fun q9 => by obtain ⟨⟨a1, a2, a3, a4⟩, ⟨a5, a6⟩, ⟨a7, a8⟩, ⟨a9, a10⟩, a11, a12⟩ := q9; first | omega | exact a10 hTK | exact hRC a12 | exact hP5 a11
      rw [hQ]
      exact W.iret (v := (-1)) hx hb hr (fun t ht hW9 => ⟨⟨(-1), (K, L, M), rfl, ⟨hX0, hW, hF, hT2, (by unfold anJo; rw [if_neg hno])⟩, ⟨1, (⟨_, by unfold sxJo syJo; rw [if_neg hno, if_neg hno]; exact hC.mono⟩), (by unfold caJo; rw [if_neg hncr]; exact hRG0), by rw [ht]; exact hP, hD⟩⟩, hS.F ht⟩) hS.2.2 dX11_join_43
    · have hb_44 := hp_38 b_39 rfl
      have hqp := hqx
      refine lv_astore (lv' := [(7, .ref b_39), (6, .ref b_10), (0, .ref xa), (1, .int k1), (2, .int k2), (3, .int k3), (4, .int k4), (5, .int 1)]) hx hb dX11_join_19 hl (by decide) rfl (fun ls hl => ?_)
      obtain ⟨hpr9, hpq9⟩ := hqp.1 b_39 rfl
      have hcp : ((k3 : Int32).toNatClampNeg : Int) = (k3 : Int32).toInt := clT (by omega)
      obtain ⟨q9, hpa, hpb, hpc, hpd, hpe⟩ := hPX (k3 : Int32).toNatClampNeg (by omega)
      have hq9e : q9 = b_39 := Option.some.inj (hpa.symm.trans hpq9)
      rw [hq9e] at hpb hpc hpd hpe
      have hpb2 : cV 4 M b_39 0 = k3 := by rw [hpb]; exact (i32_of (by omega) (by omega)).symm
      refine lv_aload hx hb dX11_join_21 (lv_at hl 1 rfl) ?_
      refine lv_ifnull hx hb dX11_join_23 ?_
      refine lv_aload hx hb dX11_join_26 (lv_at hl 0 rfl) ?_
      refine lv_ifnull hx hb dX11_join_28 ?_
      refine lv_iload_n hx hb dX11_join_31 rfl (lv_at hl 4 rfl) ?_
      have hPc : va_P D vwCl ([] ++ va_pl L M) H_35 := hP.part (cx := []) [] rfl
      have hDc : va_D A ([] ++ va_pl L M) := hD.part (cx := []) [] (by decide) rfl
      have hFc : ∀ q, va_A ([] ++ va_pl L M) H_35.size q → A q := pg_free hDc hS hA
      refine va_calli (va_runS (As := [.int k2]) (rest := []) ⟨hx, hb, hml, hown, hg⟩ (e_X11_isSeat l D cy K L M H_35.size k2  hW ) (va_cwS 1 hg (gS wd_348 wd_47 wd_3 wd_46) rfl rfl rfl (by decide +kernel) ⟨(Nat.le_trans (Nat.le_of_ble_eq_true rfl) hRf), (Nat.le_trans (Nat.le_of_ble_eq_true rfl) hRl)⟩) ⟨PG.blind, fun U hU hW => ⟨rfl, PG.at hPc hK hDc hN hU hW⟩⟩ rfl rfl hl.1 rfl (lv_room (Nat.le_of_ble_eq_true rfl)) dX11_join_32 ⟨(Nat.le_trans (Nat.le_of_ble_eq_true rfl) hRc), (Nat.le_trans (Nat.le_of_ble_eq_true rfl) hRs)⟩) hS (fun q _ h => hFc q h) hFc (fun r_46 M_47 t H_45 locs ht hvm hw hB hz1 hk1 hS => ?_)
      have hp_48 := hw
      obtain ⟨hP1, hD1⟩ := hB
      rw [ht] at hP1
      obtain ⟨hP, hD⟩ := va_joinP (X := [(xa, (b11_1 x0 (nI x1) x2 (nI x3) x4 x5 x6 x7 x8 x9 x10))]) (cx := []) (wr := [(xa, (b11_1 x0 (nI x1) x2 (nI x3) x4 x5 x6 x7 x8 x9 x10))]) (rx := []) (pl := va_pl L M) (pl1 := va_pl L M) hP hD [] [0] rfl rfl (by decide) (by decide) hk1 hFc hP1 hD1
      have hP : va_P D vwCl ([(xa, (b11_1 x0 (nI x1) x2 (nI x3) x4 x5 x6 x7 x8 x9 x10))] ++ va_pl L M) H_45 := hP
      have hD : va_D A ([(xa, (b11_1 x0 (nI x1) x2 (nI x3) x4 x5 x6 x7 x8 x9 x10))] ++ va_pl L M) := hD
      rcases hp_48 with ⟨rfl, c_49, c_50, c_51⟩ | ⟨rfl, c_52⟩
      · have hz := rfl (a := 0)
        refine lv_if_ne (tgt := 44) hx hb dX11_join_35 (by decide) (fun _ => ?_) (fun c_53 => absurd c_53 (by decide))
        refine lv_aload hx hb dX11_join_44 (lv_at hl 1 rfl) ?_
        refine lv_iload hx hb dX11_join_46 (lv_at hl 6 rfl) ?_
        have hPc : va_P D vwCl ([] ++ va_pl L M) H_45 := hP.part (cx := []) [] rfl
        have hDc : va_D A ([] ++ va_pl L M) := hD.part (cx := []) [] (by decide) rfl
        have hFc : ∀ q, va_A ([] ++ va_pl L M) H_45.size q → A q := pg_free hDc hS hA
        refine va_calli (va_runV (As := [.int k4]) (rest := []) ⟨hx, hb, hml, hown, hg⟩ (e_X2_isFree l D cy K L M H_45.size b_10 k4  hW hb_25) (cwV 1 hg (gV wd_361 wd_362 wd_363 wd_57 wd_364) rfl rfl rfl (by decide +kernel) ⟨(Nat.le_trans (Nat.le_of_ble_eq_true rfl) hRf), (Nat.le_trans (Nat.le_of_ble_eq_true rfl) hRl)⟩) ⟨PG.blind, pg_recv hK hP hb_25.1 hM26 rfl, fun U hU hW => ⟨rfl, PG.at hPc hK hDc hN hU hW⟩⟩ rfl rfl hl.1 rfl (lv_room (Nat.le_of_ble_eq_true rfl)) dX11_join_48 ⟨(Nat.le_trans (Nat.le_of_ble_eq_true rfl) hRc), (Nat.le_trans (Nat.le_of_ble_eq_true rfl) hRs)⟩) hS (fun q _ h => hFc q h) hFc (fun r_55 M_56 t H_54 locs ht hvm hw hB hz1 hk1 hS => ?_)
        have hp_57 := hw
        obtain ⟨hP1, hD1⟩ := hB
        rw [ht] at hP1
        obtain ⟨hP, hD⟩ := va_joinP (X := [(xa, (b11_1 x0 (nI x1) x2 (nI x3) x4 x5 x6 x7 x8 x9 x10))]) (cx := []) (wr := [(xa, (b11_1 x0 (nI x1) x2 (nI x3) x4 x5 x6 x7 x8 x9 x10))]) (rx := []) (pl := va_pl L M) (pl1 := va_pl L M) hP hD [] [0] rfl rfl (by decide) (by decide) hk1 hFc hP1 hD1
        have hP : va_P D vwCl ([(xa, (b11_1 x0 (nI x1) x2 (nI x3) x4 x5 x6 x7 x8 x9 x10))] ++ va_pl L M) H_54 := hP
        have hD : va_D A ([(xa, (b11_1 x0 (nI x1) x2 (nI x3) x4 x5 x6 x7 x8 x9 x10))] ++ va_pl L M) := hD
        rcases hp_57 with ⟨rfl, c_58, c_59, c_60⟩ | ⟨rfl, c_61⟩
        · have hz := rfl (a := 0)
          refine lv_if_ne (tgt := 60) hx hb dX11_join_51 (by decide) (fun _ => ?_) (fun c_62 => absurd c_62 (by decide))
          refine lv_aload hx hb dX11_join_60 (lv_at hl 1 rfl) ?_
          refine pg_get (D := D) (ci := 2) (v := .ref v26_6) (C := RX2) (T := TX2) (N := 20) hx hb hg inG2 hown hK hP hb_25.1 hM26 rfl 6 (by decide) (hg _ wd_350) (fun _ h9 => h9) rfl dX11_join_62 ?_
          refine lv_iload_n hx hb dX11_join_65 rfl (lv_at hl 4 rfl) ?_
          obtain ⟨f63, hM63⟩ := hW.open_52 h26_6
          refine pg_iald hx hb hK hP h26_6.1 0 hM63 rfl (inb k2 6 (by omega) c_50 c_51) dX11_join_66 ?_
          refine lv_topi (fun f_64 ef_64 => ?_)
          have hcs : ((k2 : Int32).toNatClampNeg : Int) = k2.toInt := clT (by omega)
          have h50 : cax M b_10 50 k2.toNatClampNeg = f_64 := by show vLe M b_10 k2.toNatClampNeg = _; unfold vLe; rw [rA_of (j := 6) hM26 rfl, IFc_of hM63, ef_64]
          have h50i := congrArg Int32.toInt h50
          have hse := hSM.se k2.toNatClampNeg (by omega)
          refine lv_if_ne (tgt := 81) hx hb dX11_join_67 (by decide) (fun c_65 => ?_) (fun c_65 => ?_)
          · have hz := rfl (a := 0)
            refine lv_aload_n hx hb dX11_join_81 rfl (lv_at hl 2 rfl) ?_
            refine lv_iconst (v := 4) hx hb dX11_join_82 (by decide) ?_
            have hPc := hP.sub (ws' := [(xa, (b11_1 x0 (nI x1) x2 (nI x3) x4 x5 x6 x7 x8 x9 x10))]) [0] rfl
            have hDc := hD.sub (ws' := [(xa, (b11_1 x0 (nI x1) x2 (nI x3) x4 x5 x6 x7 x8 x9 x10))]) [0] (by decide) rfl
            have hKc := hK.sub (tys' := []) [] rfl
            have hFc := va_free (wc := [(xa, (b11_1 x0 (nI x1) x2 (nI x3) x4 x5 x6 x7 x8 x9 x10))]) hD hS hA [0] rfl
            refine va_calli (va_runV (As := [.int 4]) (rest := []) ⟨hx, hb, hml, hown, hg⟩ (k_refuse l D H_54.size xa x0 (nI x1) x2 (nI x3) x4 x5 x6 x7 x8 x9 x10 4) (cwV 1 hg (gV wd_344 wd_345 wd_346 wd_3 wd_347) rfl rfl rfl (by decide +kernel) ⟨(Nat.le_trans (Nat.le_of_ble_eq_true rfl) hRf), (Nat.le_trans (Nat.le_of_ble_eq_true rfl) hRl)⟩) ⟨Pr.blind, va_recv hK hP (ci := 11) (q0 := 0) rfl rfl, fun U hU hW => ⟨rfl, Pr.at hPc hKc hDc hN hU hW⟩⟩ rfl rfl hl.1 rfl (lv_room (Nat.le_of_ble_eq_true rfl)) dX11_join_83 ⟨(Nat.le_trans (Nat.le_of_ble_eq_true rfl) hRc), (Nat.le_trans (Nat.le_of_ble_eq_true rfl) hRs)⟩) hS (fun q _ h => hFc q h) hFc (fun r_67 M_68 t H_66 locs ht hvm hw hB hz1 hk1 hS => ?_)
            have hp_69 := hw
            obtain ⟨hP1, hK1, hD1⟩ := hB
            rw [ht] at hP1
            obtain ⟨hP, hD⟩ := va_joinQ (X := [(xa, (b11_1 x0 (nI x1) x2 (nI x3) x4 x5 x6 x7 x8 x9 x10))]) (cx := [(xa, (b11_1 x0 (nI x1) x2 (nI x3) x4 x5 x6 x7 x8 x9 x10))]) (wr := []) (w1 := [(xa, (b11_1 x0 (nI x1) x2 (nI x3) x4 x5 x6 x7 x8 4 (-1)))]) (pl := va_pl L M) hP hD [0] [] rfl rfl (by decide) (by decide) hk1 hFc hP1 hD1
            have hP : va_P D vwCl ([(xa, (b11_1 x0 (nI x1) x2 (nI x3) x4 x5 x6 x7 x8 4 (-1)))] ++ va_pl L M) H_66 := hP
            have hD : va_D A ([(xa, (b11_1 x0 (nI x1) x2 (nI x3) x4 x5 x6 x7 x8 4 (-1)))] ++ va_pl L M) := hD
            have hq := Eq.symm hp_69
            subst hq
            refine W.widen (k := 1) (n := 16) (Nat.le_of_ble_eq_true rfl) (Nat.le_of_ble_eq_true rfl) ?_
            have hI_70 : (0 : Int) ≤ (k2 : Int32).toInt := inltI rfl rfl c_50
            have hI_71 : (k2 : Int32).toInt < (6 : Int) := inleI rfl rfl c_51
            have hI_72 : (0 : Int) ≤ (k4 : Int32).toInt := inltI rfl rfl c_59
            have hI_73 : (k4 : Int32).toInt ≤ (999 : Int) := inltI rfl rfl c_60
            have hI_74 : (f_64 : Int32).toInt ≠ (0 : Int) := ineI rfl rfl c_65
            have hlt := hSM.letd (s := k2.toNatClampNeg) (by omega) (by omega)
            have hno : ¬ okJo x1 x3 PK PT SX SY k1 k2 k3 k4 := fun q9 => by obtain ⟨⟨a1, a2, a3, a4⟩, ⟨a5, a6⟩, ⟨a7, a8⟩, ⟨a9, a10⟩, a11, a12⟩ := q9; first | omega | exact a10 hTK | exact a11 hP5 hRC
            have hncr : ¬ okCr x1 x3 PK PT SX SY k1 k2 k3 k4 := fun q9 => by obtain ⟨⟨a1, a2, a3, a4⟩, ⟨a5, a6⟩, ⟨a7, a8⟩, ⟨a9, a10⟩, a11, a12⟩ := q9; first | omega | exact a10 hTK | exact hRC a12 | exact hP5 a11
            rw [hQ]
            exact W.iret (v := (-1)) hx hb hr (fun t ht hW9 => ⟨⟨(-1), (K, L, M), rfl, ⟨hX0, hW, hF, hT2, (by unfold anJo; rw [if_neg hno])⟩, ⟨4, (⟨_, by unfold sxJo syJo; rw [if_neg hno, if_neg hno]; exact hC.mono⟩), (by unfold caJo; rw [if_neg hncr]; exact hRG0), by rw [ht]; exact hP, hD⟩⟩, hS.F ht⟩) hS.2.2 dX11_join_86
          · have hz := rfl (a := 0)
            refine lv_aload hx hb dX11_join_70 (lv_at hl 1 rfl) ?_
            refine lv_iload_n hx hb dX11_join_72 rfl (lv_at hl 4 rfl) ?_
            refine lv_iload hx hb dX11_join_73 (lv_at hl 6 rfl) ?_
            have hPc : va_P D vwCl ([] ++ va_pl L M) H_54 := hP.part (cx := []) [] rfl
            have hDc : va_D A ([] ++ va_pl L M) := hD.part (cx := []) [] (by decide) rfl
            have hFc : ∀ q, va_A ([] ++ va_pl L M) H_54.size q → A q := pg_free hDc hS hA
            refine va_calli (va_runV (As := [.int k2, .int k4]) (rest := []) ⟨hx, hb, hml, hown, hg⟩ (e_vacant l D cy K L M H_54.size b_10 k2 k4  hW hb_25) (cwV 2 hg (gV wd_557 wd_558 wd_559 wd_57 wd_560) rfl rfl rfl (by decide +kernel) ⟨(Nat.le_trans (Nat.le_of_ble_eq_true rfl) hRf), (Nat.le_trans (Nat.le_of_ble_eq_true rfl) hRl)⟩) ⟨PG.blind, pg_recv hK hP hb_25.1 hM26 rfl, fun U hU hW => ⟨rfl, PG.at hPc hK hDc hN hU hW⟩⟩ rfl rfl hl.1 rfl (lv_room (Nat.le_of_ble_eq_true rfl)) dX11_join_75 ⟨(Nat.le_trans (Nat.le_of_ble_eq_true rfl) hRc), (Nat.le_trans (Nat.le_of_ble_eq_true rfl) hRs)⟩) hS (fun q _ h => hFc q h) hFc (fun r_76 M_77 t H_75 locs ht hvm hw hB hz1 hk1 hS => ?_)
            have hp_78 := hw
            obtain ⟨hP1, hD1⟩ := hB
            rw [ht] at hP1
            obtain ⟨hP, hD⟩ := va_joinP (X := [(xa, (b11_1 x0 (nI x1) x2 (nI x3) x4 x5 x6 x7 x8 x9 x10))]) (cx := []) (wr := [(xa, (b11_1 x0 (nI x1) x2 (nI x3) x4 x5 x6 x7 x8 x9 x10))]) (rx := []) (pl := va_pl L M) (pl1 := va_pl L M) hP hD [] [0] rfl rfl (by decide) (by decide) hk1 hFc hP1 hD1
            have hP : va_P D vwCl ([(xa, (b11_1 x0 (nI x1) x2 (nI x3) x4 x5 x6 x7 x8 x9 x10))] ++ va_pl L M) H_75 := hP
            have hD : va_D A ([(xa, (b11_1 x0 (nI x1) x2 (nI x3) x4 x5 x6 x7 x8 x9 x10))] ++ va_pl L M) := hD
            rcases hp_78 with ⟨rfl, c_79⟩ | ⟨rfl, c_80⟩
            · have hz := rfl (a := 0)
              have hvc := hSM.vac (s := k2) (d := k4) (n := (cV 2 M b_10 9).toInt) (by omega) hq10
              have hI_81 : (0 : Int) ≤ (k2 : Int32).toInt := inltI rfl rfl c_50
              have hI_82 : (k2 : Int32).toInt < (6 : Int) := inleI rfl rfl c_51
              have hI_83 : (0 : Int) ≤ (k4 : Int32).toInt := inltI rfl rfl c_59
              have hI_84 : (k4 : Int32).toInt ≤ (999 : Int) := inltI rfl rfl c_60
              have hI_85 : (f_64 : Int32).toInt = (0 : Int) := ieqI rfl rfl c_65
              have hTK : ¬ TKN (SX k1.toNatClampNeg) (SY k1.toNatClampNeg) k2 k4 := hvc.mp c_79
              have hs0 : 0 ≤ (SY k1.toNatClampNeg 9 k2.toNatClampNeg).toInt := by rcases seatOf_or hse.1 with q9 | q9 <;> omega
              refine lv_if_ne (tgt := 87) hx hb dX11_join_78 (by decide) (fun _ => ?_) (fun c_86 => absurd c_86 (by decide))
              refine lv_aload hx hb dX11_join_87 (lv_at hl 0 rfl) ?_
              obtain ⟨v87_0, v87_1, v87_2, v87_3, hM87, h87_3⟩ := hW.open_4 hb_44
              refine pg_get (D := D) (ci := 4) (v := va_rf v87_3) (C := RX4) (T := TX4) (N := 4) hx hb hg inG4 hown hK hP hb_44.1 hM87 rfl 3 (by decide) (hg _ wd_561) (fun _ h9 => h9) rfl dX11_join_89 ?_
              rcases v87_3 with _ | b_88
              · have hz := rfl (a := 0)
                have hP5 : PK k3.toNatClampNeg ≠ 5 := by rcases hpe with ⟨_, _, _, b9, e9, _⟩ | e9; rw [cR_q (q := none) hM87 rfl] at e9; cases e9; exact e9.1
                have hcn : cR 4 M b_39 3 = none := cR_q (q := none) hM87 rfl
                refine lv_ifnullN (tgt := 133) hx hb dX11_join_92 (by decide) ?_
                refine lv_aload hx hb dX11_join_133 (lv_at hl 1 rfl) ?_
                refine pg_get (D := D) (ci := 2) (v := .int (nI v26_9)) (C := RX2) (T := TX2) (N := 20) hx hb hg inG2 hown hK hP hb_25.1 hM26 rfl 9 (by decide) (hg _ wd_465) (fun _ h9 => h9) rfl dX11_join_135 ?_
                refine lv_bipush (v := 24) hx hb dX11_join_138 (by decide) ?_
                refine lv_icmp_lt (tgt := 150) hx hb dX11_join_140 (by decide) (fun c_89 => ?_) (fun c_89 => ?_)
                · have hz := rfl (a := 0)
                  have n_90 : v26_9 < 24 := (iLT (a := v26_9) (b := 24) (by omega) (by omega)).mp c_89
                  have hro9 : 0 ≤ (cfx M b_10) 10 ∧ (cfx M b_10) 10 < 24 := by have h9 := hSM.x10; have h8 : (cfx M b_10) 10 = SX k1.toNatClampNeg 10 := h9; omega
                  have hnn9 : (cax M b_10) 28 ((cfx M b_10) 10).toNat ≠ 1 := fun z9 => by have h9 := hSM.x10; have h8 : (cfx M b_10) 10 = SX k1.toNatClampNeg 10 := h9; have h7 := (hSM.tn ((cfx M b_10) 10).toNat (by omega)).mp z9; omega
                  refine lv_aload_n hx hb dX11_join_150 rfl (lv_at hl 2 rfl) ?_
                  refine lv_aload hx hb dX11_join_151 (lv_at hl 1 rfl) ?_
                  refine lv_aload hx hb dX11_join_153 (lv_at hl 0 rfl) ?_
                  refine lv_iload_n hx hb dX11_join_155 rfl (lv_at hl 4 rfl) ?_
                  refine lv_iload hx hb dX11_join_156 (lv_at hl 6 rfl) ?_
                  refine lv_iload hx hb dX11_join_158 (lv_at hl 7 rfl) ?_
                  have hPc : va_P D vwCl ([] ++ va_pl L M) H_75 := hP.part (cx := []) [] rfl
                  have hDc : va_D A ([] ++ va_pl L M) := hD.part (cx := []) [] (by decide) rfl
                  have hFc : ∀ q, va_A ([] ++ va_pl L M) H_75.size q → A q := pg_free hDc hS hA
                  refine va_calli (va_runV (As := [.ref b_39, .int k2, .int k4, .int 1]) (rest := [.ref xa]) ⟨hx, hb, hml, hown, hg⟩ (e_addT_1 l D cy K L M H_75.size b_10 b_39 k2 k4 Bo M0 (cfx M b_10) (cax M b_10)  hW hb_25 hb_44 hV hro9 c_49 hnn9) (cwV 4 hg (gV wd_562 wd_563 wd_564 wd_57 wd_565) rfl rfl rfl (by decide +kernel) ⟨(Nat.le_trans (Nat.le_of_ble_eq_true rfl) hRf), (Nat.le_trans (Nat.le_of_ble_eq_true rfl) hRl)⟩) ⟨PG.blind, pg_recv hK hP hb_25.1 hM26 rfl, fun U hU hW => ⟨rfl, PG.at hPc hK hDc hN hU hW⟩⟩ rfl rfl hl.1 rfl (lv_room (Nat.le_of_ble_eq_true rfl)) dX11_join_160 ⟨(Nat.le_trans (Nat.le_of_ble_eq_true rfl) hRc), (Nat.le_trans (Nat.le_of_ble_eq_true rfl) hRs)⟩) hS (fun q _ h => hFc q h) hFc (fun r_92 M_93 t H_91 locs ht hvm hw hB hz1 hk1 hS => ?_)
                  have hWb := hW
                  obtain ⟨K9, L9, M_93m⟩ := M_93
                  dsimp only at hw hB
                  obtain ⟨hx9, hW, hF2, gT2, hp_94⟩ := hw
                  obtain ⟨hg_95, hg_96, hg_97, hP1, hD1⟩ := hB
                  rw [ht] at hP1
                  obtain ⟨hP, hD⟩ := va_joinP (X := [(xa, (b11_1 x0 (nI x1) x2 (nI x3) x4 x5 x6 x7 x8 x9 x10))]) (cx := []) (wr := [(xa, (b11_1 x0 (nI x1) x2 (nI x3) x4 x5 x6 x7 x8 x9 x10))]) (rx := []) (pl := va_pl L M) (pl1 := va_pl L9 M_93m) hP hD [] [0] rfl rfl (by decide) (by decide) hk1 hFc hP1 hD1
                  have hP : va_P D vwCl ([(xa, (b11_1 x0 (nI x1) x2 (nI x3) x4 x5 x6 x7 x8 x9 x10))] ++ va_pl L9 M_93m) H_91 := hP
                  have hD : va_D A ([(xa, (b11_1 x0 (nI x1) x2 (nI x3) x4 x5 x6 x7 x8 x9 x10))] ++ va_pl L9 M_93m) := hD
                  have hM_98 : M_93m v26_6 = .inl (cy 14, 6, .inl (f63)) := (hF2.at h26_6 (by decide)).trans hM63
                  have hM_99 : M_93m b_39 = .inr (4, [.int v87_0, .int v87_1, .int v87_2, va_rf none]) := (hF2.at hb_44 (by decide)).trans hM87
                  have hF : fr K0 L0 [2, 5, 58, 59, 61, 62] M0 M_93m := hF.trX hX0 hF2 (by decide)
                  have hT2 : fT 2 K0 L0 [9, 15] M0 M_93m := hT2.trX hX0 gT2 (by decide)
                  have hX0 := hX0.tr hx9
                  obtain ⟨B_100, f_101, hf9, hV⟩ := hg_95
                  have hRGa : RGS M M_93m x5 := RGS.of hWb i5 hF2 (by decide) (by decide)
                  have hNW9 := hg_96
                  have hsl9 := hg_97
                  have hp4 : ∀ q, isk K9 L9 q 4 0 → isk K0 L0 q 4 0 := fun q iq => hp4 q (hNW9.2 q iq)
                  have i_102 := i0.ext hx9
                  have i_103 := i2.ext hx9
                  have i_104 := i4.ext hx9
                  have i_105 := i5.ext hx9
                  have i_106 := i6.ext hx9
                  have i_107 := i8.ext hx9
                  have i_108 := hb_25.ext hx9
                  have i_109 := h26_6.ext hx9
                  have i_110 := hb_44.ext hx9
                  obtain ⟨K, L, hK9, hL9⟩ : ∃ (K : Kp) (L : List Nat), K = K9 ∧ L = L9 := ⟨_, _, rfl, rfl⟩
                  subst hK9
                  subst hL9
                  refine W.widen (k := 1) (n := 16) (Nat.le_of_ble_eq_true rfl) (Nat.le_of_ble_eq_true rfl) ?_
                  obtain rfl := hp_94
                  have hPc := hP.sub (ws' := [(xa, (b11_1 x0 (nI x1) x2 (nI x3) x4 x5 x6 x7 x8 x9 x10))]) [0] rfl
                  have hDc := hD.sub (ws' := [(xa, (b11_1 x0 (nI x1) x2 (nI x3) x4 x5 x6 x7 x8 x9 x10))]) [0] (by decide) rfl
                  have hKc := hK.sub (tys' := []) [] rfl
                  have hFc := va_free (wc := [(xa, (b11_1 x0 (nI x1) x2 (nI x3) x4 x5 x6 x7 x8 x9 x10))]) hD hS hA [0] rfl
                  refine va_calli (va_runV (As := [.int (nI ((cfx M b_10) 10).toNat)]) (rest := []) ⟨hx, hb, hml, hown, hg⟩ (k_accept l D H_91.size xa x0 (nI x1) x2 (nI x3) x4 x5 x6 x7 x8 x9 x10 (nI ((cfx M b_10) 10).toNat)) (cwV 1 hg (gV wd_356 wd_357 wd_358 wd_3 wd_359) rfl rfl rfl (by decide +kernel) ⟨(Nat.le_trans (Nat.le_of_ble_eq_true rfl) hRf), (Nat.le_trans (Nat.le_of_ble_eq_true rfl) hRl)⟩) ⟨Pr.blind, va_recv hK hP (ci := 11) (q0 := 0) rfl rfl, fun U hU hW => ⟨rfl, Pr.at hPc hKc hDc hN hU hW⟩⟩ rfl rfl hl.1 rfl (lv_room (Nat.le_of_ble_eq_true rfl)) dX11_join_163 ⟨(Nat.le_trans (Nat.le_of_ble_eq_true rfl) hRc), (Nat.le_trans (Nat.le_of_ble_eq_true rfl) hRs)⟩) hS (fun q _ h => hFc q h) hFc (fun r_112 M_113 t H_111 locs ht hvm hw hB hz1 hk1 hS => ?_)
                  have hp_114 := hw
                  obtain ⟨hP1, hK1, hD1⟩ := hB
                  rw [ht] at hP1
                  obtain ⟨hP, hD⟩ := va_joinQ (X := [(xa, (b11_1 x0 (nI x1) x2 (nI x3) x4 x5 x6 x7 x8 x9 x10))]) (cx := [(xa, (b11_1 x0 (nI x1) x2 (nI x3) x4 x5 x6 x7 x8 x9 x10))]) (wr := []) (w1 := [(xa, (b11_1 x0 (nI x1) x2 (nI x3) x4 x5 x6 x7 x8 0 (-1)))]) (pl := va_pl L M_93m) hP hD [0] [] rfl rfl (by decide) (by decide) hk1 hFc hP1 hD1
                  have hP : va_P D vwCl ([(xa, (b11_1 x0 (nI x1) x2 (nI x3) x4 x5 x6 x7 x8 0 (-1)))] ++ va_pl L M_93m) H_111 := hP
                  have hD : va_D A ([(xa, (b11_1 x0 (nI x1) x2 (nI x3) x4 x5 x6 x7 x8 0 (-1)))] ++ va_pl L M_93m) := hD
                  have hq := Eq.symm hp_114
                  subst hq
                  have hI_115 : ((v26_9 : Nat) : Int) < (24 : Int) := iltI (nI_toInt (by omega)) rfl c_89
                  have hyes : okJo x1 x3 PK PT SX SY k1 k2 k3 k4 := ⟨⟨by omega, by omega, by omega, by omega⟩, ⟨by omega, by omega⟩, ⟨by omega, by omega⟩, ⟨hs0, hTK⟩, (fun q9 => absurd q9 hP5), by omega⟩
                  have hncr : ¬ okCr x1 x3 PK PT SX SY k1 k2 k3 k4 := fun q9 => by obtain ⟨⟨a1, a2, a3, a4⟩, ⟨a5, a6⟩, ⟨a7, a8⟩, ⟨a9, a10⟩, a11, a12⟩ := q9; first | omega | exact a10 hTK | exact hRC a12 | exact hP5 a11
                  have hk40 : M b_39 = M b_39 := rfl
                  have hcv40 : cV 4 M b_39 0 = k3 := by rw [cV_eq hk40]; exact hpb2
                  have hcr40 : cR 4 M b_39 3 = cR 4 M b_39 3 := cR_eq hk40
                  have hkd40 : cV 4 M b_39 1 = PK k3.toNatClampNeg := by rw [cV_eq hk40]; exact hpc
                  have hc15 : (cV 2 M b_10 15).toInt = cfx M b_10 18 := rfl
                  have hou : owN M (cR 4 M b_39 3) = ownP PK PT k3 := by rw [hcr40, hcn, ownN hP5]; rfl
                  have hob9 : owB M (cV 2 M b_10 15) (cR 4 M b_39 3) = cfx M b_10 18 := by rw [hcr40, hcn]; exact hc15
                  have hbt9 : ∀ o : Nat, o < 8 → ((owB M (cV 2 M b_10 15) (cR 4 M b_39 3) / 2 ^ o) % 2 = 1 ↔ ((cfx M b_10 18 / 2 ^ o) % 2 = 1 ∨ (ownP PK PT k3).toInt = (o : Int))) := fun o ho => by rw [hob9, ownN hP5]; exact ⟨Or.inl, fun z => z.resolve_right (fun w => by rw [show (-1 : Int32).toInt = -1 from rfl] at w; omega)⟩
                  have hbd9 : 0 ≤ owB M (cV 2 M b_10 15) (cR 4 M b_39 3) ∧ owB M (cV 2 M b_10 15) (cR 4 M b_39 3) < 256 := by rw [hob9]; exact hSM.ob
                  obtain ⟨f19, f20, f21, f22, f23, f24, f25, f26, f27, f28, f29⟩ := hf9
                  have h500 : cax M b_10 50 k2.toNatClampNeg = 0 := by rw [h50]; assumption
                  rw [hQ]
                  exact W.iret (v := (nI ((cfx M b_10) 10).toNat)) hx hb hr (fun t ht hW9 => ⟨⟨(nI ((cfx M b_10) 10).toNat), (K, L, M_93m), rfl, ⟨hX0, hW, hF, hT2, (by unfold anJo; rw [if_pos hyes]; exact congrArg nI (congrArg Int.toNat hSM.x10))⟩, ⟨0, (⟨_, by unfold sxJo syJo; rw [if_pos hyes, if_pos hyes]; exact hC00.fin hW00 i000 b1 hkn hb90 hV hX0 (congrArg RFc (hF.at i000 (by decide))) (fun q iq => ⟨hp4 q iq, cR_c (fr.cv hF (by decide) q (hp4 q iq) 3 rfl)⟩) (((hSM.ten (s := k2) (p := k3) (d := k4) (by omega) (by omega) h500 (by omega) (f19.trans hcv40) f20 f21 f22 f23 f24 f25 f26 (f29.trans hkd40) (f27.trans hou) f28 hbd9 hbt9).up1))⟩), (by unfold caJo; rw [if_neg hncr]; exact (hRG0.mv hRGa)), by rw [ht]; exact hP, hD⟩⟩, hS.F ht⟩) hS.2.2 dX11_join_166
                · have hz := rfl (a := 0)
                  have n_116 : ¬ (v26_9 < 24) := fun q => c_89 ((iLT (a := v26_9) (b := 24) (by omega) (by omega)).mpr q)
                  refine lv_aload_n hx hb dX11_join_143 rfl (lv_at hl 2 rfl) ?_
                  refine lv_bipush (v := 9) hx hb dX11_join_144 (by decide) ?_
                  have hPc := hP.sub (ws' := [(xa, (b11_1 x0 (nI x1) x2 (nI x3) x4 x5 x6 x7 x8 x9 x10))]) [0] rfl
                  have hDc := hD.sub (ws' := [(xa, (b11_1 x0 (nI x1) x2 (nI x3) x4 x5 x6 x7 x8 x9 x10))]) [0] (by decide) rfl
                  have hKc := hK.sub (tys' := []) [] rfl
                  have hFc := va_free (wc := [(xa, (b11_1 x0 (nI x1) x2 (nI x3) x4 x5 x6 x7 x8 x9 x10))]) hD hS hA [0] rfl
                  refine va_calli (va_runV (As := [.int 9]) (rest := []) ⟨hx, hb, hml, hown, hg⟩ (k_refuse l D H_75.size xa x0 (nI x1) x2 (nI x3) x4 x5 x6 x7 x8 x9 x10 9) (cwV 1 hg (gV wd_344 wd_345 wd_346 wd_3 wd_347) rfl rfl rfl (by decide +kernel) ⟨(Nat.le_trans (Nat.le_of_ble_eq_true rfl) hRf), (Nat.le_trans (Nat.le_of_ble_eq_true rfl) hRl)⟩) ⟨Pr.blind, va_recv hK hP (ci := 11) (q0 := 0) rfl rfl, fun U hU hW => ⟨rfl, Pr.at hPc hKc hDc hN hU hW⟩⟩ rfl rfl hl.1 rfl (lv_room (Nat.le_of_ble_eq_true rfl)) dX11_join_146 ⟨(Nat.le_trans (Nat.le_of_ble_eq_true rfl) hRc), (Nat.le_trans (Nat.le_of_ble_eq_true rfl) hRs)⟩) hS (fun q _ h => hFc q h) hFc (fun r_118 M_119 t H_117 locs ht hvm hw hB hz1 hk1 hS => ?_)
                  have hp_120 := hw
                  obtain ⟨hP1, hK1, hD1⟩ := hB
                  rw [ht] at hP1
                  obtain ⟨hP, hD⟩ := va_joinQ (X := [(xa, (b11_1 x0 (nI x1) x2 (nI x3) x4 x5 x6 x7 x8 x9 x10))]) (cx := [(xa, (b11_1 x0 (nI x1) x2 (nI x3) x4 x5 x6 x7 x8 x9 x10))]) (wr := []) (w1 := [(xa, (b11_1 x0 (nI x1) x2 (nI x3) x4 x5 x6 x7 x8 9 (-1)))]) (pl := va_pl L M) hP hD [0] [] rfl rfl (by decide) (by decide) hk1 hFc hP1 hD1
                  have hP : va_P D vwCl ([(xa, (b11_1 x0 (nI x1) x2 (nI x3) x4 x5 x6 x7 x8 9 (-1)))] ++ va_pl L M) H_117 := hP
                  have hD : va_D A ([(xa, (b11_1 x0 (nI x1) x2 (nI x3) x4 x5 x6 x7 x8 9 (-1)))] ++ va_pl L M) := hD
                  have hq := Eq.symm hp_120
                  subst hq
                  refine W.widen (k := 1) (n := 16) (Nat.le_of_ble_eq_true rfl) (Nat.le_of_ble_eq_true rfl) ?_
                  have hI_121 : (24 : Int) ≤ ((v26_9 : Nat) : Int) := inltI (nI_toInt (by omega)) rfl c_89
                  have hA_122 : (cV 4 M b_39 0).toInt = (v87_0 : Int32).toInt := by rw [cV_of hM87 rfl]
                  have hA_123 : (cV 4 M b_39 1).toInt = (v87_1 : Int32).toInt := by rw [cV_of hM87 rfl]
                  have hA_124 : (cV 4 M b_39 2).toInt = (v87_2 : Int32).toInt := by rw [cV_of hM87 rfl]
                  have hno : ¬ okJo x1 x3 PK PT SX SY k1 k2 k3 k4 := fun q9 => by obtain ⟨⟨a1, a2, a3, a4⟩, ⟨a5, a6⟩, ⟨a7, a8⟩, ⟨a9, a10⟩, a11, a12⟩ := q9; first | omega | exact a10 hTK | exact a11 hP5 hRC
                  have hncr : ¬ okCr x1 x3 PK PT SX SY k1 k2 k3 k4 := fun q9 => by obtain ⟨⟨a1, a2, a3, a4⟩, ⟨a5, a6⟩, ⟨a7, a8⟩, ⟨a9, a10⟩, a11, a12⟩ := q9; first | omega | exact a10 hTK | exact hRC a12 | exact hP5 a11
                  rw [hQ]
                  exact W.iret (v := (-1)) hx hb hr (fun t ht hW9 => ⟨⟨(-1), (K, L, M), rfl, ⟨hX0, hW, hF, hT2, (by unfold anJo; rw [if_neg hno])⟩, ⟨9, (⟨_, by unfold sxJo syJo; rw [if_neg hno, if_neg hno]; exact hC.mono⟩), (by unfold caJo; rw [if_neg hncr]; exact hRG0), by rw [ht]; exact hP, hD⟩⟩, hS.F ht⟩) hS.2.2 dX11_join_149
              · have hb_125 := h87_3 b_88 rfl
                have hcn : cR 4 M b_39 3 = some b_88 := cR_q (q := (some b_88)) hM87 rfl
                have hpf : PK k3.toNatClampNeg = 5 ∧ 0 ≤ (PT k3.toNatClampNeg).toInt ∧ (PT k3.toNatClampNeg).toInt < (x1 : Int) ∧ RFc (M x0) (PT k3.toNatClampNeg).toNatClampNeg = some b_88 := by rcases hpe with ⟨z1, z2, z3, b9, e9, z4⟩ | e9; rw [hcn] at e9; cases e9; exact ⟨z1, z2, z3, z4⟩; rw [hcn] at e9; exact absurd e9.2 (by intro z9; cases z9)
                obtain ⟨hP5, hpg, hph, hpi⟩ := hpf
                have hcpt : ((PT k3.toNatClampNeg).toNatClampNeg : Int) = (PT k3.toNatClampNeg).toInt := clT hpg
                have hSM2 := hC.at (k := (PT k3.toNatClampNeg).toNatClampNeg) (by omega) hpi
                have hn20 : (cV 2 M b_88 0).toInt = (((PT k3.toNatClampNeg).toNatClampNeg : Nat) : Int) := hSM2.x20
                refine lv_ifnull hx hb dX11_join_92 ?_
                refine lv_aload_n hx hb dX11_join_95 rfl (lv_at hl 2 rfl) ?_
                refine va_get (D := D) (ci := 11) (v := .ref x5) (C := RX11) (T := TX11) (N := 11) hx hb hg inG11 hown hK hP 0 rfl rfl 5 (by decide) (hg _ wd_371) (fun _ h9 => h9) rfl dX11_join_96 ?_
                refine lv_aload_n hx hb dX11_join_99 rfl (lv_at hl 2 rfl) ?_
                refine va_get (D := D) (ci := 11) (v := .ref x0) (C := RX11) (T := TX11) (N := 11) hx hb hg inG11 hown hK hP 0 rfl rfl 0 (by decide) (hg _ wd_337) (fun _ h9 => h9) rfl dX11_join_100 ?_
                refine lv_aload_n hx hb dX11_join_103 rfl (lv_at hl 2 rfl) ?_
                refine va_get (D := D) (ci := 11) (v := .int (nI x1)) (C := RX11) (T := TX11) (N := 11) hx hb hg inG11 hown hK hP 0 rfl rfl 1 (by decide) (hg _ wd_336) (fun _ h9 => h9) rfl dX11_join_104 ?_
                refine lv_aload hx hb dX11_join_107 (lv_at hl 1 rfl) ?_
                refine pg_get (D := D) (ci := 2) (v := .int v26_0) (C := RX2) (T := TX2) (N := 20) hx hb hg inG2 hown hK hP hb_25.1 hM26 rfl 0 (by decide) (hg _ wd_566) (fun _ h9 => h9) rfl dX11_join_109 ?_
                refine lv_aload hx hb dX11_join_112 (lv_at hl 0 rfl) ?_
                refine pg_get (D := D) (ci := 4) (v := va_rf (some b_88)) (C := RX4) (T := TX4) (N := 4) hx hb hg inG4 hown hK hP hb_44.1 hM87 rfl 3 (by decide) (hg _ wd_561) (fun _ h9 => h9) rfl dX11_join_114 ?_
                obtain ⟨v126_0, v126_1, v126_2, v126_3, v126_4, v126_5, v126_6, v126_7, v126_8, v126_9, v126_10, v126_11, v126_12, v126_13, v126_14, v126_15, v126_16, v126_17, v126_18, v126_19, hM126, h126_3, h126_4, h126_5, h126_6, h126_7, h126_8, h126_9, h126_10, h126_11, h126_12, h126_13, h126_16, h126_17, h126_18, h126_19⟩ := hW.open_2 hb_125
                refine pg_get (D := D) (ci := 2) (v := .int v126_0) (C := RX2) (T := TX2) (N := 20) hx hb hg inG2 hown hK hP hb_125.1 hM126 rfl 0 (by decide) (hg _ wd_566) (fun _ h9 => h9) rfl dX11_join_117 ?_
                have hn0 : (cV 2 M b_10 0).toInt = ((k1.toNatClampNeg : Nat) : Int) := hSM.x20
                have hv3 : v26_0 = nI k1.toNatClampNeg := i32_of (by rw [← hn0, cV_of (j := 0) hM26 rfl]) (by omega)
                have hv4 : v126_0 = nI (PT k3.toNatClampNeg).toNatClampNeg := i32_of (by rw [← hn20, cV_of (j := 0) hM126 rfl]) (by omega)
                have hsv9 := Eq.symm hv3
                subst hsv9
                have hsv9 := Eq.symm hv4
                subst hsv9
                have hWj := hW
                obtain ⟨v127_0, v127_1, v127_2, hM127, h127_0, h127_1⟩ := hW.open_5 i5
                have hPc : va_P D vwCl ([] ++ va_pl L M) H_75 := hP.part (cx := []) [] rfl
                have hDc : va_D A ([] ++ va_pl L M) := hD.part (cx := []) [] (by decide) rfl
                have hFc : ∀ q, va_A ([] ++ va_pl L M) H_75.size q → A q := pg_free hDc hS hA
                refine va_calli (va_runV (As := [.ref x0, .int (nI x1), .int (nI k1.toNatClampNeg), .int (nI (PT k3.toNatClampNeg).toNatClampNeg)]) (rest := []) ⟨hx, hb, hml, hown, hg⟩ (e_trace l D cy K L M H_75.size x5 x0 x1 k1.toNatClampNeg ((PT k3.toNatClampNeg).toNatClampNeg) (ownS PK PT SX SY) v127_0 v127_1 v127_2 hW i5 i0 b1 (by omega) (by omega) hC.owq hM127 h127_0 h127_1) (cwV 4 hg (gV wd_567 wd_568 wd_569 wd_309 wd_570) rfl rfl rfl (by decide +kernel) ⟨(Nat.le_trans (Nat.le_of_ble_eq_true rfl) hRf), (Nat.le_trans (Nat.le_of_ble_eq_true rfl) hRl)⟩) ⟨PG.blind, pg_recv hK hP i5.1 hM127 rfl, fun U hU hW => ⟨rfl, PG.at hPc hK hDc hN hU hW⟩⟩ rfl rfl hl.1 rfl (lv_room (Nat.le_of_ble_eq_true rfl)) dX11_join_120 ⟨(Nat.le_trans (Nat.le_of_ble_eq_true rfl) hRc), (Nat.le_trans (Nat.le_of_ble_eq_true rfl) hRs)⟩) hS (fun q _ h => hFc q h) hFc (fun r_129 M_130 t H_128 locs ht hvm hw hB hz1 hk1 hS => ?_)
                have hWb := hW
                obtain ⟨hW, hF2, hVP, hp_131⟩ := hw
                obtain ⟨hP1, hD1⟩ := hB
                rw [ht] at hP1
                obtain ⟨hP, hD⟩ := va_joinP (X := [(xa, (b11_1 x0 (nI x1) x2 (nI x3) x4 x5 x6 x7 x8 x9 x10))]) (cx := []) (wr := [(xa, (b11_1 x0 (nI x1) x2 (nI x3) x4 x5 x6 x7 x8 x9 x10))]) (rx := []) (pl := va_pl L M) (pl1 := va_pl L M_130) hP hD [] [0] rfl rfl (by decide) (by decide) hk1 hFc hP1 hD1
                have hP : va_P D vwCl ([(xa, (b11_1 x0 (nI x1) x2 (nI x3) x4 x5 x6 x7 x8 x9 x10))] ++ va_pl L M_130) H_128 := hP
                have hD : va_D A ([(xa, (b11_1 x0 (nI x1) x2 (nI x3) x4 x5 x6 x7 x8 x9 x10))] ++ va_pl L M_130) := hD
                have hM_132 : M_130 b_10 = (b2_2 (nI k1.toNatClampNeg) v26_1 v26_2 v26_3 (nI v26_4) (nI v26_5) v26_6 v26_7 v26_8 (nI v26_9) v26_10 (nI v26_11) v26_12 v26_13 v26_14 v26_15 v26_16 v26_17 v26_18 v26_19) := (hF2.at hb_25 (by decide)).trans hM26
                have hM_133 : M_130 v26_6 = .inl (cy 14, 6, .inl (f63)) := (hF2.at h26_6 (by decide)).trans hM63
                have hM_134 : M_130 b_39 = .inr (4, [.int v87_0, .int v87_1, .int v87_2, va_rf (some b_88)]) := (hF2.at hb_44 (by decide)).trans hM87
                have hM_135 : M_130 b_88 = (b2_2 (nI (PT k3.toNatClampNeg).toNatClampNeg) v126_1 v126_2 v126_3 (nI v126_4) (nI v126_5) v126_6 v126_7 v126_8 (nI v126_9) v126_10 (nI v126_11) v126_12 v126_13 v126_14 v126_15 v126_16 v126_17 v126_18 v126_19) := (hF2.at hb_125 (by decide)).trans hM126
                have hF : fr K0 L0 [2, 5, 58, 59, 61, 62] M0 M_130 := hF.trX hX0 hF2 (by decide)
                have hT2 : fT 2 K0 L0 [9, 15] M0 M_130 := hT2.frrX hX0 hF2 (by decide)
                have hV : VC Bo K L M0 M_130 b_10 (cfx M b_10) (cax M b_10) := hV.same hWb hb_25 (SAME.fr (fr.cv hF2 (by decide)) (fr.cv hF2 (by decide)) (fr.cv hF2 (by decide)) (fr.cv hF2 (by decide)) (fr.cv hF2 (by decide)) (fr.cv hF2 (by decide)) (fr.cv hF2 (by decide)) hF2 (by decide))
                rcases hp_131 with ⟨rfl, c_136⟩ | ⟨rfl, c_137⟩
                · have hz := rfl (a := 0)
                  have hSj : SAME K L M M_130 := (SAME.fr (fr.cv hF2 (by decide)) (fr.cv hF2 (by decide)) (fr.cv hF2 (by decide)) (fr.cv hF2 (by decide)) (fr.cv hF2 (by decide)) (fr.cv hF2 (by decide)) (fr.cv hF2 (by decide)) hF2 (by decide))
                  have hxj : RFc (M_130 x0) = RFc (M x0) := by rw [hF2.at i0 (by decide)]
                  have hRC := c_136
                  have hRGt := hVP
                  have hFj := hF2
                  have ip4j := hb_44
                  have ibj := hb_25
                  have ib2j := hb_125
                  refine lv_if_eq (tgt := 133) hx hb dX11_join_123 (by decide) (fun c_138 => absurd c_138 (by decide)) (fun _ => ?_)
                  refine lv_aload_n hx hb dX11_join_126 rfl (lv_at hl 2 rfl) ?_
                  refine lv_bipush (v := 8) hx hb dX11_join_127 (by decide) ?_
                  have hPc := hP.sub (ws' := [(xa, (b11_1 x0 (nI x1) x2 (nI x3) x4 x5 x6 x7 x8 x9 x10))]) [0] rfl
                  have hDc := hD.sub (ws' := [(xa, (b11_1 x0 (nI x1) x2 (nI x3) x4 x5 x6 x7 x8 x9 x10))]) [0] (by decide) rfl
                  have hKc := hK.sub (tys' := []) [] rfl
                  have hFc := va_free (wc := [(xa, (b11_1 x0 (nI x1) x2 (nI x3) x4 x5 x6 x7 x8 x9 x10))]) hD hS hA [0] rfl
                  refine va_calli (va_runV (As := [.int 8]) (rest := []) ⟨hx, hb, hml, hown, hg⟩ (k_refuse l D H_128.size xa x0 (nI x1) x2 (nI x3) x4 x5 x6 x7 x8 x9 x10 8) (cwV 1 hg (gV wd_344 wd_345 wd_346 wd_3 wd_347) rfl rfl rfl (by decide +kernel) ⟨(Nat.le_trans (Nat.le_of_ble_eq_true rfl) hRf), (Nat.le_trans (Nat.le_of_ble_eq_true rfl) hRl)⟩) ⟨Pr.blind, va_recv hK hP (ci := 11) (q0 := 0) rfl rfl, fun U hU hW => ⟨rfl, Pr.at hPc hKc hDc hN hU hW⟩⟩ rfl rfl hl.1 rfl (lv_room (Nat.le_of_ble_eq_true rfl)) dX11_join_129 ⟨(Nat.le_trans (Nat.le_of_ble_eq_true rfl) hRc), (Nat.le_trans (Nat.le_of_ble_eq_true rfl) hRs)⟩) hS (fun q _ h => hFc q h) hFc (fun r_140 M_141 t H_139 locs ht hvm hw hB hz1 hk1 hS => ?_)
                  have hp_142 := hw
                  obtain ⟨hP1, hK1, hD1⟩ := hB
                  rw [ht] at hP1
                  obtain ⟨hP, hD⟩ := va_joinQ (X := [(xa, (b11_1 x0 (nI x1) x2 (nI x3) x4 x5 x6 x7 x8 x9 x10))]) (cx := [(xa, (b11_1 x0 (nI x1) x2 (nI x3) x4 x5 x6 x7 x8 x9 x10))]) (wr := []) (w1 := [(xa, (b11_1 x0 (nI x1) x2 (nI x3) x4 x5 x6 x7 x8 8 (-1)))]) (pl := va_pl L M_130) hP hD [0] [] rfl rfl (by decide) (by decide) hk1 hFc hP1 hD1
                  have hP : va_P D vwCl ([(xa, (b11_1 x0 (nI x1) x2 (nI x3) x4 x5 x6 x7 x8 8 (-1)))] ++ va_pl L M_130) H_139 := hP
                  have hD : va_D A ([(xa, (b11_1 x0 (nI x1) x2 (nI x3) x4 x5 x6 x7 x8 8 (-1)))] ++ va_pl L M_130) := hD
                  have hq := Eq.symm hp_142
                  subst hq
                  refine W.widen (k := 1) (n := 16) (Nat.le_of_ble_eq_true rfl) (Nat.le_of_ble_eq_true rfl) ?_
                  have hno : ¬ okJo x1 x3 PK PT SX SY k1 k2 k3 k4 := fun q9 => by obtain ⟨⟨a1, a2, a3, a4⟩, ⟨a5, a6⟩, ⟨a7, a8⟩, ⟨a9, a10⟩, a11, a12⟩ := q9; first | omega | exact a10 hTK | exact a11 hP5 hRC
                  have hcr : okCr x1 x3 PK PT SX SY k1 k2 k3 k4 := ⟨⟨by omega, by omega, by omega, by omega⟩, ⟨by omega, by omega⟩, ⟨by omega, by omega⟩, ⟨hs0, hTK⟩, hP5, hRC⟩
                  rw [hQ]
                  exact W.iret (v := (-1)) hx hb hr (fun t ht hW9 => ⟨⟨(-1), (K, L, M_130), rfl, ⟨hX0, hW, hF, hT2, (by unfold anJo; rw [if_neg hno])⟩, ⟨8, (⟨_, by unfold sxJo syJo; rw [if_neg hno, if_neg hno]; exact CX.mono (CX.same0 hC hWj i0 b1 hSj (by rw [hxj]))⟩), (by unfold caJo; rw [if_pos hcr]; exact hRGt.2 hRC), by rw [ht]; exact hP, hD⟩⟩, hS.F ht⟩) hS.2.2 dX11_join_132
                · have hz := rfl (a := 0)
                  have hSj : SAME K L M M_130 := (SAME.fr (fr.cv hF2 (by decide)) (fr.cv hF2 (by decide)) (fr.cv hF2 (by decide)) (fr.cv hF2 (by decide)) (fr.cv hF2 (by decide)) (fr.cv hF2 (by decide)) (fr.cv hF2 (by decide)) hF2 (by decide))
                  have hxj : RFc (M_130 x0) = RFc (M x0) := by rw [hF2.at i0 (by decide)]
                  have hRC := c_137
                  have hRGt := hVP
                  have hFj := hF2
                  have ip4j := hb_44
                  have ibj := hb_25
                  have ib2j := hb_125
                  refine lv_if_eq (tgt := 133) hx hb dX11_join_123 (by decide) (fun _ => ?_) (fun c_143 => absurd c_143 (by decide))
                  refine lv_aload hx hb dX11_join_133 (lv_at hl 1 rfl) ?_
                  refine pg_get (D := D) (ci := 2) (v := .int (nI v26_9)) (C := RX2) (T := TX2) (N := 20) hx hb hg inG2 hown hK hP hb_25.1 hM_132 rfl 9 (by decide) (hg _ wd_465) (fun _ h9 => h9) rfl dX11_join_135 ?_
                  refine lv_bipush (v := 24) hx hb dX11_join_138 (by decide) ?_
                  refine lv_icmp_lt (tgt := 150) hx hb dX11_join_140 (by decide) (fun c_144 => ?_) (fun c_144 => ?_)
                  · have hz := rfl (a := 0)
                    have n_145 : v26_9 < 24 := (iLT (a := v26_9) (b := 24) (by omega) (by omega)).mp c_144
                    have hro9 : 0 ≤ (cfx M b_10) 10 ∧ (cfx M b_10) 10 < 24 := by have h9 := hSM.x10; have h8 : (cfx M b_10) 10 = SX k1.toNatClampNeg 10 := h9; omega
                    have hnn9 : (cax M b_10) 28 ((cfx M b_10) 10).toNat ≠ 1 := fun z9 => by have h9 := hSM.x10; have h8 : (cfx M b_10) 10 = SX k1.toNatClampNeg 10 := h9; have h7 := (hSM.tn ((cfx M b_10) 10).toNat (by omega)).mp z9; omega
                    refine lv_aload_n hx hb dX11_join_150 rfl (lv_at hl 2 rfl) ?_
                    refine lv_aload hx hb dX11_join_151 (lv_at hl 1 rfl) ?_
                    refine lv_aload hx hb dX11_join_153 (lv_at hl 0 rfl) ?_
                    refine lv_iload_n hx hb dX11_join_155 rfl (lv_at hl 4 rfl) ?_
                    refine lv_iload hx hb dX11_join_156 (lv_at hl 6 rfl) ?_
                    refine lv_iload hx hb dX11_join_158 (lv_at hl 7 rfl) ?_
                    have hPc : va_P D vwCl ([] ++ va_pl L M_130) H_128 := hP.part (cx := []) [] rfl
                    have hDc : va_D A ([] ++ va_pl L M_130) := hD.part (cx := []) [] (by decide) rfl
                    have hFc : ∀ q, va_A ([] ++ va_pl L M_130) H_128.size q → A q := pg_free hDc hS hA
                    refine va_calli (va_runV (As := [.ref b_39, .int k2, .int k4, .int 1]) (rest := [.ref xa]) ⟨hx, hb, hml, hown, hg⟩ (e_addT_1 l D cy K L M_130 H_128.size b_10 b_39 k2 k4 Bo M0 (cfx M b_10) (cax M b_10)  hW hb_25 hb_44 hV hro9 c_49 hnn9) (cwV 4 hg (gV wd_562 wd_563 wd_564 wd_57 wd_565) rfl rfl rfl (by decide +kernel) ⟨(Nat.le_trans (Nat.le_of_ble_eq_true rfl) hRf), (Nat.le_trans (Nat.le_of_ble_eq_true rfl) hRl)⟩) ⟨PG.blind, pg_recv hK hP hb_25.1 hM_132 rfl, fun U hU hW => ⟨rfl, PG.at hPc hK hDc hN hU hW⟩⟩ rfl rfl hl.1 rfl (lv_room (Nat.le_of_ble_eq_true rfl)) dX11_join_160 ⟨(Nat.le_trans (Nat.le_of_ble_eq_true rfl) hRc), (Nat.le_trans (Nat.le_of_ble_eq_true rfl) hRs)⟩) hS (fun q _ h => hFc q h) hFc (fun r_147 M_148 t H_146 locs ht hvm hw hB hz1 hk1 hS => ?_)
                    have hWb := hW
                    obtain ⟨K9, L9, M_148m⟩ := M_148
                    dsimp only at hw hB
                    obtain ⟨hx9, hW, hF2, gT2, hp_149⟩ := hw
                    obtain ⟨hg_150, hg_151, hg_152, hP1, hD1⟩ := hB
                    rw [ht] at hP1
                    obtain ⟨hP, hD⟩ := va_joinP (X := [(xa, (b11_1 x0 (nI x1) x2 (nI x3) x4 x5 x6 x7 x8 x9 x10))]) (cx := []) (wr := [(xa, (b11_1 x0 (nI x1) x2 (nI x3) x4 x5 x6 x7 x8 x9 x10))]) (rx := []) (pl := va_pl L M_130) (pl1 := va_pl L9 M_148m) hP hD [] [0] rfl rfl (by decide) (by decide) hk1 hFc hP1 hD1
                    have hP : va_P D vwCl ([(xa, (b11_1 x0 (nI x1) x2 (nI x3) x4 x5 x6 x7 x8 x9 x10))] ++ va_pl L9 M_148m) H_146 := hP
                    have hD : va_D A ([(xa, (b11_1 x0 (nI x1) x2 (nI x3) x4 x5 x6 x7 x8 x9 x10))] ++ va_pl L9 M_148m) := hD
                    have hM_153 : M_148m v26_6 = .inl (cy 14, 6, .inl (f63)) := (hF2.at h26_6 (by decide)).trans hM_133
                    have hM_154 : M_148m b_39 = .inr (4, [.int v87_0, .int v87_1, .int v87_2, va_rf (some b_88)]) := (hF2.at hb_44 (by decide)).trans hM_134
                    have hF : fr K0 L0 [2, 5, 58, 59, 61, 62] M0 M_148m := hF.trX hX0 hF2 (by decide)
                    have hT2 : fT 2 K0 L0 [9, 15] M0 M_148m := hT2.trX hX0 gT2 (by decide)
                    have hX0 := hX0.tr hx9
                    obtain ⟨B_155, f_156, hf9, hV⟩ := hg_150
                    have hRGa : RGS M_130 M_148m x5 := RGS.of hWb i5 hF2 (by decide) (by decide)
                    have hNW9 := hg_151
                    have hsl9 := hg_152
                    have hp4 : ∀ q, isk K9 L9 q 4 0 → isk K0 L0 q 4 0 := fun q iq => hp4 q (hNW9.2 q iq)
                    have i_157 := i0.ext hx9
                    have i_158 := i2.ext hx9
                    have i_159 := i4.ext hx9
                    have i_160 := i5.ext hx9
                    have i_161 := i6.ext hx9
                    have i_162 := i8.ext hx9
                    have i_163 := hb_25.ext hx9
                    have i_164 := h26_6.ext hx9
                    have i_165 := hb_44.ext hx9
                    have i_166 := hb_125.ext hx9
                    obtain ⟨K, L, hK9, hL9⟩ : ∃ (K : Kp) (L : List Nat), K = K9 ∧ L = L9 := ⟨_, _, rfl, rfl⟩
                    subst hK9
                    subst hL9
                    refine W.widen (k := 1) (n := 16) (Nat.le_of_ble_eq_true rfl) (Nat.le_of_ble_eq_true rfl) ?_
                    obtain rfl := hp_149
                    have hPc := hP.sub (ws' := [(xa, (b11_1 x0 (nI x1) x2 (nI x3) x4 x5 x6 x7 x8 x9 x10))]) [0] rfl
                    have hDc := hD.sub (ws' := [(xa, (b11_1 x0 (nI x1) x2 (nI x3) x4 x5 x6 x7 x8 x9 x10))]) [0] (by decide) rfl
                    have hKc := hK.sub (tys' := []) [] rfl
                    have hFc := va_free (wc := [(xa, (b11_1 x0 (nI x1) x2 (nI x3) x4 x5 x6 x7 x8 x9 x10))]) hD hS hA [0] rfl
                    refine va_calli (va_runV (As := [.int (nI ((cfx M b_10) 10).toNat)]) (rest := []) ⟨hx, hb, hml, hown, hg⟩ (k_accept l D H_146.size xa x0 (nI x1) x2 (nI x3) x4 x5 x6 x7 x8 x9 x10 (nI ((cfx M b_10) 10).toNat)) (cwV 1 hg (gV wd_356 wd_357 wd_358 wd_3 wd_359) rfl rfl rfl (by decide +kernel) ⟨(Nat.le_trans (Nat.le_of_ble_eq_true rfl) hRf), (Nat.le_trans (Nat.le_of_ble_eq_true rfl) hRl)⟩) ⟨Pr.blind, va_recv hK hP (ci := 11) (q0 := 0) rfl rfl, fun U hU hW => ⟨rfl, Pr.at hPc hKc hDc hN hU hW⟩⟩ rfl rfl hl.1 rfl (lv_room (Nat.le_of_ble_eq_true rfl)) dX11_join_163 ⟨(Nat.le_trans (Nat.le_of_ble_eq_true rfl) hRc), (Nat.le_trans (Nat.le_of_ble_eq_true rfl) hRs)⟩) hS (fun q _ h => hFc q h) hFc (fun r_168 M_169 t H_167 locs ht hvm hw hB hz1 hk1 hS => ?_)
                    have hp_170 := hw
                    obtain ⟨hP1, hK1, hD1⟩ := hB
                    rw [ht] at hP1
                    obtain ⟨hP, hD⟩ := va_joinQ (X := [(xa, (b11_1 x0 (nI x1) x2 (nI x3) x4 x5 x6 x7 x8 x9 x10))]) (cx := [(xa, (b11_1 x0 (nI x1) x2 (nI x3) x4 x5 x6 x7 x8 x9 x10))]) (wr := []) (w1 := [(xa, (b11_1 x0 (nI x1) x2 (nI x3) x4 x5 x6 x7 x8 0 (-1)))]) (pl := va_pl L M_148m) hP hD [0] [] rfl rfl (by decide) (by decide) hk1 hFc hP1 hD1
                    have hP : va_P D vwCl ([(xa, (b11_1 x0 (nI x1) x2 (nI x3) x4 x5 x6 x7 x8 0 (-1)))] ++ va_pl L M_148m) H_167 := hP
                    have hD : va_D A ([(xa, (b11_1 x0 (nI x1) x2 (nI x3) x4 x5 x6 x7 x8 0 (-1)))] ++ va_pl L M_148m) := hD
                    have hq := Eq.symm hp_170
                    subst hq
                    have hI_171 : ((v26_9 : Nat) : Int) < (24 : Int) := iltI (nI_toInt (by omega)) rfl c_144
                    have hyes : okJo x1 x3 PK PT SX SY k1 k2 k3 k4 := ⟨⟨by omega, by omega, by omega, by omega⟩, ⟨by omega, by omega⟩, ⟨by omega, by omega⟩, ⟨hs0, hTK⟩, (fun _ => hRC), by omega⟩
                    have hncr : ¬ okCr x1 x3 PK PT SX SY k1 k2 k3 k4 := fun q9 => by obtain ⟨⟨a1, a2, a3, a4⟩, ⟨a5, a6⟩, ⟨a7, a8⟩, ⟨a9, a10⟩, a11, a12⟩ := q9; first | omega | exact a10 hTK | exact hRC a12 | exact hP5 a11
                    have hk40 : M_130 b_39 = M b_39 := hFj.at ip4j (by decide)
                    have hcv40 : cV 4 M_130 b_39 0 = k3 := by rw [cV_eq hk40]; exact hpb2
                    have hcr40 : cR 4 M_130 b_39 3 = cR 4 M b_39 3 := cR_eq hk40
                    have hkd40 : cV 4 M_130 b_39 1 = PK k3.toNatClampNeg := by rw [cV_eq hk40]; exact hpc
                    have hc15 : (cV 2 M_130 b_10 15).toInt = cfx M b_10 18 := by show _ = (cV 2 M b_10 15).toInt; rw [cV_eq (hFj.at ibj (by decide))]
                    have hou : owN M_130 (cR 4 M_130 b_39 3) = ownP PK PT k3 := by rw [hcr40, hcn, own5 hP5]; show cV 2 M_130 b_88 0 = _; rw [cV_eq (hFj.at ib2j (by decide))]; apply Int32.toInt.inj; rw [hn20]; exact hcpt
                    have hb18 := BT_or (a := cV 2 M_130 b_10 15) (k := (PT k3.toNatClampNeg).toNatClampNeg) (by rw [hc15]; exact hSM.ob.1) (by rw [hc15]; exact hSM.ob.2) (by omega)
                    have hob9 : owB M_130 (cV 2 M_130 b_10 15) (cR 4 M_130 b_39 3) = (cV 2 M_130 b_10 15 ||| ((1 : Int32) <<< (nI (PT k3.toNatClampNeg).toNatClampNeg &&& 31))).toInt := by rw [hcr40, hcn]; show (_ ||| ((1 : Int32) <<< (cV 2 M_130 b_88 0 &&& 31))).toInt = _; rw [show cV 2 M_130 b_88 0 = nI (PT k3.toNatClampNeg).toNatClampNeg from i32_of (by rw [cV_eq (hFj.at ib2j (by decide))]; exact hn20) (by omega)]
                    have hbt9 : ∀ o : Nat, o < 8 → ((owB M_130 (cV 2 M_130 b_10 15) (cR 4 M_130 b_39 3) / 2 ^ o) % 2 = 1 ↔ ((cfx M b_10 18 / 2 ^ o) % 2 = 1 ∨ (ownP PK PT k3).toInt = (o : Int))) := fun o ho => by rw [hob9, hb18.2 o ho, hc15, own5 hP5]; exact ⟨fun z => z.imp id (fun w => by omega), fun z => z.imp id (fun w => by omega)⟩
                    have hbd9 : 0 ≤ owB M_130 (cV 2 M_130 b_10 15) (cR 4 M_130 b_39 3) ∧ owB M_130 (cV 2 M_130 b_10 15) (cR 4 M_130 b_39 3) < 256 := by rw [hob9]; exact hb18.1
                    obtain ⟨f19, f20, f21, f22, f23, f24, f25, f26, f27, f28, f29⟩ := hf9
                    have h500 : cax M b_10 50 k2.toNatClampNeg = 0 := by rw [h50]; assumption
                    rw [hQ]
                    exact W.iret (v := (nI ((cfx M b_10) 10).toNat)) hx hb hr (fun t ht hW9 => ⟨⟨(nI ((cfx M b_10) 10).toNat), (K, L, M_148m), rfl, ⟨hX0, hW, hF, hT2, (by unfold anJo; rw [if_pos hyes]; exact congrArg nI (congrArg Int.toNat hSM.x10))⟩, ⟨0, (⟨_, by unfold sxJo syJo; rw [if_pos hyes, if_pos hyes]; exact hC00.fin hW00 i000 b1 hkn hb90 hV hX0 (congrArg RFc (hF.at i000 (by decide))) (fun q iq => ⟨hp4 q iq, cR_c (fr.cv hF (by decide) q (hp4 q iq) 3 rfl)⟩) (((hSM.ten (s := k2) (p := k3) (d := k4) (by omega) (by omega) h500 (by omega) (f19.trans hcv40) f20 f21 f22 f23 f24 f25 f26 (f29.trans hkd40) (f27.trans hou) f28 hbd9 hbt9).up1))⟩), (by unfold caJo; rw [if_neg hncr]; exact ((hRG0.mv (hRGt.1 hRC)).mv hRGa)), by rw [ht]; exact hP, hD⟩⟩, hS.F ht⟩) hS.2.2 dX11_join_166
                  · have hz := rfl (a := 0)
                    have n_172 : ¬ (v26_9 < 24) := fun q => c_144 ((iLT (a := v26_9) (b := 24) (by omega) (by omega)).mpr q)
                    refine lv_aload_n hx hb dX11_join_143 rfl (lv_at hl 2 rfl) ?_
                    refine lv_bipush (v := 9) hx hb dX11_join_144 (by decide) ?_
                    have hPc := hP.sub (ws' := [(xa, (b11_1 x0 (nI x1) x2 (nI x3) x4 x5 x6 x7 x8 x9 x10))]) [0] rfl
                    have hDc := hD.sub (ws' := [(xa, (b11_1 x0 (nI x1) x2 (nI x3) x4 x5 x6 x7 x8 x9 x10))]) [0] (by decide) rfl
                    have hKc := hK.sub (tys' := []) [] rfl
                    have hFc := va_free (wc := [(xa, (b11_1 x0 (nI x1) x2 (nI x3) x4 x5 x6 x7 x8 x9 x10))]) hD hS hA [0] rfl
                    refine va_calli (va_runV (As := [.int 9]) (rest := []) ⟨hx, hb, hml, hown, hg⟩ (k_refuse l D H_128.size xa x0 (nI x1) x2 (nI x3) x4 x5 x6 x7 x8 x9 x10 9) (cwV 1 hg (gV wd_344 wd_345 wd_346 wd_3 wd_347) rfl rfl rfl (by decide +kernel) ⟨(Nat.le_trans (Nat.le_of_ble_eq_true rfl) hRf), (Nat.le_trans (Nat.le_of_ble_eq_true rfl) hRl)⟩) ⟨Pr.blind, va_recv hK hP (ci := 11) (q0 := 0) rfl rfl, fun U hU hW => ⟨rfl, Pr.at hPc hKc hDc hN hU hW⟩⟩ rfl rfl hl.1 rfl (lv_room (Nat.le_of_ble_eq_true rfl)) dX11_join_146 ⟨(Nat.le_trans (Nat.le_of_ble_eq_true rfl) hRc), (Nat.le_trans (Nat.le_of_ble_eq_true rfl) hRs)⟩) hS (fun q _ h => hFc q h) hFc (fun r_174 M_175 t H_173 locs ht hvm hw hB hz1 hk1 hS => ?_)
                    have hp_176 := hw
                    obtain ⟨hP1, hK1, hD1⟩ := hB
                    rw [ht] at hP1
                    obtain ⟨hP, hD⟩ := va_joinQ (X := [(xa, (b11_1 x0 (nI x1) x2 (nI x3) x4 x5 x6 x7 x8 x9 x10))]) (cx := [(xa, (b11_1 x0 (nI x1) x2 (nI x3) x4 x5 x6 x7 x8 x9 x10))]) (wr := []) (w1 := [(xa, (b11_1 x0 (nI x1) x2 (nI x3) x4 x5 x6 x7 x8 9 (-1)))]) (pl := va_pl L M_130) hP hD [0] [] rfl rfl (by decide) (by decide) hk1 hFc hP1 hD1
                    have hP : va_P D vwCl ([(xa, (b11_1 x0 (nI x1) x2 (nI x3) x4 x5 x6 x7 x8 9 (-1)))] ++ va_pl L M_130) H_173 := hP
                    have hD : va_D A ([(xa, (b11_1 x0 (nI x1) x2 (nI x3) x4 x5 x6 x7 x8 9 (-1)))] ++ va_pl L M_130) := hD
                    have hq := Eq.symm hp_176
                    subst hq
                    refine W.widen (k := 1) (n := 16) (Nat.le_of_ble_eq_true rfl) (Nat.le_of_ble_eq_true rfl) ?_
                    have hI_177 : (24 : Int) ≤ ((v26_9 : Nat) : Int) := inltI (nI_toInt (by omega)) rfl c_144
                    have hno : ¬ okJo x1 x3 PK PT SX SY k1 k2 k3 k4 := fun q9 => by obtain ⟨⟨a1, a2, a3, a4⟩, ⟨a5, a6⟩, ⟨a7, a8⟩, ⟨a9, a10⟩, a11, a12⟩ := q9; first | omega | exact a10 hTK | exact a11 hP5 hRC
                    have hncr : ¬ okCr x1 x3 PK PT SX SY k1 k2 k3 k4 := fun q9 => by obtain ⟨⟨a1, a2, a3, a4⟩, ⟨a5, a6⟩, ⟨a7, a8⟩, ⟨a9, a10⟩, a11, a12⟩ := q9; first | omega | exact a10 hTK | exact hRC a12 | exact hP5 a11
                    rw [hQ]
                    exact W.iret (v := (-1)) hx hb hr (fun t ht hW9 => ⟨⟨(-1), (K, L, M_130), rfl, ⟨hX0, hW, hF, hT2, (by unfold anJo; rw [if_neg hno])⟩, ⟨9, (⟨_, by unfold sxJo syJo; rw [if_neg hno, if_neg hno]; exact CX.mono (CX.same0 hC hWj i0 b1 hSj (by rw [hxj]))⟩), (by unfold caJo; rw [if_neg hncr]; exact (hRG0.mv (hRGt.1 hRC))), by rw [ht]; exact hP, hD⟩⟩, hS.F ht⟩) hS.2.2 dX11_join_149
            · have hz := rfl (a := 0)
              have hvc := hSM.vac (s := k2) (d := k4) (n := (cV 2 M b_10 9).toInt) (by omega) hq10
              have hTK : TKN (SX k1.toNatClampNeg) (SY k1.toNatClampNeg) k2 k4 := Classical.byContradiction (fun z9 => c_80 (hvc.mpr z9))
              refine lv_if_ne (tgt := 87) hx hb dX11_join_78 (by decide) (fun c_178 => absurd c_178 (by decide)) (fun _ => ?_)
              refine lv_aload_n hx hb dX11_join_81 rfl (lv_at hl 2 rfl) ?_
              refine lv_iconst (v := 4) hx hb dX11_join_82 (by decide) ?_
              have hPc := hP.sub (ws' := [(xa, (b11_1 x0 (nI x1) x2 (nI x3) x4 x5 x6 x7 x8 x9 x10))]) [0] rfl
              have hDc := hD.sub (ws' := [(xa, (b11_1 x0 (nI x1) x2 (nI x3) x4 x5 x6 x7 x8 x9 x10))]) [0] (by decide) rfl
              have hKc := hK.sub (tys' := []) [] rfl
              have hFc := va_free (wc := [(xa, (b11_1 x0 (nI x1) x2 (nI x3) x4 x5 x6 x7 x8 x9 x10))]) hD hS hA [0] rfl
              refine va_calli (va_runV (As := [.int 4]) (rest := []) ⟨hx, hb, hml, hown, hg⟩ (k_refuse l D H_75.size xa x0 (nI x1) x2 (nI x3) x4 x5 x6 x7 x8 x9 x10 4) (cwV 1 hg (gV wd_344 wd_345 wd_346 wd_3 wd_347) rfl rfl rfl (by decide +kernel) ⟨(Nat.le_trans (Nat.le_of_ble_eq_true rfl) hRf), (Nat.le_trans (Nat.le_of_ble_eq_true rfl) hRl)⟩) ⟨Pr.blind, va_recv hK hP (ci := 11) (q0 := 0) rfl rfl, fun U hU hW => ⟨rfl, Pr.at hPc hKc hDc hN hU hW⟩⟩ rfl rfl hl.1 rfl (lv_room (Nat.le_of_ble_eq_true rfl)) dX11_join_83 ⟨(Nat.le_trans (Nat.le_of_ble_eq_true rfl) hRc), (Nat.le_trans (Nat.le_of_ble_eq_true rfl) hRs)⟩) hS (fun q _ h => hFc q h) hFc (fun r_180 M_181 t H_179 locs ht hvm hw hB hz1 hk1 hS => ?_)
              have hp_182 := hw
              obtain ⟨hP1, hK1, hD1⟩ := hB
              rw [ht] at hP1
              obtain ⟨hP, hD⟩ := va_joinQ (X := [(xa, (b11_1 x0 (nI x1) x2 (nI x3) x4 x5 x6 x7 x8 x9 x10))]) (cx := [(xa, (b11_1 x0 (nI x1) x2 (nI x3) x4 x5 x6 x7 x8 x9 x10))]) (wr := []) (w1 := [(xa, (b11_1 x0 (nI x1) x2 (nI x3) x4 x5 x6 x7 x8 4 (-1)))]) (pl := va_pl L M) hP hD [0] [] rfl rfl (by decide) (by decide) hk1 hFc hP1 hD1
              have hP : va_P D vwCl ([(xa, (b11_1 x0 (nI x1) x2 (nI x3) x4 x5 x6 x7 x8 4 (-1)))] ++ va_pl L M) H_179 := hP
              have hD : va_D A ([(xa, (b11_1 x0 (nI x1) x2 (nI x3) x4 x5 x6 x7 x8 4 (-1)))] ++ va_pl L M) := hD
              have hq := Eq.symm hp_182
              subst hq
              refine W.widen (k := 1) (n := 16) (Nat.le_of_ble_eq_true rfl) (Nat.le_of_ble_eq_true rfl) ?_
              have hI_183 : (0 : Int) ≤ (k2 : Int32).toInt := inltI rfl rfl c_50
              have hI_184 : (k2 : Int32).toInt < (6 : Int) := inleI rfl rfl c_51
              have hI_185 : (0 : Int) ≤ (k4 : Int32).toInt := inltI rfl rfl c_59
              have hI_186 : (k4 : Int32).toInt ≤ (999 : Int) := inltI rfl rfl c_60
              have hI_187 : (f_64 : Int32).toInt = (0 : Int) := ieqI rfl rfl c_65
              have hno : ¬ okJo x1 x3 PK PT SX SY k1 k2 k3 k4 := fun q9 => by obtain ⟨⟨a1, a2, a3, a4⟩, ⟨a5, a6⟩, ⟨a7, a8⟩, ⟨a9, a10⟩, a11, a12⟩ := q9; first | omega | exact a10 hTK | exact a11 hP5 hRC
              have hncr : ¬ okCr x1 x3 PK PT SX SY k1 k2 k3 k4 := fun q9 => by obtain ⟨⟨a1, a2, a3, a4⟩, ⟨a5, a6⟩, ⟨a7, a8⟩, ⟨a9, a10⟩, a11, a12⟩ := q9; first | omega | exact a10 hTK | exact hRC a12 | exact hP5 a11
              rw [hQ]
              exact W.iret (v := (-1)) hx hb hr (fun t ht hW9 => ⟨⟨(-1), (K, L, M), rfl, ⟨hX0, hW, hF, hT2, (by unfold anJo; rw [if_neg hno])⟩, ⟨4, (⟨_, by unfold sxJo syJo; rw [if_neg hno, if_neg hno]; exact hC.mono⟩), (by unfold caJo; rw [if_neg hncr]; exact hRG0), by rw [ht]; exact hP, hD⟩⟩, hS.F ht⟩) hS.2.2 dX11_join_86
        · have hz := rfl (a := 0)
          refine lv_if_ne (tgt := 60) hx hb dX11_join_51 (by decide) (fun c_188 => absurd c_188 (by decide)) (fun _ => ?_)
          refine lv_aload_n hx hb dX11_join_54 rfl (lv_at hl 2 rfl) ?_
          refine lv_iconst (v := 3) hx hb dX11_join_55 (by decide) ?_
          have hPc := hP.sub (ws' := [(xa, (b11_1 x0 (nI x1) x2 (nI x3) x4 x5 x6 x7 x8 x9 x10))]) [0] rfl
          have hDc := hD.sub (ws' := [(xa, (b11_1 x0 (nI x1) x2 (nI x3) x4 x5 x6 x7 x8 x9 x10))]) [0] (by decide) rfl
          have hKc := hK.sub (tys' := []) [] rfl
          have hFc := va_free (wc := [(xa, (b11_1 x0 (nI x1) x2 (nI x3) x4 x5 x6 x7 x8 x9 x10))]) hD hS hA [0] rfl
          refine va_calli (va_runV (As := [.int 3]) (rest := []) ⟨hx, hb, hml, hown, hg⟩ (k_refuse l D H_54.size xa x0 (nI x1) x2 (nI x3) x4 x5 x6 x7 x8 x9 x10 3) (cwV 1 hg (gV wd_344 wd_345 wd_346 wd_3 wd_347) rfl rfl rfl (by decide +kernel) ⟨(Nat.le_trans (Nat.le_of_ble_eq_true rfl) hRf), (Nat.le_trans (Nat.le_of_ble_eq_true rfl) hRl)⟩) ⟨Pr.blind, va_recv hK hP (ci := 11) (q0 := 0) rfl rfl, fun U hU hW => ⟨rfl, Pr.at hPc hKc hDc hN hU hW⟩⟩ rfl rfl hl.1 rfl (lv_room (Nat.le_of_ble_eq_true rfl)) dX11_join_56 ⟨(Nat.le_trans (Nat.le_of_ble_eq_true rfl) hRc), (Nat.le_trans (Nat.le_of_ble_eq_true rfl) hRs)⟩) hS (fun q _ h => hFc q h) hFc (fun r_190 M_191 t H_189 locs ht hvm hw hB hz1 hk1 hS => ?_)
          have hp_192 := hw
          obtain ⟨hP1, hK1, hD1⟩ := hB
          rw [ht] at hP1
          obtain ⟨hP, hD⟩ := va_joinQ (X := [(xa, (b11_1 x0 (nI x1) x2 (nI x3) x4 x5 x6 x7 x8 x9 x10))]) (cx := [(xa, (b11_1 x0 (nI x1) x2 (nI x3) x4 x5 x6 x7 x8 x9 x10))]) (wr := []) (w1 := [(xa, (b11_1 x0 (nI x1) x2 (nI x3) x4 x5 x6 x7 x8 3 (-1)))]) (pl := va_pl L M) hP hD [0] [] rfl rfl (by decide) (by decide) hk1 hFc hP1 hD1
          have hP : va_P D vwCl ([(xa, (b11_1 x0 (nI x1) x2 (nI x3) x4 x5 x6 x7 x8 3 (-1)))] ++ va_pl L M) H_189 := hP
          have hD : va_D A ([(xa, (b11_1 x0 (nI x1) x2 (nI x3) x4 x5 x6 x7 x8 3 (-1)))] ++ va_pl L M) := hD
          have hq := Eq.symm hp_192
          subst hq
          refine W.widen (k := 1) (n := 16) (Nat.le_of_ble_eq_true rfl) (Nat.le_of_ble_eq_true rfl) ?_
          have hI_193 : (0 : Int) ≤ (k2 : Int32).toInt := inltI rfl rfl c_50
          have hI_194 : (k2 : Int32).toInt < (6 : Int) := inleI rfl rfl c_51
          have hno : ¬ okJo x1 x3 PK PT SX SY k1 k2 k3 k4 := fun q9 => by obtain ⟨⟨a1, a2, a3, a4⟩, ⟨a5, a6⟩, ⟨a7, a8⟩, ⟨a9, a10⟩, a11, a12⟩ := q9; first | omega | exact a10 hTK | exact a11 hP5 hRC
          have hncr : ¬ okCr x1 x3 PK PT SX SY k1 k2 k3 k4 := fun q9 => by obtain ⟨⟨a1, a2, a3, a4⟩, ⟨a5, a6⟩, ⟨a7, a8⟩, ⟨a9, a10⟩, a11, a12⟩ := q9; first | omega | exact a10 hTK | exact hRC a12 | exact hP5 a11
          rw [hQ]
          exact W.iret (v := (-1)) hx hb hr (fun t ht hW9 => ⟨⟨(-1), (K, L, M), rfl, ⟨hX0, hW, hF, hT2, (by unfold anJo; rw [if_neg hno])⟩, ⟨3, (⟨_, by unfold sxJo syJo; rw [if_neg hno, if_neg hno]; exact hC.mono⟩), (by unfold caJo; rw [if_neg hncr]; exact hRG0), by rw [ht]; exact hP, hD⟩⟩, hS.F ht⟩) hS.2.2 dX11_join_59
      · have hz := rfl (a := 0)
        refine lv_if_ne (tgt := 44) hx hb dX11_join_35 (by decide) (fun c_195 => absurd c_195 (by decide)) (fun _ => ?_)
        refine lv_aload_n hx hb dX11_join_38 rfl (lv_at hl 2 rfl) ?_
        refine lv_iconst (v := 1) hx hb dX11_join_39 (by decide) ?_
        have hPc := hP.sub (ws' := [(xa, (b11_1 x0 (nI x1) x2 (nI x3) x4 x5 x6 x7 x8 x9 x10))]) [0] rfl
        have hDc := hD.sub (ws' := [(xa, (b11_1 x0 (nI x1) x2 (nI x3) x4 x5 x6 x7 x8 x9 x10))]) [0] (by decide) rfl
        have hKc := hK.sub (tys' := []) [] rfl
        have hFc := va_free (wc := [(xa, (b11_1 x0 (nI x1) x2 (nI x3) x4 x5 x6 x7 x8 x9 x10))]) hD hS hA [0] rfl
        refine va_calli (va_runV (As := [.int 1]) (rest := []) ⟨hx, hb, hml, hown, hg⟩ (k_refuse l D H_45.size xa x0 (nI x1) x2 (nI x3) x4 x5 x6 x7 x8 x9 x10 1) (cwV 1 hg (gV wd_344 wd_345 wd_346 wd_3 wd_347) rfl rfl rfl (by decide +kernel) ⟨(Nat.le_trans (Nat.le_of_ble_eq_true rfl) hRf), (Nat.le_trans (Nat.le_of_ble_eq_true rfl) hRl)⟩) ⟨Pr.blind, va_recv hK hP (ci := 11) (q0 := 0) rfl rfl, fun U hU hW => ⟨rfl, Pr.at hPc hKc hDc hN hU hW⟩⟩ rfl rfl hl.1 rfl (lv_room (Nat.le_of_ble_eq_true rfl)) dX11_join_40 ⟨(Nat.le_trans (Nat.le_of_ble_eq_true rfl) hRc), (Nat.le_trans (Nat.le_of_ble_eq_true rfl) hRs)⟩) hS (fun q _ h => hFc q h) hFc (fun r_197 M_198 t H_196 locs ht hvm hw hB hz1 hk1 hS => ?_)
        have hp_199 := hw
        obtain ⟨hP1, hK1, hD1⟩ := hB
        rw [ht] at hP1
        obtain ⟨hP, hD⟩ := va_joinQ (X := [(xa, (b11_1 x0 (nI x1) x2 (nI x3) x4 x5 x6 x7 x8 x9 x10))]) (cx := [(xa, (b11_1 x0 (nI x1) x2 (nI x3) x4 x5 x6 x7 x8 x9 x10))]) (wr := []) (w1 := [(xa, (b11_1 x0 (nI x1) x2 (nI x3) x4 x5 x6 x7 x8 1 (-1)))]) (pl := va_pl L M) hP hD [0] [] rfl rfl (by decide) (by decide) hk1 hFc hP1 hD1
        have hP : va_P D vwCl ([(xa, (b11_1 x0 (nI x1) x2 (nI x3) x4 x5 x6 x7 x8 1 (-1)))] ++ va_pl L M) H_196 := hP
        have hD : va_D A ([(xa, (b11_1 x0 (nI x1) x2 (nI x3) x4 x5 x6 x7 x8 1 (-1)))] ++ va_pl L M) := hD
        have hq := Eq.symm hp_199
        subst hq
        refine W.widen (k := 1) (n := 16) (Nat.le_of_ble_eq_true rfl) (Nat.le_of_ble_eq_true rfl) ?_
        have hno : ¬ okJo x1 x3 PK PT SX SY k1 k2 k3 k4 := fun q9 => by obtain ⟨⟨a1, a2, a3, a4⟩, ⟨a5, a6⟩, ⟨a7, a8⟩, ⟨a9, a10⟩, a11, a12⟩ := q9; first | omega | exact a10 hTK | exact a11 hP5 hRC
        have hncr : ¬ okCr x1 x3 PK PT SX SY k1 k2 k3 k4 := fun q9 => by obtain ⟨⟨a1, a2, a3, a4⟩, ⟨a5, a6⟩, ⟨a7, a8⟩, ⟨a9, a10⟩, a11, a12⟩ := q9; first | omega | exact a10 hTK | exact hRC a12 | exact hP5 a11
        rw [hQ]
        exact W.iret (v := (-1)) hx hb hr (fun t ht hW9 => ⟨⟨(-1), (K, L, M), rfl, ⟨hX0, hW, hF, hT2, (by unfold anJo; rw [if_neg hno])⟩, ⟨1, (⟨_, by unfold sxJo syJo; rw [if_neg hno, if_neg hno]; exact hC.mono⟩), (by unfold caJo; rw [if_neg hncr]; exact hRG0), by rw [ht]; exact hP, hD⟩⟩, hS.F ht⟩) hS.2.2 dX11_join_43
