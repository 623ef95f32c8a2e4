/-- partner() -/
def okPa (n np : Nat) (k t : Int32) : Prop := 0 ≤ k.toInt ∧ k.toInt ≤ 5 ∧ ((k.toInt = 1 ∨ k.toInt = 2 ∨ k.toInt = 4) → 0 ≤ t.toInt ∧ t.toInt ≤ 1000000000) ∧ (k.toInt = 5 → 0 ≤ t.toInt ∧ t.toInt < (n : Int)) ∧ np < 40
noncomputable def anPa (n np : Nat) (k t : Int32) : Int32 := (@ite _ (okPa n np k t) (Classical.propDecidable _) (nI np) (-1))
noncomputable def cnPa (n np : Nat) (k t : Int32) : Nat := (@ite _ (okPa n np k t) (Classical.propDecidable _) (np + 1) (np))
noncomputable def pkPa (n np : Nat) (PK : Nat → Int32) (k t : Int32) : Nat → Int32 := (@ite _ (okPa n np k t) (Classical.propDecidable _) (upd PK np k) (PK))
noncomputable def ptPa (n np : Nat) (PT : Nat → Int32) (k t : Int32) : Nat → Int32 := (@ite _ (okPa n np k t) (Classical.propDecidable _) (upd PT np t) (PT))
theorem cnPa_le {n np : Nat} {k t : Int32} (h : np ≤ 40) : cnPa n np k t ≤ 40 := by
  unfold cnPa
  by_cases q : okPa n np k t
  · rw [if_pos q]
    have := q.2.2.2.2
    omega
  · rw [if_neg q]
    exact h
set_option maxHeartbeats 4000000 in
set_option maxRecDepth 100000 in
theorem x_partner (l : Launch) (D : va_G) (cy : Nat → ClassId) (K0 : Kp) (L0 : List Nat) (M0 : Hp) (sz : Nat) (xa : Nat) (x0 : Nat) (x1 : Nat) (x2 : Nat) (x3 : Nat) (x4 : Nat) (x5 : Nat) (x6 : Nat) (x7 : Int32) (x8 : Nat) (x9 : Int32) (x10 : Int32) (k1 : Int32) (k2 : Int32) (Bo : Nat → Nat × Nat) (T : Int) (PK : Nat → Int32) (PT : Nat → Int32) (SX : Nat → Nat → Int) (SY : Nat → Nat → Nat → Int32) (hW : WOK cy K0 L0 M0) (i0 : isk K0 L0 x0 17 8) (b1 : x1 ≤ 8) (i2 : isk K0 L0 x2 19 40) (b3 : x3 ≤ 40) (i4 : isk K0 L0 x4 7 0) (i5 : isk K0 L0 x5 5 0) (i6 : isk K0 L0 x6 60 24) (i8 : isk K0 L0 x8 73 25) (hC : CX Bo K0 L0 x0 x1 T x3 PK PT SX SY M0) (hSV : ∀ k, k < x1 → SV (SX k) (SY k)) (hHI : ∀ k, k < x1 → HI (SX k) (SY k)) (hT : (0 ≤ T ∧ T ≤ 900000)) (hPX : PX x0 x1 x2 x3 PK PT M0) : Met l yX11_partner (wsM yX11_partner cX11_partner 4 (some .int)) ({ frames := 2, cells := 1, slots := 4, locals := 43 }) (va_Pc [.ref xa, .int k1, .int k2] (PG D cy [(xa, (b11_1 x0 (nI x1) x2 (nI x3) x4 x5 x6 x7 x8 x9 x10))] L0 M0 sz)) (va_Qi (fun (r : Int32) (u : Kp × List Nat × Hp) => ext K0 L0 u.1 u.2.1 ∧ WOK cy u.1 u.2.1 u.2.2 ∧ fr K0 L0 [19] M0 u.2.2 ∧ ((r = anPa x1 x3 k1 k2))) (fun u t => ∃ (w9 : Int32), CX Bo u.1 u.2.1 x0 x1 (T + 1) (cnPa x1 x3 k1 k2) (pkPa x1 x3 PK k1 k2) (ptPa x1 x3 PT k1 k2) SX SY u.2.2 ∧ PX x0 x1 x2 (cnPa x1 x3 k1 k2) (pkPa x1 x3 PK k1 k2) (ptPa x1 x3 PT k1 k2) u.2.2 ∧ PQ D [(xa, (b11_1 x0 (nI x1) x2 (nI (cnPa x1 x3 k1 k2)) x4 x5 x6 x7 x8 w9 (-1)))] u.2.1 u.2.2 (va_A ([(xa, (b11_1 x0 (nI x1) x2 (nI x3) x4 x5 x6 x7 x8 x9 x10))] ++ va_pl L0 M0) sz) t) (va_A ([(xa, (b11_1 x0 (nI x1) x2 (nI x3) x4 x5 x6 x7 x8 x9 x10))] ++ va_pl L0 M0) sz)) 1 4 (va_A ([(xa, (b11_1 x0 (nI x1) x2 (nI x3) x4 x5 x6 x7 x8 x9 x10))] ++ va_pl L0 M0) sz) := by
  refine Met.ofW (cc := cX11_partner) (maxL := 4) (ret := (some .int)) (by decide) rfl ?_
  intro p e s m args below meth c s₁ B hml hv
  obtain ⟨rfl, hsz, hP, hK, hD0, hN⟩ := hv
  have hx := B.exec
  have hb := B.bytes
  have hr := B.returns
  have hts := atoms_spec (ws := (wsM yX11_partner cX11_partner 4 (some .int))) B.pre
  have hg : ∀ w ∈ lw_good, w.before _ s = true := fun w h => hts w (List.mem_cons_of_mem _ h)
  have hown : s.vm.findClass RX11 = some m.cls := findClass_of_methodNamed B.named
  have hlocks := B.notSynchronized
  subst hsz
  have hD := hD0.self (sz := s.heap.size)
  generalize hAe : va_A ([(xa, (b11_1 x0 (nI x1) x2 (nI x3) x4 x5 x6 x7 x8 x9 x10))] ++ va_pl L0 M0) s.heap.size = A at hD ⊢
  have hA : ∀ q : Nat, s.heap.size ≤ q → A q := fun q h => by rw [← hAe]; exact Or.inr h
  have hS : va_S A s.heap s.heap [] := va_S.rf
  have hl := lv_entry ([.ref xa, .int k1, .int k2]) (n := 4) (Nat.le_of_ble_eq_true rfl)
  rw [lg_entry_eq]
  generalize (lg_sl ([.ref xa, .int k1, .int k2]) ++ List.replicate (4 - (lg_sl ([.ref xa, .int k1, .int k2])).length) Slot.unset).toArray = ls at hl ⊢
  refine W.nameQ (fun Q hQ => ?_)
  refine W.nameR (fun R hR => ?_)
  have hRf : 2 ≤ R.frames := by rw [hR]; exact Nat.le_of_ble_eq_true rfl
  have hRl : 43 ≤ R.locals := by rw [hR]; exact Nat.le_of_ble_eq_true rfl
  have hRc : 1 ≤ R.cells := by rw [hR]; exact Nat.le_of_ble_eq_true rfl
  have hRs : 4 ≤ R.slots := by rw [hR]; exact Nat.le_of_ble_eq_true rfl
  have hW00 := hW
  have i000 := i0
  have i200 := i2
  have i400 := i4
  have i500 := i5
  have i600 := i6
  have i800 := i8
  have hC00 := hC
  have hPX00 := hPX
  obtain ⟨K, L, M, hX0, hF, hW, hP, hD, i0, i2, i4, i5, i6, i8, hC, hPX, hMe, hKe, hLe⟩ : ∃ (K : Kp) (L : List Nat) (M : Hp), ext K0 L0 K L ∧ fr K0 L0 [19] M0 M ∧ WOK cy K L M ∧ va_P D vwCl ([(xa, (b11_1 x0 (nI x1) x2 (nI x3) x4 x5 x6 x7 x8 x9 x10))] ++ va_pl L M) s.heap ∧ va_D A ([(xa, (b11_1 x0 (nI x1) x2 (nI x3) x4 x5 x6 x7 x8 x9 x10))] ++ va_pl L M) ∧ isk K L x0 17 8 ∧ isk K L x2 19 40 ∧ isk K L x4 7 0 ∧ isk K L x5 5 0 ∧ isk K L x6 60 24 ∧ isk K L x8 73 25 ∧ CX Bo K L x0 x1 T x3 PK PT SX SY M ∧ PX x0 x1 x2 x3 PK PT M ∧ M = M0 ∧ K = K0 ∧ L = L0 := ⟨K0, L0, M0, ext.rf, fr.rf, hW, hP, hD, i0, i2, i4, i5, i6, i8, hC, hPX, rfl, rfl, rfl⟩
  have hl : lv_has ls 4 [(0, .ref xa), (1, .int k1), (2, .int k2)] := hl
  obtain ⟨f1, hM1, hf1⟩ := hW.open_19 i2
  have hM0z : M0 x2 = .inl (cy 19, 40, .inr (.inr (.inr (.inr (f1))))) := by rw [← hMe]; exact hM1
  refine lv_iload_n hx hb dX11_partner_0 rfl (lv_at hl 1 rfl) ?_
  refine lv_if_lt (tgt := 10) hx hb dX11_partner_1 (by decide) (fun c_2 => ?_) (fun c_2 => ?_)
  · have hz := rfl (a := 0)
    refine lv_aload_n hx hb dX11_partner_10 rfl (lv_at hl 0 rfl) ?_
    refine lv_iconst (v := 2) hx hb dX11_partner_11 (by decide) ?_
    have hPc := hP.sub (ws' := [(xa, (b11_1 x0 (nI x1) x2 (nI x3) x4 x5 x6 x7 x8 x9 x10))]) [0] rfl
    have hDc := hD.sub (ws' := [(xa, (b11_1 x0 (nI x1) x2 (nI x3) x4 x5 x6 x7 x8 x9 x10))]) [0] (by decide) rfl
    have hKc := hK.sub (tys' := []) [] rfl
    have hFc := va_free (wc := [(xa, (b11_1 x0 (nI x1) x2 (nI x3) x4 x5 x6 x7 x8 x9 x10))]) hD hS hA [0] rfl
    refine va_calli (va_runV (As := [.int 2]) (rest := []) ⟨hx, hb, hml, hown, hg⟩ (k_refuse l D s.heap.size xa x0 (nI x1) x2 (nI x3) x4 x5 x6 x7 x8 x9 x10 2) (cwV 1 hg (gV wd_344 wd_345 wd_346 wd_3 wd_347) rfl rfl rfl (by decide +kernel) ⟨(Nat.le_trans (Nat.le_of_ble_eq_true rfl) hRf), (Nat.le_trans (Nat.le_of_ble_eq_true rfl) hRl)⟩) ⟨Pr.blind, va_recv hK hP (ci := 11) (q0 := 0) rfl rfl, fun U hU hW => ⟨rfl, Pr.at hPc hKc hDc hN hU hW⟩⟩ rfl rfl hl.1 rfl (lv_room (Nat.le_of_ble_eq_true rfl)) dX11_partner_12 ⟨(Nat.le_trans (Nat.le_of_ble_eq_true rfl) hRc), (Nat.le_trans (Nat.le_of_ble_eq_true rfl) hRs)⟩) hS (fun q _ h => hFc q h) hFc (fun r_4 M_5 t H_3 locs ht hvm hw hB hz1 hk1 hS => ?_)
    have hp_6 := hw
    obtain ⟨hP1, hK1, hD1⟩ := hB
    rw [ht] at hP1
    obtain ⟨hP, hD⟩ := va_joinQ (X := [(xa, (b11_1 x0 (nI x1) x2 (nI x3) x4 x5 x6 x7 x8 x9 x10))]) (cx := [(xa, (b11_1 x0 (nI x1) x2 (nI x3) x4 x5 x6 x7 x8 x9 x10))]) (wr := []) (w1 := [(xa, (b11_1 x0 (nI x1) x2 (nI x3) x4 x5 x6 x7 x8 2 (-1)))]) (pl := va_pl L M) hP hD [0] [] rfl rfl (by decide) (by decide) hk1 hFc hP1 hD1
    have hP : va_P D vwCl ([(xa, (b11_1 x0 (nI x1) x2 (nI x3) x4 x5 x6 x7 x8 2 (-1)))] ++ va_pl L M) H_3 := hP
    have hD : va_D A ([(xa, (b11_1 x0 (nI x1) x2 (nI x3) x4 x5 x6 x7 x8 2 (-1)))] ++ va_pl L M) := hD
    have hq := Eq.symm hp_6
    subst hq
    refine W.widen (k := 1) (n := 4) (Nat.le_of_ble_eq_true rfl) (Nat.le_of_ble_eq_true rfl) ?_
    have hI_7 : (k1 : Int32).toInt < (0 : Int) := iltI rfl rfl c_2
    have hno : ¬ okPa x1 x3 k1 k2 := fun q9 => by unfold okPa at q9; omega
    have hE : cnPa x1 x3 k1 k2 = x3 := by unfold cnPa; rw [if_neg hno]
    have hP : va_P D vwCl ([(xa, (b11_1 x0 (nI x1) x2 (nI (cnPa x1 x3 k1 k2)) x4 x5 x6 x7 x8 2 (-1)))] ++ va_pl L M) H_3 := by rw [hE]; exact hP
    have hD : va_D A ([(xa, (b11_1 x0 (nI x1) x2 (nI (cnPa x1 x3 k1 k2)) x4 x5 x6 x7 x8 2 (-1)))] ++ va_pl L M) := by rw [hE]; exact hD
    rw [hQ]
    exact W.iret (v := (-1)) hx hb hr (fun t ht hW9 => ⟨⟨(-1), (K, L, M), rfl, ⟨hX0, hW, hF, (by unfold anPa; rw [if_neg hno])⟩, ⟨2, (by rw [hE]; unfold pkPa ptPa; rw [if_neg hno, if_neg hno]; exact hC.mono), (by rw [hE]; unfold pkPa ptPa; rw [if_neg hno, if_neg hno]; exact hPX), by rw [ht]; exact hP, hD⟩⟩, hS.F ht⟩) hS.2.2 dX11_partner_15
  · have hz := rfl (a := 0)
    refine lv_iload_n hx hb dX11_partner_4 rfl (lv_at hl 1 rfl) ?_
    refine lv_bipush (v := 6) hx hb dX11_partner_5 (by decide) ?_
    refine lv_icmp_lt (tgt := 16) hx hb dX11_partner_7 (by decide) (fun c_8 => ?_) (fun c_8 => ?_)
    · have hz := rfl (a := 0)
      refine lv_iload_n hx hb dX11_partner_16 rfl (lv_at hl 1 rfl) ?_
      have hPc : va_P D vwCl ([] ++ va_pl L M) s.heap := hP.part (cx := []) [] rfl
      have hDc : va_D A ([] ++ va_pl L M) := hD.part (cx := []) [] (by decide) rfl
      have hFc : ∀ q, va_A ([] ++ va_pl L M) s.heap.size q → A q := pg_free hDc hS hA
      refine va_calli (va_runS (As := [.int k1]) (rest := []) ⟨hx, hb, hml, hown, hg⟩ (e_X11_isLimitedKind l D cy K L M s.heap.size k1  hW ) (va_cwS 1 hg (gS wd_586 wd_4 wd_3 wd_2) rfl rfl rfl (by decide +kernel) ⟨(Nat.le_trans (Nat.le_of_ble_eq_true rfl) hRf), (Nat.le_trans (Nat.le_of_ble_eq_true rfl) hRl)⟩) ⟨PG.blind, fun U hU hW => ⟨rfl, PG.at hPc hK hDc hN hU hW⟩⟩ rfl rfl hl.1 rfl (lv_room (Nat.le_of_ble_eq_true rfl)) dX11_partner_17 ⟨(Nat.le_trans (Nat.le_of_ble_eq_true rfl) hRc), (Nat.le_trans (Nat.le_of_ble_eq_true rfl) hRs)⟩) hS (fun q _ h => hFc q h) hFc (fun r_10 M_11 t H_9 locs ht hvm hw hB hz1 hk1 hS => ?_)
      have hp_12 := hw
      obtain ⟨hP1, hD1⟩ := hB
      rw [ht] at hP1
      obtain ⟨hP, hD⟩ := va_joinP (X := [(xa, (b11_1 x0 (nI x1) x2 (nI x3) x4 x5 x6 x7 x8 x9 x10))]) (cx := []) (wr := [(xa, (b11_1 x0 (nI x1) x2 (nI x3) x4 x5 x6 x7 x8 x9 x10))]) (rx := []) (pl := va_pl L M) (pl1 := va_pl L M) hP hD [] [0] rfl rfl (by decide) (by decide) hk1 hFc hP1 hD1
      have hP : va_P D vwCl ([(xa, (b11_1 x0 (nI x1) x2 (nI x3) x4 x5 x6 x7 x8 x9 x10))] ++ va_pl L M) H_9 := hP
      have hD : va_D A ([(xa, (b11_1 x0 (nI x1) x2 (nI x3) x4 x5 x6 x7 x8 x9 x10))] ++ va_pl L M) := hD
      rcases hp_12 with ⟨rfl, c_13⟩ | ⟨rfl, c_14⟩
      · have hz := rfl (a := 0)
        refine lv_if_eq (tgt := 39) hx hb dX11_partner_20 (by decide) (fun c_15 => absurd c_15 (by decide)) (fun _ => ?_)
        refine lv_iload_n hx hb dX11_partner_23 rfl (lv_at hl 2 rfl) ?_
        refine lv_if_lt (tgt := 33) hx hb dX11_partner_24 (by decide) (fun c_16 => ?_) (fun c_16 => ?_)
        · have hz := rfl (a := 0)
          refine lv_aload_n hx hb dX11_partner_33 rfl (lv_at hl 0 rfl) ?_
          refine lv_iconst (v := 2) hx hb dX11_partner_34 (by decide) ?_
          have hPc := hP.sub (ws' := [(xa, (b11_1 x0 (nI x1) x2 (nI x3) x4 x5 x6 x7 x8 x9 x10))]) [0] rfl
          have hDc := hD.sub (ws' := [(xa, (b11_1 x0 (nI x1) x2 (nI x3) x4 x5 x6 x7 x8 x9 x10))]) [0] (by decide) rfl
          have hKc := hK.sub (tys' := []) [] rfl
          have hFc := va_free (wc := [(xa, (b11_1 x0 (nI x1) x2 (nI x3) x4 x5 x6 x7 x8 x9 x10))]) hD hS hA [0] rfl
          refine va_calli (va_runV (As := [.int 2]) (rest := []) ⟨hx, hb, hml, hown, hg⟩ (k_refuse l D H_9.size xa x0 (nI x1) x2 (nI x3) x4 x5 x6 x7 x8 x9 x10 2) (cwV 1 hg (gV wd_344 wd_345 wd_346 wd_3 wd_347) rfl rfl rfl (by decide +kernel) ⟨(Nat.le_trans (Nat.le_of_ble_eq_true rfl) hRf), (Nat.le_trans (Nat.le_of_ble_eq_true rfl) hRl)⟩) ⟨Pr.blind, va_recv hK hP (ci := 11) (q0 := 0) rfl rfl, fun U hU hW => ⟨rfl, Pr.at hPc hKc hDc hN hU hW⟩⟩ rfl rfl hl.1 rfl (lv_room (Nat.le_of_ble_eq_true rfl)) dX11_partner_35 ⟨(Nat.le_trans (Nat.le_of_ble_eq_true rfl) hRc), (Nat.le_trans (Nat.le_of_ble_eq_true rfl) hRs)⟩) hS (fun q _ h => hFc q h) hFc (fun r_18 M_19 t H_17 locs ht hvm hw hB hz1 hk1 hS => ?_)
          have hp_20 := hw
          obtain ⟨hP1, hK1, hD1⟩ := hB
          rw [ht] at hP1
          obtain ⟨hP, hD⟩ := va_joinQ (X := [(xa, (b11_1 x0 (nI x1) x2 (nI x3) x4 x5 x6 x7 x8 x9 x10))]) (cx := [(xa, (b11_1 x0 (nI x1) x2 (nI x3) x4 x5 x6 x7 x8 x9 x10))]) (wr := []) (w1 := [(xa, (b11_1 x0 (nI x1) x2 (nI x3) x4 x5 x6 x7 x8 2 (-1)))]) (pl := va_pl L M) hP hD [0] [] rfl rfl (by decide) (by decide) hk1 hFc hP1 hD1
          have hP : va_P D vwCl ([(xa, (b11_1 x0 (nI x1) x2 (nI x3) x4 x5 x6 x7 x8 2 (-1)))] ++ va_pl L M) H_17 := hP
          have hD : va_D A ([(xa, (b11_1 x0 (nI x1) x2 (nI x3) x4 x5 x6 x7 x8 2 (-1)))] ++ va_pl L M) := hD
          have hq := Eq.symm hp_20
          subst hq
          refine W.widen (k := 1) (n := 4) (Nat.le_of_ble_eq_true rfl) (Nat.le_of_ble_eq_true rfl) ?_
          have hI_21 : (0 : Int) ≤ (k1 : Int32).toInt := inltI rfl rfl c_2
          have hI_22 : (k1 : Int32).toInt < (6 : Int) := iltI rfl rfl c_8
          have hI_23 : (k2 : Int32).toInt < (0 : Int) := iltI rfl rfl c_16
          have hno : ¬ okPa x1 x3 k1 k2 := fun q9 => by unfold okPa at q9; omega
          have hE : cnPa x1 x3 k1 k2 = x3 := by unfold cnPa; rw [if_neg hno]
          have hP : va_P D vwCl ([(xa, (b11_1 x0 (nI x1) x2 (nI (cnPa x1 x3 k1 k2)) x4 x5 x6 x7 x8 2 (-1)))] ++ va_pl L M) H_17 := by rw [hE]; exact hP
          have hD : va_D A ([(xa, (b11_1 x0 (nI x1) x2 (nI (cnPa x1 x3 k1 k2)) x4 x5 x6 x7 x8 2 (-1)))] ++ va_pl L M) := by rw [hE]; exact hD
          rw [hQ]
          exact W.iret (v := (-1)) hx hb hr (fun t ht hW9 => ⟨⟨(-1), (K, L, M), rfl, ⟨hX0, hW, hF, (by unfold anPa; rw [if_neg hno])⟩, ⟨2, (by rw [hE]; unfold pkPa ptPa; rw [if_neg hno, if_neg hno]; exact hC.mono), (by rw [hE]; unfold pkPa ptPa; rw [if_neg hno, if_neg hno]; exact hPX), by rw [ht]; exact hP, hD⟩⟩, hS.F ht⟩) hS.2.2 dX11_partner_38
        · have hz := rfl (a := 0)
          refine lv_iload_n hx hb dX11_partner_27 rfl (lv_at hl 2 rfl) ?_
          refine lv_ldc (v := 1000000000) hx hb hown (hg _ wd_0) dX11_partner_28 ?_
          refine lv_icmp_le (tgt := 39) hx hb dX11_partner_30 (by decide) (fun c_24 => ?_) (fun c_24 => ?_)
          · have hz := rfl (a := 0)
            refine lv_iload_n hx hb dX11_partner_39 rfl (lv_at hl 1 rfl) ?_
            refine lv_iconst (v := 5) hx hb dX11_partner_40 (by decide) ?_
            refine lv_icmp_ne (tgt := 52) hx hb dX11_partner_41 (by decide) (fun c_25 => ?_) (fun c_25 => ?_)
            · have hz := rfl (a := 0)
              refine lv_null hx hb dX11_partner_52 ?_
              refine lv_astore_nN (lv' := [(3, .null), (0, .ref xa), (1, .int k1), (2, .int k2)]) hx hb dX11_partner_53 rfl hl (by decide) rfl (fun ls hl => ?_)
              refine lv_iload_n hx hb dX11_partner_54 rfl (lv_at hl 2 rfl) ?_
              refine lv_iconst (v := 5) hx hb dX11_partner_55 (by decide) ?_
              refine lv_icmp_ne (tgt := 69) hx hb dX11_partner_56 (by decide) (fun c_26 => ?_) (fun c_26 => absurd c_26 c_25)
              refine lv_aload_n hx hb dX11_partner_69 rfl (lv_at hl 1 rfl) ?_
              refine va_get (D := D) (ci := 11) (v := .int (nI x3)) (C := RX11) (T := TX11) (N := 11) hx hb hg inG11 hown hK hP 0 rfl rfl 3 (by decide) (hg _ wd_338) (fun _ h9 => h9) rfl dX11_partner_70 ?_
              refine lv_bipush (v := 40) hx hb dX11_partner_73 (by decide) ?_
              refine lv_icmp_lt (tgt := 85) hx hb dX11_partner_75 (by decide) (fun c_27 => ?_) (fun c_27 => ?_)
              · have hz := rfl (a := 0)
                have n_28 : x3 < 40 := (iLT (a := x3) (b := 40) (by omega) (by omega)).mp c_27
                refine lv_aload_n hx hb dX11_partner_85 rfl (lv_at hl 1 rfl) ?_
                refine va_get (D := D) (ci := 11) (v := .ref x2) (C := RX11) (T := TX11) (N := 11) hx hb hg inG11 hown hK hP 0 rfl rfl 2 (by decide) (hg _ wd_339) (fun _ h9 => h9) rfl dX11_partner_86 ?_
                refine lv_aload_n hx hb dX11_partner_89 rfl (lv_at hl 1 rfl) ?_
                refine va_get (D := D) (ci := 11) (v := .int (nI x3)) (C := RX11) (T := TX11) (N := 11) hx hb hg inG11 hown hK hP 0 rfl rfl 3 (by decide) (hg _ wd_338) (fun _ h9 => h9) rfl dX11_partner_90 ?_
                refine va_new (ci := 4) (fs := [.int 0, .int 0, .int 0, .null]) (C := RX4) (T := TX4) (N := 4) hx hb hg inG4 tyX4 tyX4_ok hown (hg _ wd_587) (hg _ wd_588) (hg _ wd_30) hK hP hD hS hA rfl dfX4 (Nat.le_trans (Nat.le_of_ble_eq_true rfl) hRc) (Nat.le_trans (Nat.le_of_ble_eq_true rfl) hRs) dX11_partner_93 (fun q_29 H_30 hP hD hS => ?_)
                have hP : va_P D vwCl ([(xa, (b11_1 x0 (nI x1) x2 (nI x3) x4 x5 x6 x7 x8 x9 x10)), (q_29, (b4_12 0 0 0))] ++ va_pl L M) H_30 := hP.swap
                have hD : va_D A ([(xa, (b11_1 x0 (nI x1) x2 (nI x3) x4 x5 x6 x7 x8 x9 x10)), (q_29, (b4_12 0 0 0))] ++ va_pl L M) := hD.swap
                refine W.widen (k := 1) (n := 4) (Nat.le_of_ble_eq_true rfl) (Nat.le_of_ble_eq_true rfl) ?_
                refine lv_dup hx hb dX11_partner_96 rfl ?_
                refine lv_aload_n hx hb dX11_partner_97 rfl (lv_at hl 1 rfl) ?_
                refine va_get (D := D) (ci := 11) (v := .int (nI x3)) (C := RX11) (T := TX11) (N := 11) hx hb hg inG11 hown hK hP 0 rfl rfl 3 (by decide) (hg _ wd_338) (fun _ h9 => h9) rfl dX11_partner_98 ?_
                refine lv_iload_n hx hb dX11_partner_101 rfl (lv_at hl 2 rfl) ?_
                refine lv_iload_n hx hb dX11_partner_102 rfl (lv_at hl 3 rfl) ?_
                refine lv_aload_nN hx hb dX11_partner_103 rfl (lv_at hl 0 rfl) ?_
                have hPc := hP.sub (ws' := [(q_29, (b4_12 0 0 0))]) [1] rfl
                have hDc := hD.sub (ws' := [(q_29, (b4_12 0 0 0))]) [1] (by decide) rfl
                have hKc := hK.sub (tys' := []) [] rfl
                have hFc := va_free (wc := [(q_29, (b4_12 0 0 0))]) hD hS hA [1] rfl
                refine va_callv (va_runI (As := [.int (nI x3), .int k1, .int k2, .null]) (rest := [.ref q_29, .int (nI x3), .ref x2]) ⟨hx, hb, hml, hown, hg⟩ (k_Partner_n l D H_30.size q_29 (nI x3) k1 k2) (cwI 4 hg (gB wd_589) rfl rfl rfl (hg _ wd_30) (hg _ wd_590) (hg _ wd_591) rfl (by decide +kernel) ⟨(Nat.le_trans (Nat.le_of_ble_eq_true rfl) hRf), (Nat.le_trans (Nat.le_of_ble_eq_true rfl) hRl)⟩) ⟨Pr.blind, fun U hU hW => ⟨rfl, Pr.at hPc hKc hDc hN hU hW⟩⟩ rfl rfl hl.1 rfl (lv_room (Nat.le_of_ble_eq_true rfl)) dX11_partner_104 ⟨(Nat.le_trans (Nat.le_of_ble_eq_true rfl) hRc), (Nat.le_trans (Nat.le_of_ble_eq_true rfl) hRs)⟩) hS (fun q _ h => hFc q h) hFc (fun M_33 t H_31 locs ht hvm hw hB hz1 hk1 hS => ?_)
                have hp_34 := hw
                obtain ⟨hP1, hK1, hD1⟩ := hB
                rw [ht] at hP1
                obtain ⟨hP, hD⟩ := va_joinQ (X := [(xa, (b11_1 x0 (nI x1) x2 (nI x3) x4 x5 x6 x7 x8 x9 x10)), (q_29, (b4_12 0 0 0))]) (cx := [(q_29, (b4_12 0 0 0))]) (wr := [(xa, (b11_1 x0 (nI x1) x2 (nI x3) x4 x5 x6 x7 x8 x9 x10))]) (w1 := [(q_29, (b4_12 (nI x3) k1 k2))]) (pl := va_pl L M) hP hD [1] [0] rfl rfl (by decide) (by decide) hk1 hFc hP1 hD1
                have hP : va_P D vwCl ([(xa, (b11_1 x0 (nI x1) x2 (nI x3) x4 x5 x6 x7 x8 x9 x10)), (q_29, (b4_12 (nI x3) k1 k2))] ++ va_pl L M) H_31 := hP
                have hD : va_D A ([(xa, (b11_1 x0 (nI x1) x2 (nI x3) x4 x5 x6 x7 x8 x9 x10)), (q_29, (b4_12 (nI x3) k1 k2))] ++ va_pl L M) := hD
                have hP : va_P D vwCl (([(xa, (b11_1 x0 (nI x1) x2 (nI x3) x4 x5 x6 x7 x8 x9 x10))] ++ [(q_29, (b4_12 (nI x3) k1 k2))]) ++ va_pl L M) H_31 := hP.part (cx := [(xa, (b11_1 x0 (nI x1) x2 (nI x3) x4 x5 x6 x7 x8 x9 x10))] ++ [(q_29, (b4_12 (nI x3) k1 k2))]) [0, 1] rfl
                have hD : va_D A (([(xa, (b11_1 x0 (nI x1) x2 (nI x3) x4 x5 x6 x7 x8 x9 x10))] ++ [(q_29, (b4_12 (nI x3) k1 k2))]) ++ va_pl L M) := hD.part (cx := [(xa, (b11_1 x0 (nI x1) x2 (nI x3) x4 x5 x6 x7 x8 x9 x10))] ++ [(q_29, (b4_12 (nI x3) k1 k2))]) [0, 1] (by decide) rfl
                obtain ⟨K9, L9, M_35, hx9, i_36, hW, hP, hD, hM_37, hfr9, hq9, hm9⟩ := adoptE2 4 0 hP hD hW (fun K' L' x i => (⟨(nI x3), k1, k2, none, rfl, iskN.none⟩ : gd_4 K' L' _))
                have hn20 : ∀ b, isk K9 L9 b 2 0 → isk K0 L0 b 2 0 := fun b hb => by
                  have h9 : isk K L b 2 0 := (hm9 b hb.1).elim (fun z => absurd (hb.un (show isk K9 L9 b 4 0 by rw [z]; exact i_36)) (by decide)) (fun z => ⟨z, ((hx9 b z).2).symm.trans hb.2⟩)
                  rw [hKe, hLe] at h9
                  exact h9
                have hn40 : ∀ b, isk K9 L9 b 4 0 → b = q_29 ∨ isk K0 L0 b 4 0 := fun b hb => by
                  rcases hm9 b hb.1 with z | z
                  · exact Or.inl z
                  · have h9 : isk K L b 4 0 := ⟨z, ((hx9 b z).2).symm.trans hb.2⟩
                    rw [hKe, hLe] at h9
                    exact Or.inr h9
                have hq0q_29 : q_29 ∉ L0 := fun z => hq9 (hX0 _ z).1
                have hM_38 : M_35 x2 = .inl (cy 19, 40, .inr (.inr (.inr (.inr (f1))))) := (hfr9 _ i2.1).trans hM1
                have hF : fr K0 L0 [19] M0 M_35 := hF.adX hX0 hfr9
                have hX0 := hX0.tr hx9
                have i_39 := i0.ext hx9
                have i_40 := i2.ext hx9
                have i_41 := i4.ext hx9
                have i_42 := i5.ext hx9
                have i_43 := i6.ext hx9
                have i_44 := i8.ext hx9
                have hf_45 := fun j q => (hf1 j q).ext hx9
                obtain ⟨K, L, hK9, hL9⟩ : ∃ (K : Kp) (L : List Nat), K = K9 ∧ L = L9 := ⟨_, _, rfl, rfl⟩
                subst hK9
                subst hL9
                have hP : va_P D vwCl ([(xa, (b11_1 x0 (nI x1) x2 (nI x3) x4 x5 x6 x7 x8 x9 x10))] ++ va_pl L M_35) H_31 := hP
                have hD : va_D A ([(xa, (b11_1 x0 (nI x1) x2 (nI x3) x4 x5 x6 x7 x8 x9 x10))] ++ va_pl L M_35) := hD
                refine pg_astq (r := (RX4, TX4, 4)) hx hb hK hP hD hS i_40.1 5 4 hM_38 rfl i_36.1 hM_37 rfl (inbN x3 40 (by omega) (by omega)) dX11_partner_107 (fun H_46 locs hP hD hS => ?_)
                obtain ⟨M_47, eM_47⟩ : ∃ M1 : Hp, M1 = va_up M_35 x2 (.inl (cy 19, 40, .inr (.inr (.inr (.inr (va_up f1 ((nI x3) : Int32).toNatClampNeg (some q_29))))))) := ⟨_, rfl⟩
                have hP : va_P D vwCl ([(xa, (b11_1 x0 (nI x1) x2 (nI x3) x4 x5 x6 x7 x8 x9 x10))] ++ va_pl L M_47) H_46 := by rw [eM_47]; exact hP
                have hD : va_D A ([(xa, (b11_1 x0 (nI x1) x2 (nI x3) x4 x5 x6 x7 x8 x9 x10))] ++ va_pl L M_47) := by rw [eM_47]; exact hD
                have hW : WOK cy K L M_47 := by rw [eM_47]; exact hW.up_19 i_40 ⟨_, rfl, (upN hf_45 i_36)⟩
                have hF : fr K0 L0 [19] M0 M_47 := by rw [eM_47]; exact hF.upX hX0 i_40 (by decide)
                have hM_48 : M_47 x2 = .inl (cy 19, 40, .inr (.inr (.inr (.inr (va_up f1 ((nI x3) : Int32).toNatClampNeg (some q_29)))))) := by rw [eM_47]; exact va_up_self _ _ _
                have hM_49 : M_47 q_29 = .inr (4, [.int (nI x3), .int k1, .int k2, va_rf none]) := by rw [eM_47, va_up_ne _ _ (i_36.neT i_40 (by decide))]; exact hM_37
                have hf_51 : ∀ j, j < 40 → iskN K L ((va_up f1 ((nI x3) : Int32).toNatClampNeg (some q_29)) j) 4 0 := (upN hf_45 i_36)
                obtain ⟨f_50, ef_50⟩ : ∃ f : Nat → Option Nat, f = va_up f1 ((nI x3) : Int32).toNatClampNeg (some q_29) := ⟨_, rfl⟩
                rw [← ef_50] at hM_48 hf_51
                have hk_52 : f_50 ((nI x3) : Int32).toNatClampNeg = some q_29 := by rw [ef_50]; exact va_up_self _ _ _
                refine lv_aload_n hx hb dX11_partner_108 rfl (lv_at hl 1 rfl) ?_
                refine lv_dup hx hb dX11_partner_109 rfl ?_
                refine va_get (D := D) (ci := 11) (v := .int (nI x3)) (C := RX11) (T := TX11) (N := 11) hx hb hg inG11 hown hK hP 0 rfl rfl 3 (by decide) (hg _ wd_338) (fun _ h9 => h9) rfl dX11_partner_110 ?_
                refine lv_iconst (v := 1) hx hb dX11_partner_113 (by decide) ?_
                refine lv_iadd hx hb dX11_partner_114 ?_
                refine lv_topi (fun f_53 ef_53 => ?_)
                obtain rfl : f_53 = (nI (x3 + 1)) := ef_53.trans (nI_add x3 1)
                refine va_put (D := D) (ci := 11) (v := .int (nI (x3 + 1))) (ty := .int) (C := RX11) (T := TX11) (N := 11) hx hb hg inG11 tyX11 tyX11_ok nmX11 hown hK hP hD hS 0 rfl rfl 3 (by decide) (hg _ wd_338) (fun _ h9 => h9) rfl (by decide +kernel) rfl rfl (Nat.le_of_ble_eq_true rfl) dX11_partner_115 (fun H_54 locs hP hD hS => ?_)
                have hP : va_P D vwCl ([(xa, (b11_1 x0 (nI x1) x2 (nI (x3 + 1)) x4 x5 x6 x7 x8 x9 x10))] ++ va_pl L M_47) H_54 := hP
                have hD : va_D A ([(xa, (b11_1 x0 (nI x1) x2 (nI (x3 + 1)) x4 x5 x6 x7 x8 x9 x10))] ++ va_pl L M_47) := hD
                refine lv_aload_n hx hb dX11_partner_118 rfl (lv_at hl 1 rfl) ?_
                refine lv_aload_n hx hb dX11_partner_119 rfl (lv_at hl 1 rfl) ?_
                refine va_get (D := D) (ci := 11) (v := .int (nI (x3 + 1))) (C := RX11) (T := TX11) (N := 11) hx hb hg inG11 hown hK hP 0 rfl rfl 3 (by decide) (hg _ wd_338) (fun _ h9 => h9) rfl dX11_partner_120 ?_
                refine lv_iconst (v := 1) hx hb dX11_partner_123 (by decide) ?_
                refine lv_isub hx hb dX11_partner_124 ?_
                refine lv_topi (fun f_55 ef_55 => ?_)
                obtain rfl : f_55 = (nI ((x3 + 1) - 1)) := ef_55.trans (nI_prd (by omega))
                have hPc := hP.sub (ws' := [(xa, (b11_1 x0 (nI x1) x2 (nI (x3 + 1)) x4 x5 x6 x7 x8 x9 x10))]) [0] rfl
                have hDc := hD.sub (ws' := [(xa, (b11_1 x0 (nI x1) x2 (nI (x3 + 1)) x4 x5 x6 x7 x8 x9 x10))]) [0] (by decide) rfl
                have hKc := hK.sub (tys' := []) [] rfl
                have hFc := va_free (wc := [(xa, (b11_1 x0 (nI x1) x2 (nI (x3 + 1)) x4 x5 x6 x7 x8 x9 x10))]) hD hS hA [0] rfl
                refine va_calli (va_runV (As := [.int (nI ((x3 + 1) - 1))]) (rest := []) ⟨hx, hb, hml, hown, hg⟩ (k_accept l D H_54.size xa x0 (nI x1) x2 (nI (x3 + 1)) x4 x5 x6 x7 x8 x9 x10 (nI ((x3 + 1) - 1))) (cwV 1 hg (gV wd_356 wd_357 wd_358 wd_3 wd_359) rfl rfl rfl (by decide +kernel) ⟨(Nat.le_trans (Nat.le_of_ble_eq_true rfl) hRf), (Nat.le_trans (Nat.le_of_ble_eq_true rfl) hRl)⟩) ⟨Pr.blind, va_recv hK hP (ci := 11) (q0 := 0) rfl rfl, fun U hU hW => ⟨rfl, Pr.at hPc hKc hDc hN hU hW⟩⟩ rfl rfl hl.1 rfl (lv_room (Nat.le_of_ble_eq_true rfl)) dX11_partner_125 ⟨(Nat.le_trans (Nat.le_of_ble_eq_true rfl) hRc), (Nat.le_trans (Nat.le_of_ble_eq_true rfl) hRs)⟩) hS (fun q _ h => hFc q h) hFc (fun r_57 M_58 t H_56 locs ht hvm hw hB hz1 hk1 hS => ?_)
                have hp_59 := hw
                obtain ⟨hP1, hK1, hD1⟩ := hB
                rw [ht] at hP1
                obtain ⟨hP, hD⟩ := va_joinQ (X := [(xa, (b11_1 x0 (nI x1) x2 (nI (x3 + 1)) x4 x5 x6 x7 x8 x9 x10))]) (cx := [(xa, (b11_1 x0 (nI x1) x2 (nI (x3 + 1)) x4 x5 x6 x7 x8 x9 x10))]) (wr := []) (w1 := [(xa, (b11_1 x0 (nI x1) x2 (nI (x3 + 1)) x4 x5 x6 x7 x8 0 (-1)))]) (pl := va_pl L M_47) hP hD [0] [] rfl rfl (by decide) (by decide) hk1 hFc hP1 hD1
                have hP : va_P D vwCl ([(xa, (b11_1 x0 (nI x1) x2 (nI (x3 + 1)) x4 x5 x6 x7 x8 0 (-1)))] ++ va_pl L M_47) H_56 := hP
                have hD : va_D A ([(xa, (b11_1 x0 (nI x1) x2 (nI (x3 + 1)) x4 x5 x6 x7 x8 0 (-1)))] ++ va_pl L M_47) := hD
                have hq := Eq.symm hp_59
                subst hq
                have hI_60 : (0 : Int) ≤ (k1 : Int32).toInt := inltI rfl rfl c_2
                have hI_61 : (k1 : Int32).toInt < (6 : Int) := iltI rfl rfl c_8
                have hI_62 : (0 : Int) ≤ (k2 : Int32).toInt := inltI rfl rfl c_16
                have hI_63 : (k2 : Int32).toInt ≤ (1000000000 : Int) := ileI rfl rfl c_24
                have hI_64 : (k1 : Int32).toInt ≠ (5 : Int) := ineI rfl rfl c_25
                have hI_65 : (k1 : Int32).toInt ≠ (5 : Int) := ineI rfl rfl c_26
                have hI_66 : ((x3 : Nat) : Int) < (40 : Int) := iltI (nI_toInt (by omega)) rfl c_27
                have hyes : okPa x1 x3 k1 k2 := by unfold okPa; refine ⟨?_, ?_, ?_, ?_, ?_⟩ <;> omega
                have hE : cnPa x1 x3 k1 k2 = (x3 + 1) := by unfold cnPa; rw [if_pos hyes]
                have hP : va_P D vwCl ([(xa, (b11_1 x0 (nI x1) x2 (nI (cnPa x1 x3 k1 k2)) x4 x5 x6 x7 x8 0 (-1)))] ++ va_pl L M_47) H_56 := by rw [hE]; exact hP
                have hD : va_D A ([(xa, (b11_1 x0 (nI x1) x2 (nI (cnPa x1 x3 k1 k2)) x4 x5 x6 x7 x8 0 (-1)))] ++ va_pl L M_47) := by rw [hE]; exact hD
                have h29 : RFc (M_47 x2) = va_up (RFc (M0 x2)) x3 (some q_29) := by rw [RFc_of hM_48, ef_50, nI_cl (by omega), RFc_of hM0z]
                have hp9 : ∀ q, isk K L q 4 0 → ∀ b, cR 4 M_47 q 3 = some b → ∃ j, j < x1 ∧ RFc (M0 x0) j = some b := fun q iq b hb => by
                  rcases hn40 q iq with z | i4
                  · rw [z, cR_q (q := none) hM_49 rfl] at hb
                    cases hb
                  · rw [cR_eq (hF.at i4 (by decide))] at hb
                    exact hC00.ph q i4 b hb
                rw [hQ]
                exact W.iret (v := (nI ((x3 + 1) - 1))) hx hb hr (fun t ht hW9 => ⟨⟨(nI ((x3 + 1) - 1)), (K, L, M_47), rfl, ⟨hX0, hW, hF, (by unfold anPa; rw [if_pos hyes, Nat.add_sub_cancel])⟩, ⟨0, (by rw [hE]; unfold pkPa ptPa; rw [if_pos hyes, if_pos hyes]; exact CX.gen hC00 hW00 i000 b1 (SAME.fr (fr.cv hF (by decide)) (fr.cv hF (by decide)) (fr.cv hF (by decide)) (fr.cv hF (by decide)) (fr.cv hF (by decide)) (fr.cv hF (by decide)) (fr.cv hF (by decide)) hF (by decide)) hX0 hn20 (congrArg RFc (hF.at i000 (by decide))) hp9 (fun _ _ _ g => g.part)), (by rw [hE]; unfold pkPa ptPa; rw [if_pos hyes, if_pos hyes]; exact PX.part hPX00 hW00 i000 i200 (by omega) hF h29 hM_49 (Or.inr ⟨c_25, rfl⟩)), by rw [ht]; exact hP, hD⟩⟩, hS.F ht⟩) hS.2.2 dX11_partner_128
              · have hz := rfl (a := 0)
                have n_67 : ¬ (x3 < 40) := fun q => c_27 ((iLT (a := x3) (b := 40) (by omega) (by omega)).mpr q)
                refine lv_aload_n hx hb dX11_partner_78 rfl (lv_at hl 1 rfl) ?_
                refine lv_bipush (v := 9) hx hb dX11_partner_79 (by decide) ?_
                have hPc := hP.sub (ws' := [(xa, (b11_1 x0 (nI x1) x2 (nI x3) x4 x5 x6 x7 x8 x9 x10))]) [0] rfl
                have hDc := hD.sub (ws' := [(xa, (b11_1 x0 (nI x1) x2 (nI x3) x4 x5 x6 x7 x8 x9 x10))]) [0] (by decide) rfl
                have hKc := hK.sub (tys' := []) [] rfl
                have hFc := va_free (wc := [(xa, (b11_1 x0 (nI x1) x2 (nI x3) x4 x5 x6 x7 x8 x9 x10))]) hD hS hA [0] rfl
                refine va_calli (va_runV (As := [.int 9]) (rest := []) ⟨hx, hb, hml, hown, hg⟩ (k_refuse l D H_9.size xa x0 (nI x1) x2 (nI x3) x4 x5 x6 x7 x8 x9 x10 9) (cwV 1 hg (gV wd_344 wd_345 wd_346 wd_3 wd_347) rfl rfl rfl (by decide +kernel) ⟨(Nat.le_trans (Nat.le_of_ble_eq_true rfl) hRf), (Nat.le_trans (Nat.le_of_ble_eq_true rfl) hRl)⟩) ⟨Pr.blind, va_recv hK hP (ci := 11) (q0 := 0) rfl rfl, fun U hU hW => ⟨rfl, Pr.at hPc hKc hDc hN hU hW⟩⟩ rfl rfl hl.1 rfl (lv_room (Nat.le_of_ble_eq_true rfl)) dX11_partner_81 ⟨(Nat.le_trans (Nat.le_of_ble_eq_true rfl) hRc), (Nat.le_trans (Nat.le_of_ble_eq_true rfl) hRs)⟩) hS (fun q _ h => hFc q h) hFc (fun r_69 M_70 t H_68 locs ht hvm hw hB hz1 hk1 hS => ?_)
                have hp_71 := hw
                obtain ⟨hP1, hK1, hD1⟩ := hB
                rw [ht] at hP1
                obtain ⟨hP, hD⟩ := va_joinQ (X := [(xa, (b11_1 x0 (nI x1) x2 (nI x3) x4 x5 x6 x7 x8 x9 x10))]) (cx := [(xa, (b11_1 x0 (nI x1) x2 (nI x3) x4 x5 x6 x7 x8 x9 x10))]) (wr := []) (w1 := [(xa, (b11_1 x0 (nI x1) x2 (nI x3) x4 x5 x6 x7 x8 9 (-1)))]) (pl := va_pl L M) hP hD [0] [] rfl rfl (by decide) (by decide) hk1 hFc hP1 hD1
                have hP : va_P D vwCl ([(xa, (b11_1 x0 (nI x1) x2 (nI x3) x4 x5 x6 x7 x8 9 (-1)))] ++ va_pl L M) H_68 := hP
                have hD : va_D A ([(xa, (b11_1 x0 (nI x1) x2 (nI x3) x4 x5 x6 x7 x8 9 (-1)))] ++ va_pl L M) := hD
                have hq := Eq.symm hp_71
                subst hq
                refine W.widen (k := 1) (n := 4) (Nat.le_of_ble_eq_true rfl) (Nat.le_of_ble_eq_true rfl) ?_
                have hI_72 : (0 : Int) ≤ (k1 : Int32).toInt := inltI rfl rfl c_2
                have hI_73 : (k1 : Int32).toInt < (6 : Int) := iltI rfl rfl c_8
                have hI_74 : (0 : Int) ≤ (k2 : Int32).toInt := inltI rfl rfl c_16
                have hI_75 : (k2 : Int32).toInt ≤ (1000000000 : Int) := ileI rfl rfl c_24
                have hI_76 : (k1 : Int32).toInt ≠ (5 : Int) := ineI rfl rfl c_25
                have hI_77 : (k1 : Int32).toInt ≠ (5 : Int) := ineI rfl rfl c_26
                have hI_78 : (40 : Int) ≤ ((x3 : Nat) : Int) := inltI (nI_toInt (by omega)) rfl c_27
                have hno : ¬ okPa x1 x3 k1 k2 := fun q9 => by unfold okPa at q9; omega
                have hE : cnPa x1 x3 k1 k2 = x3 := by unfold cnPa; rw [if_neg hno]
                have hP : va_P D vwCl ([(xa, (b11_1 x0 (nI x1) x2 (nI (cnPa x1 x3 k1 k2)) x4 x5 x6 x7 x8 9 (-1)))] ++ va_pl L M) H_68 := by rw [hE]; exact hP
                have hD : va_D A ([(xa, (b11_1 x0 (nI x1) x2 (nI (cnPa x1 x3 k1 k2)) x4 x5 x6 x7 x8 9 (-1)))] ++ va_pl L M) := by rw [hE]; exact hD
                rw [hQ]
                exact W.iret (v := (-1)) hx hb hr (fun t ht hW9 => ⟨⟨(-1), (K, L, M), rfl, ⟨hX0, hW, hF, (by unfold anPa; rw [if_neg hno])⟩, ⟨9, (by rw [hE]; unfold pkPa ptPa; rw [if_neg hno, if_neg hno]; exact hC.mono), (by rw [hE]; unfold pkPa ptPa; rw [if_neg hno, if_neg hno]; exact hPX), by rw [ht]; exact hP, hD⟩⟩, hS.F ht⟩) hS.2.2 dX11_partner_84
            · have hz := rfl (a := 0)
              refine lv_aload_n hx hb dX11_partner_44 rfl (lv_at hl 0 rfl) ?_
              refine lv_iload_n hx hb dX11_partner_45 rfl (lv_at hl 2 rfl) ?_
              have hPc : va_P D vwCl ([(xa, (b11_1 x0 (nI x1) x2 (nI x3) x4 x5 x6 x7 x8 x9 x10))] ++ va_pl L M) H_9 := hP
              have hDc : va_D A ([(xa, (b11_1 x0 (nI x1) x2 (nI x3) x4 x5 x6 x7 x8 x9 x10))] ++ va_pl L M) := hD
              have hFc : ∀ q, va_A ([(xa, (b11_1 x0 (nI x1) x2 (nI x3) x4 x5 x6 x7 x8 x9 x10))] ++ va_pl L M) H_9.size q → A q := pg_free hDc hS hA
              refine va_callq (va_runV (As := [.int k2]) (rest := []) ⟨hx, hb, hml, hown, hg⟩ (e_houseAt l D cy K L M H_9.size xa x0 x1 x2 x3 x4 x5 x6 x7 x8 x9 x10 k2 Bo T PK PT SX SY  hW i0 b1 i2 b3 i4 i5 i6 i8 hC) (cwV 1 hg (gV wd_340 wd_341 wd_342 wd_3 wd_343) rfl rfl rfl (by decide +kernel) ⟨(Nat.le_trans (Nat.le_of_ble_eq_true rfl) hRf), (Nat.le_trans (Nat.le_of_ble_eq_true rfl) hRl)⟩) ⟨PG.blind, va_recv hK hP (ci := 11) (q0 := 0) rfl rfl, fun U hU hW => ⟨rfl, PG.at hPc hK hDc hN hU hW⟩⟩ rfl rfl hl.1 rfl (lv_room (Nat.le_of_ble_eq_true rfl)) dX11_partner_46 ⟨(Nat.le_trans (Nat.le_of_ble_eq_true rfl) hRc), (Nat.le_trans (Nat.le_of_ble_eq_true rfl) hRs)⟩) hS (fun q _ h => hFc q h) hFc (fun r_80 M_81 t H_79 locs ht hvm hw hB hz1 hk1 hS => ?_)
              have hp_82 := hw
              obtain ⟨hP1, hD1⟩ := hB
              rw [ht] at hP1
              have hP : va_P D vwCl ([(xa, (b11_1 x0 (nI x1) x2 (nI x3) x4 x5 x6 x7 x8 x9 x10))] ++ va_pl L M) H_79 := hP1
              have hD : va_D A ([(xa, (b11_1 x0 (nI x1) x2 (nI x3) x4 x5 x6 x7 x8 x9 x10))] ++ va_pl L M) := hD1.mono hFc
              obtain ⟨hp_82, hqx⟩ := hp_82
              rcases r_80 with _ | b_83
              · have hz := rfl (a := 0)
                refine lv_goto (tgt := 53) hx hb dX11_partner_49 (by decide) ?_
                refine lv_astore_nN (lv' := [(3, .null), (0, .ref xa), (1, .int k1), (2, .int k2)]) hx hb dX11_partner_53 rfl hl (by decide) rfl (fun ls hl => ?_)
                refine lv_iload_n hx hb dX11_partner_54 rfl (lv_at hl 2 rfl) ?_
                refine lv_iconst (v := 5) hx hb dX11_partner_55 (by decide) ?_
                refine lv_icmp_ne (tgt := 69) hx hb dX11_partner_56 (by decide) (fun c_84 => absurd c_25 c_84) (fun c_84 => ?_)
                refine lv_aload_nN hx hb dX11_partner_59 rfl (lv_at hl 0 rfl) ?_
                refine lv_ifnonnullN hx hb dX11_partner_60 ?_
                refine lv_aload_n hx hb dX11_partner_63 rfl (lv_at hl 1 rfl) ?_
                refine lv_iconst (v := 1) hx hb dX11_partner_64 (by decide) ?_
                have hPc := hP.sub (ws' := [(xa, (b11_1 x0 (nI x1) x2 (nI x3) x4 x5 x6 x7 x8 x9 x10))]) [0] rfl
                have hDc := hD.sub (ws' := [(xa, (b11_1 x0 (nI x1) x2 (nI x3) x4 x5 x6 x7 x8 x9 x10))]) [0] (by decide) rfl
                have hKc := hK.sub (tys' := []) [] rfl
                have hFc := va_free (wc := [(xa, (b11_1 x0 (nI x1) x2 (nI x3) x4 x5 x6 x7 x8 x9 x10))]) hD hS hA [0] rfl
                refine va_calli (va_runV (As := [.int 1]) (rest := []) ⟨hx, hb, hml, hown, hg⟩ (k_refuse l D H_79.size xa x0 (nI x1) x2 (nI x3) x4 x5 x6 x7 x8 x9 x10 1) (cwV 1 hg (gV wd_344 wd_345 wd_346 wd_3 wd_347) rfl rfl rfl (by decide +kernel) ⟨(Nat.le_trans (Nat.le_of_ble_eq_true rfl) hRf), (Nat.le_trans (Nat.le_of_ble_eq_true rfl) hRl)⟩) ⟨Pr.blind, va_recv hK hP (ci := 11) (q0 := 0) rfl rfl, fun U hU hW => ⟨rfl, Pr.at hPc hKc hDc hN hU hW⟩⟩ rfl rfl hl.1 rfl (lv_room (Nat.le_of_ble_eq_true rfl)) dX11_partner_65 ⟨(Nat.le_trans (Nat.le_of_ble_eq_true rfl) hRc), (Nat.le_trans (Nat.le_of_ble_eq_true rfl) hRs)⟩) hS (fun q _ h => hFc q h) hFc (fun r_86 M_87 t H_85 locs ht hvm hw hB hz1 hk1 hS => ?_)
                have hp_88 := hw
                obtain ⟨hP1, hK1, hD1⟩ := hB
                rw [ht] at hP1
                obtain ⟨hP, hD⟩ := va_joinQ (X := [(xa, (b11_1 x0 (nI x1) x2 (nI x3) x4 x5 x6 x7 x8 x9 x10))]) (cx := [(xa, (b11_1 x0 (nI x1) x2 (nI x3) x4 x5 x6 x7 x8 x9 x10))]) (wr := []) (w1 := [(xa, (b11_1 x0 (nI x1) x2 (nI x3) x4 x5 x6 x7 x8 1 (-1)))]) (pl := va_pl L M) hP hD [0] [] rfl rfl (by decide) (by decide) hk1 hFc hP1 hD1
                have hP : va_P D vwCl ([(xa, (b11_1 x0 (nI x1) x2 (nI x3) x4 x5 x6 x7 x8 1 (-1)))] ++ va_pl L M) H_85 := hP
                have hD : va_D A ([(xa, (b11_1 x0 (nI x1) x2 (nI x3) x4 x5 x6 x7 x8 1 (-1)))] ++ va_pl L M) := hD
                have hq := Eq.symm hp_88
                subst hq
                refine W.widen (k := 1) (n := 4) (Nat.le_of_ble_eq_true rfl) (Nat.le_of_ble_eq_true rfl) ?_
                have hI_89 : (0 : Int) ≤ (k1 : Int32).toInt := inltI rfl rfl c_2
                have hI_90 : (k1 : Int32).toInt < (6 : Int) := iltI rfl rfl c_8
                have hI_91 : (0 : Int) ≤ (k2 : Int32).toInt := inltI rfl rfl c_16
                have hI_92 : (k2 : Int32).toInt ≤ (1000000000 : Int) := ileI rfl rfl c_24
                have hI_93 : (k1 : Int32).toInt = (5 : Int) := ieqI rfl rfl c_25
                have hI_94 : (k1 : Int32).toInt = (5 : Int) := ieqI rfl rfl c_84
                have hnh := hqx.2 rfl
                have hno : ¬ okPa x1 x3 k1 k2 := fun q9 => by unfold okPa at q9; omega
                have hE : cnPa x1 x3 k1 k2 = x3 := by unfold cnPa; rw [if_neg hno]
                have hP : va_P D vwCl ([(xa, (b11_1 x0 (nI x1) x2 (nI (cnPa x1 x3 k1 k2)) x4 x5 x6 x7 x8 1 (-1)))] ++ va_pl L M) H_85 := by rw [hE]; exact hP
                have hD : va_D A ([(xa, (b11_1 x0 (nI x1) x2 (nI (cnPa x1 x3 k1 k2)) x4 x5 x6 x7 x8 1 (-1)))] ++ va_pl L M) := by rw [hE]; exact hD
                rw [hQ]
                exact W.iret (v := (-1)) hx hb hr (fun t ht hW9 => ⟨⟨(-1), (K, L, M), rfl, ⟨hX0, hW, hF, (by unfold anPa; rw [if_neg hno])⟩, ⟨1, (by rw [hE]; unfold pkPa ptPa; rw [if_neg hno, if_neg hno]; exact hC.mono), (by rw [hE]; unfold pkPa ptPa; rw [if_neg hno, if_neg hno]; exact hPX), by rw [ht]; exact hP, hD⟩⟩, hS.F ht⟩) hS.2.2 dX11_partner_68
              · have hb_95 := hp_82 b_83 rfl
                refine lv_goto (tgt := 53) hx hb dX11_partner_49 (by decide) ?_
                refine lv_astore_n (lv' := [(3, .ref b_83), (0, .ref xa), (1, .int k1), (2, .int k2)]) hx hb dX11_partner_53 rfl hl (by decide) rfl (fun ls hl => ?_)
                refine lv_iload_n hx hb dX11_partner_54 rfl (lv_at hl 2 rfl) ?_
                refine lv_iconst (v := 5) hx hb dX11_partner_55 (by decide) ?_
                refine lv_icmp_ne (tgt := 69) hx hb dX11_partner_56 (by decide) (fun c_96 => absurd c_25 c_96) (fun c_96 => ?_)
                refine lv_aload_n hx hb dX11_partner_59 rfl (lv_at hl 0 rfl) ?_
                refine lv_ifnonnull (tgt := 69) hx hb dX11_partner_60 (by decide) ?_
                refine lv_aload_n hx hb dX11_partner_69 rfl (lv_at hl 1 rfl) ?_
                refine va_get (D := D) (ci := 11) (v := .int (nI x3)) (C := RX11) (T := TX11) (N := 11) hx hb hg inG11 hown hK hP 0 rfl rfl 3 (by decide) (hg _ wd_338) (fun _ h9 => h9) rfl dX11_partner_70 ?_
                refine lv_bipush (v := 40) hx hb dX11_partner_73 (by decide) ?_
                refine lv_icmp_lt (tgt := 85) hx hb dX11_partner_75 (by decide) (fun c_97 => ?_) (fun c_97 => ?_)
                · have hz := rfl (a := 0)
                  have n_98 : x3 < 40 := (iLT (a := x3) (b := 40) (by omega) (by omega)).mp c_97
                  refine lv_aload_n hx hb dX11_partner_85 rfl (lv_at hl 1 rfl) ?_
                  refine va_get (D := D) (ci := 11) (v := .ref x2) (C := RX11) (T := TX11) (N := 11) hx hb hg inG11 hown hK hP 0 rfl rfl 2 (by decide) (hg _ wd_339) (fun _ h9 => h9) rfl dX11_partner_86 ?_
                  refine lv_aload_n hx hb dX11_partner_89 rfl (lv_at hl 1 rfl) ?_
                  refine va_get (D := D) (ci := 11) (v := .int (nI x3)) (C := RX11) (T := TX11) (N := 11) hx hb hg inG11 hown hK hP 0 rfl rfl 3 (by decide) (hg _ wd_338) (fun _ h9 => h9) rfl dX11_partner_90 ?_
                  refine va_new (ci := 4) (fs := [.int 0, .int 0, .int 0, .null]) (C := RX4) (T := TX4) (N := 4) hx hb hg inG4 tyX4 tyX4_ok hown (hg _ wd_587) (hg _ wd_588) (hg _ wd_30) hK hP hD hS hA rfl dfX4 (Nat.le_trans (Nat.le_of_ble_eq_true rfl) hRc) (Nat.le_trans (Nat.le_of_ble_eq_true rfl) hRs) dX11_partner_93 (fun q_99 H_100 hP hD hS => ?_)
                  have hP : va_P D vwCl ([(xa, (b11_1 x0 (nI x1) x2 (nI x3) x4 x5 x6 x7 x8 x9 x10)), (q_99, (b4_12 0 0 0))] ++ va_pl L M) H_100 := hP.swap
                  have hD : va_D A ([(xa, (b11_1 x0 (nI x1) x2 (nI x3) x4 x5 x6 x7 x8 x9 x10)), (q_99, (b4_12 0 0 0))] ++ va_pl L M) := hD.swap
                  refine W.widen (k := 1) (n := 4) (Nat.le_of_ble_eq_true rfl) (Nat.le_of_ble_eq_true rfl) ?_
                  refine lv_dup hx hb dX11_partner_96 rfl ?_
                  refine lv_aload_n hx hb dX11_partner_97 rfl (lv_at hl 1 rfl) ?_
                  refine va_get (D := D) (ci := 11) (v := .int (nI x3)) (C := RX11) (T := TX11) (N := 11) hx hb hg inG11 hown hK hP 0 rfl rfl 3 (by decide) (hg _ wd_338) (fun _ h9 => h9) rfl dX11_partner_98 ?_
                  refine lv_iload_n hx hb dX11_partner_101 rfl (lv_at hl 2 rfl) ?_
                  refine lv_iload_n hx hb dX11_partner_102 rfl (lv_at hl 3 rfl) ?_
                  refine lv_aload_n hx hb dX11_partner_103 rfl (lv_at hl 0 rfl) ?_
                  have hPc := hP.sub (ws' := [(q_99, (b4_12 0 0 0))]) [1] rfl
                  have hDc := hD.sub (ws' := [(q_99, (b4_12 0 0 0))]) [1] (by decide) rfl
                  have hKc := hK.sub (tys' := []) [] rfl
                  have hFc := va_free (wc := [(q_99, (b4_12 0 0 0))]) hD hS hA [1] rfl
                  refine va_callv (va_runI (As := [.int (nI x3), .int k1, .int k2, .ref b_83]) (rest := [.ref q_99, .int (nI x3), .ref x2]) ⟨hx, hb, hml, hown, hg⟩ (k_Partner_r l D H_100.size q_99 (nI x3) k1 k2 b_83) (cwI 4 hg (gB wd_589) rfl rfl rfl (hg _ wd_30) (hg _ wd_590) (hg _ wd_591) rfl (by decide +kernel) ⟨(Nat.le_trans (Nat.le_of_ble_eq_true rfl) hRf), (Nat.le_trans (Nat.le_of_ble_eq_true rfl) hRl)⟩) ⟨Pr.blind, fun U hU hW => ⟨rfl, Pr.at hPc hKc hDc hN hU hW⟩⟩ rfl rfl hl.1 rfl (lv_room (Nat.le_of_ble_eq_true rfl)) dX11_partner_104 ⟨(Nat.le_trans (Nat.le_of_ble_eq_true rfl) hRc), (Nat.le_trans (Nat.le_of_ble_eq_true rfl) hRs)⟩) hS (fun q _ h => hFc q h) hFc (fun M_103 t H_101 locs ht hvm hw hB hz1 hk1 hS => ?_)
                  have hp_104 := hw
                  obtain ⟨hP1, hK1, hD1⟩ := hB
                  rw [ht] at hP1
                  obtain ⟨hP, hD⟩ := va_joinQ (X := [(xa, (b11_1 x0 (nI x1) x2 (nI x3) x4 x5 x6 x7 x8 x9 x10)), (q_99, (b4_12 0 0 0))]) (cx := [(q_99, (b4_12 0 0 0))]) (wr := [(xa, (b11_1 x0 (nI x1) x2 (nI x3) x4 x5 x6 x7 x8 x9 x10))]) (w1 := [(q_99, .inr (4, [.int (nI x3), .int k1, .int k2, .ref b_83]))]) (pl := va_pl L M) hP hD [1] [0] rfl rfl (by decide) (by decide) hk1 hFc hP1 hD1
                  have hP : va_P D vwCl ([(xa, (b11_1 x0 (nI x1) x2 (nI x3) x4 x5 x6 x7 x8 x9 x10)), (q_99, .inr (4, [.int (nI x3), .int k1, .int k2, .ref b_83]))] ++ va_pl L M) H_101 := hP
                  have hD : va_D A ([(xa, (b11_1 x0 (nI x1) x2 (nI x3) x4 x5 x6 x7 x8 x9 x10)), (q_99, .inr (4, [.int (nI x3), .int k1, .int k2, .ref b_83]))] ++ va_pl L M) := hD
                  have hP : va_P D vwCl (([(xa, (b11_1 x0 (nI x1) x2 (nI x3) x4 x5 x6 x7 x8 x9 x10))] ++ [(q_99, .inr (4, [.int (nI x3), .int k1, .int k2, .ref b_83]))]) ++ va_pl L M) H_101 := hP.part (cx := [(xa, (b11_1 x0 (nI x1) x2 (nI x3) x4 x5 x6 x7 x8 x9 x10))] ++ [(q_99, .inr (4, [.int (nI x3), .int k1, .int k2, .ref b_83]))]) [0, 1] rfl
                  have hD : va_D A (([(xa, (b11_1 x0 (nI x1) x2 (nI x3) x4 x5 x6 x7 x8 x9 x10))] ++ [(q_99, .inr (4, [.int (nI x3), .int k1, .int k2, .ref b_83]))]) ++ va_pl L M) := hD.part (cx := [(xa, (b11_1 x0 (nI x1) x2 (nI x3) x4 x5 x6 x7 x8 x9 x10))] ++ [(q_99, .inr (4, [.int (nI x3), .int k1, .int k2, .ref b_83]))]) [0, 1] (by decide) rfl
                  obtain ⟨K9, L9, M_105, hx9, i_106, hW, hP, hD, hM_107, hfr9, hq9, hm9⟩ := adoptE2 4 0 hP hD hW (fun K' L' x i => (⟨(nI x3), k1, k2, (some b_83), rfl, iskN.some (hb_95.ext x)⟩ : gd_4 K' L' _))
                  have hn20 : ∀ b, isk K9 L9 b 2 0 → isk K0 L0 b 2 0 := fun b hb => by
                    have h9 : isk K L b 2 0 := (hm9 b hb.1).elim (fun z => absurd (hb.un (show isk K9 L9 b 4 0 by rw [z]; exact i_106)) (by decide)) (fun z => ⟨z, ((hx9 b z).2).symm.trans hb.2⟩)
                    rw [hKe, hLe] at h9
                    exact h9
                  have hn40 : ∀ b, isk K9 L9 b 4 0 → b = q_99 ∨ isk K0 L0 b 4 0 := fun b hb => by
                    rcases hm9 b hb.1 with z | z
                    · exact Or.inl z
                    · have h9 : isk K L b 4 0 := ⟨z, ((hx9 b z).2).symm.trans hb.2⟩
                      rw [hKe, hLe] at h9
                      exact Or.inr h9
                  have hq0q_99 : q_99 ∉ L0 := fun z => hq9 (hX0 _ z).1
                  have hM_108 : M_105 x2 = .inl (cy 19, 40, .inr (.inr (.inr (.inr (f1))))) := (hfr9 _ i2.1).trans hM1
                  have hF : fr K0 L0 [19] M0 M_105 := hF.adX hX0 hfr9
                  have hX0 := hX0.tr hx9
                  have i_109 := i0.ext hx9
                  have i_110 := i2.ext hx9
                  have i_111 := i4.ext hx9
                  have i_112 := i5.ext hx9
                  have i_113 := i6.ext hx9
                  have i_114 := i8.ext hx9
                  have i_115 := hb_95.ext hx9
                  have hf_116 := fun j q => (hf1 j q).ext hx9
                  obtain ⟨K, L, hK9, hL9⟩ : ∃ (K : Kp) (L : List Nat), K = K9 ∧ L = L9 := ⟨_, _, rfl, rfl⟩
                  subst hK9
                  subst hL9
                  have hP : va_P D vwCl ([(xa, (b11_1 x0 (nI x1) x2 (nI x3) x4 x5 x6 x7 x8 x9 x10))] ++ va_pl L M_105) H_101 := hP
                  have hD : va_D A ([(xa, (b11_1 x0 (nI x1) x2 (nI x3) x4 x5 x6 x7 x8 x9 x10))] ++ va_pl L M_105) := hD
                  refine pg_astq (r := (RX4, TX4, 4)) hx hb hK hP hD hS i_110.1 5 4 hM_108 rfl i_106.1 hM_107 rfl (inbN x3 40 (by omega) (by omega)) dX11_partner_107 (fun H_117 locs hP hD hS => ?_)
                  obtain ⟨M_118, eM_118⟩ : ∃ M1 : Hp, M1 = va_up M_105 x2 (.inl (cy 19, 40, .inr (.inr (.inr (.inr (va_up f1 ((nI x3) : Int32).toNatClampNeg (some q_99))))))) := ⟨_, rfl⟩
                  have hP : va_P D vwCl ([(xa, (b11_1 x0 (nI x1) x2 (nI x3) x4 x5 x6 x7 x8 x9 x10))] ++ va_pl L M_118) H_117 := by rw [eM_118]; exact hP
                  have hD : va_D A ([(xa, (b11_1 x0 (nI x1) x2 (nI x3) x4 x5 x6 x7 x8 x9 x10))] ++ va_pl L M_118) := by rw [eM_118]; exact hD
                  have hW : WOK cy K L M_118 := by rw [eM_118]; exact hW.up_19 i_110 ⟨_, rfl, (upN hf_116 i_106)⟩
                  have hF : fr K0 L0 [19] M0 M_118 := by rw [eM_118]; exact hF.upX hX0 i_110 (by decide)
                  have hM_119 : M_118 x2 = .inl (cy 19, 40, .inr (.inr (.inr (.inr (va_up f1 ((nI x3) : Int32).toNatClampNeg (some q_99)))))) := by rw [eM_118]; exact va_up_self _ _ _
                  have hM_120 : M_118 q_99 = .inr (4, [.int (nI x3), .int k1, .int k2, va_rf (some b_83)]) := by rw [eM_118, va_up_ne _ _ (i_106.neT i_110 (by decide))]; exact hM_107
                  have hf_122 : ∀ j, j < 40 → iskN K L ((va_up f1 ((nI x3) : Int32).toNatClampNeg (some q_99)) j) 4 0 := (upN hf_116 i_106)
                  obtain ⟨f_121, ef_121⟩ : ∃ f : Nat → Option Nat, f = va_up f1 ((nI x3) : Int32).toNatClampNeg (some q_99) := ⟨_, rfl⟩
                  rw [← ef_121] at hM_119 hf_122
                  have hk_123 : f_121 ((nI x3) : Int32).toNatClampNeg = some q_99 := by rw [ef_121]; exact va_up_self _ _ _
                  refine lv_aload_n hx hb dX11_partner_108 rfl (lv_at hl 1 rfl) ?_
                  refine lv_dup hx hb dX11_partner_109 rfl ?_
                  refine va_get (D := D) (ci := 11) (v := .int (nI x3)) (C := RX11) (T := TX11) (N := 11) hx hb hg inG11 hown hK hP 0 rfl rfl 3 (by decide) (hg _ wd_338) (fun _ h9 => h9) rfl dX11_partner_110 ?_
                  refine lv_iconst (v := 1) hx hb dX11_partner_113 (by decide) ?_
                  refine lv_iadd hx hb dX11_partner_114 ?_
                  refine lv_topi (fun f_124 ef_124 => ?_)
                  obtain rfl : f_124 = (nI (x3 + 1)) := ef_124.trans (nI_add x3 1)
                  refine va_put (D := D) (ci := 11) (v := .int (nI (x3 + 1))) (ty := .int) (C := RX11) (T := TX11) (N := 11) hx hb hg inG11 tyX11 tyX11_ok nmX11 hown hK hP hD hS 0 rfl rfl 3 (by decide) (hg _ wd_338) (fun _ h9 => h9) rfl (by decide +kernel) rfl rfl (Nat.le_of_ble_eq_true rfl) dX11_partner_115 (fun H_125 locs hP hD hS => ?_)
                  have hP : va_P D vwCl ([(xa, (b11_1 x0 (nI x1) x2 (nI (x3 + 1)) x4 x5 x6 x7 x8 x9 x10))] ++ va_pl L M_118) H_125 := hP
                  have hD : va_D A ([(xa, (b11_1 x0 (nI x1) x2 (nI (x3 + 1)) x4 x5 x6 x7 x8 x9 x10))] ++ va_pl L M_118) := hD
                  refine lv_aload_n hx hb dX11_partner_118 rfl (lv_at hl 1 rfl) ?_
                  refine lv_aload_n hx hb dX11_partner_119 rfl (lv_at hl 1 rfl) ?_
                  refine va_get (D := D) (ci := 11) (v := .int (nI (x3 + 1))) (C := RX11) (T := TX11) (N := 11) hx hb hg inG11 hown hK hP 0 rfl rfl 3 (by decide) (hg _ wd_338) (fun _ h9 => h9) rfl dX11_partner_120 ?_
                  refine lv_iconst (v := 1) hx hb dX11_partner_123 (by decide) ?_
                  refine lv_isub hx hb dX11_partner_124 ?_
                  refine lv_topi (fun f_126 ef_126 => ?_)
                  obtain rfl : f_126 = (nI ((x3 + 1) - 1)) := ef_126.trans (nI_prd (by omega))
                  have hPc := hP.sub (ws' := [(xa, (b11_1 x0 (nI x1) x2 (nI (x3 + 1)) x4 x5 x6 x7 x8 x9 x10))]) [0] rfl
                  have hDc := hD.sub (ws' := [(xa, (b11_1 x0 (nI x1) x2 (nI (x3 + 1)) x4 x5 x6 x7 x8 x9 x10))]) [0] (by decide) rfl
                  have hKc := hK.sub (tys' := []) [] rfl
                  have hFc := va_free (wc := [(xa, (b11_1 x0 (nI x1) x2 (nI (x3 + 1)) x4 x5 x6 x7 x8 x9 x10))]) hD hS hA [0] rfl
                  refine va_calli (va_runV (As := [.int (nI ((x3 + 1) - 1))]) (rest := []) ⟨hx, hb, hml, hown, hg⟩ (k_accept l D H_125.size xa x0 (nI x1) x2 (nI (x3 + 1)) x4 x5 x6 x7 x8 x9 x10 (nI ((x3 + 1) - 1))) (cwV 1 hg (gV wd_356 wd_357 wd_358 wd_3 wd_359) rfl rfl rfl (by decide +kernel) ⟨(Nat.le_trans (Nat.le_of_ble_eq_true rfl) hRf), (Nat.le_trans (Nat.le_of_ble_eq_true rfl) hRl)⟩) ⟨Pr.blind, va_recv hK hP (ci := 11) (q0 := 0) rfl rfl, fun U hU hW => ⟨rfl, Pr.at hPc hKc hDc hN hU hW⟩⟩ rfl rfl hl.1 rfl (lv_room (Nat.le_of_ble_eq_true rfl)) dX11_partner_125 ⟨(Nat.le_trans (Nat.le_of_ble_eq_true rfl) hRc), (Nat.le_trans (Nat.le_of_ble_eq_true rfl) hRs)⟩) hS (fun q _ h => hFc q h) hFc (fun r_128 M_129 t H_127 locs ht hvm hw hB hz1 hk1 hS => ?_)
                  have hp_130 := hw
                  obtain ⟨hP1, hK1, hD1⟩ := hB
                  rw [ht] at hP1
                  obtain ⟨hP, hD⟩ := va_joinQ (X := [(xa, (b11_1 x0 (nI x1) x2 (nI (x3 + 1)) x4 x5 x6 x7 x8 x9 x10))]) (cx := [(xa, (b11_1 x0 (nI x1) x2 (nI (x3 + 1)) x4 x5 x6 x7 x8 x9 x10))]) (wr := []) (w1 := [(xa, (b11_1 x0 (nI x1) x2 (nI (x3 + 1)) x4 x5 x6 x7 x8 0 (-1)))]) (pl := va_pl L M_118) hP hD [0] [] rfl rfl (by decide) (by decide) hk1 hFc hP1 hD1
                  have hP : va_P D vwCl ([(xa, (b11_1 x0 (nI x1) x2 (nI (x3 + 1)) x4 x5 x6 x7 x8 0 (-1)))] ++ va_pl L M_118) H_127 := hP
                  have hD : va_D A ([(xa, (b11_1 x0 (nI x1) x2 (nI (x3 + 1)) x4 x5 x6 x7 x8 0 (-1)))] ++ va_pl L M_118) := hD
                  have hq := Eq.symm hp_130
                  subst hq
                  have hI_131 : (0 : Int) ≤ (k1 : Int32).toInt := inltI rfl rfl c_2
                  have hI_132 : (k1 : Int32).toInt < (6 : Int) := iltI rfl rfl c_8
                  have hI_133 : (0 : Int) ≤ (k2 : Int32).toInt := inltI rfl rfl c_16
                  have hI_134 : (k2 : Int32).toInt ≤ (1000000000 : Int) := ileI rfl rfl c_24
                  have hI_135 : (k1 : Int32).toInt = (5 : Int) := ieqI rfl rfl c_25
                  have hI_136 : (k1 : Int32).toInt = (5 : Int) := ieqI rfl rfl c_96
                  have hI_137 : ((x3 : Nat) : Int) < (40 : Int) := iltI (nI_toInt (by omega)) rfl c_97
                  obtain ⟨hr9, hb9⟩ := hqx.1 b_83 rfl
                  have hck : ((k2 : Int32).toNatClampNeg : Int) = (k2 : Int32).toInt := clT (by omega)
                  have hyes : okPa x1 x3 k1 k2 := by unfold okPa; refine ⟨?_, ?_, ?_, ?_, ?_⟩ <;> omega
                  have hE : cnPa x1 x3 k1 k2 = (x3 + 1) := by unfold cnPa; rw [if_pos hyes]
                  have hP : va_P D vwCl ([(xa, (b11_1 x0 (nI x1) x2 (nI (cnPa x1 x3 k1 k2)) x4 x5 x6 x7 x8 0 (-1)))] ++ va_pl L M_118) H_127 := by rw [hE]; exact hP
                  have hD : va_D A ([(xa, (b11_1 x0 (nI x1) x2 (nI (cnPa x1 x3 k1 k2)) x4 x5 x6 x7 x8 0 (-1)))] ++ va_pl L M_118) := by rw [hE]; exact hD
                  have h29 : RFc (M_118 x2) = va_up (RFc (M0 x2)) x3 (some q_99) := by rw [RFc_of hM_119, ef_121, nI_cl (by omega), RFc_of hM0z]
                  have hb90 : RFc (M0 x0) k2.toNatClampNeg = some b_83 := by rw [← hMe]; exact hb9
                  have hp9 : ∀ q, isk K L q 4 0 → ∀ b, cR 4 M_118 q 3 = some b → ∃ j, j < x1 ∧ RFc (M0 x0) j = some b := fun q iq b hb => by
                    rcases hn40 q iq with z | i4
                    · rw [z, cR_q (q := (some b_83)) hM_120 rfl] at hb
                      cases hb
                      exact ⟨k2.toNatClampNeg, by omega, hb90⟩
                    · rw [cR_eq (hF.at i4 (by decide))] at hb
                      exact hC00.ph q i4 b hb
                  rw [hQ]
                  exact W.iret (v := (nI ((x3 + 1) - 1))) hx hb hr (fun t ht hW9 => ⟨⟨(nI ((x3 + 1) - 1)), (K, L, M_118), rfl, ⟨hX0, hW, hF, (by unfold anPa; rw [if_pos hyes, Nat.add_sub_cancel])⟩, ⟨0, (by rw [hE]; unfold pkPa ptPa; rw [if_pos hyes, if_pos hyes]; exact CX.gen hC00 hW00 i000 b1 (SAME.fr (fr.cv hF (by decide)) (fr.cv hF (by decide)) (fr.cv hF (by decide)) (fr.cv hF (by decide)) (fr.cv hF (by decide)) (fr.cv hF (by decide)) (fr.cv hF (by decide)) hF (by decide)) hX0 hn20 (congrArg RFc (hF.at i000 (by decide))) hp9 (fun _ _ _ g => g.part)), (by rw [hE]; unfold pkPa ptPa; rw [if_pos hyes, if_pos hyes]; exact PX.part hPX00 hW00 i000 i200 (by omega) hF h29 hM_120 (Or.inl ⟨c_25, by omega, by omega, b_83, rfl, hb90⟩)), by rw [ht]; exact hP, hD⟩⟩, hS.F ht⟩) hS.2.2 dX11_partner_128
                · have hz := rfl (a := 0)
                  have n_138 : ¬ (x3 < 40) := fun q => c_97 ((iLT (a := x3) (b := 40) (by omega) (by omega)).mpr q)
                  refine lv_aload_n hx hb dX11_partner_78 rfl (lv_at hl 1 rfl) ?_
                  refine lv_bipush (v := 9) hx hb dX11_partner_79 (by decide) ?_
                  have hPc := hP.sub (ws' := [(xa, (b11_1 x0 (nI x1) x2 (nI x3) x4 x5 x6 x7 x8 x9 x10))]) [0] rfl
                  have hDc := hD.sub (ws' := [(xa, (b11_1 x0 (nI x1) x2 (nI x3) x4 x5 x6 x7 x8 x9 x10))]) [0] (by decide) rfl
                  have hKc := hK.sub (tys' := []) [] rfl
                  have hFc := va_free (wc := [(xa, (b11_1 x0 (nI x1) x2 (nI x3) x4 x5 x6 x7 x8 x9 x10))]) hD hS hA [0] rfl
                  refine va_calli (va_runV (As := [.int 9]) (rest := []) ⟨hx, hb, hml, hown, hg⟩ (k_refuse l D H_79.size xa x0 (nI x1) x2 (nI x3) x4 x5 x6 x7 x8 x9 x10 9) (cwV 1 hg (gV wd_344 wd_345 wd_346 wd_3 wd_347) rfl rfl rfl (by decide +kernel) ⟨(Nat.le_trans (Nat.le_of_ble_eq_true rfl) hRf), (Nat.le_trans (Nat.le_of_ble_eq_true rfl) hRl)⟩) ⟨Pr.blind, va_recv hK hP (ci := 11) (q0 := 0) rfl rfl, fun U hU hW => ⟨rfl, Pr.at hPc hKc hDc hN hU hW⟩⟩ rfl rfl hl.1 rfl (lv_room (Nat.le_of_ble_eq_true rfl)) dX11_partner_81 ⟨(Nat.le_trans (Nat.le_of_ble_eq_true rfl) hRc), (Nat.le_trans (Nat.le_of_ble_eq_true rfl) hRs)⟩) hS (fun q _ h => hFc q h) hFc (fun r_140 M_141 t H_139 locs ht hvm hw hB hz1 hk1 hS => ?_)
                  have hp_142 := hw
                  obtain ⟨hP1, hK1, hD1⟩ := hB
                  rw [ht] at hP1
                  obtain ⟨hP, hD⟩ := va_joinQ (X := [(xa, (b11_1 x0 (nI x1) x2 (nI x3) x4 x5 x6 x7 x8 x9 x10))]) (cx := [(xa, (b11_1 x0 (nI x1) x2 (nI x3) x4 x5 x6 x7 x8 x9 x10))]) (wr := []) (w1 := [(xa, (b11_1 x0 (nI x1) x2 (nI x3) x4 x5 x6 x7 x8 9 (-1)))]) (pl := va_pl L M) hP hD [0] [] rfl rfl (by decide) (by decide) hk1 hFc hP1 hD1
                  have hP : va_P D vwCl ([(xa, (b11_1 x0 (nI x1) x2 (nI x3) x4 x5 x6 x7 x8 9 (-1)))] ++ va_pl L M) H_139 := hP
                  have hD : va_D A ([(xa, (b11_1 x0 (nI x1) x2 (nI x3) x4 x5 x6 x7 x8 9 (-1)))] ++ va_pl L M) := hD
                  have hq := Eq.symm hp_142
                  subst hq
                  refine W.widen (k := 1) (n := 4) (Nat.le_of_ble_eq_true rfl) (Nat.le_of_ble_eq_true rfl) ?_
                  have hI_143 : (0 : Int) ≤ (k1 : Int32).toInt := inltI rfl rfl c_2
                  have hI_144 : (k1 : Int32).toInt < (6 : Int) := iltI rfl rfl c_8
                  have hI_145 : (0 : Int) ≤ (k2 : Int32).toInt := inltI rfl rfl c_16
                  have hI_146 : (k2 : Int32).toInt ≤ (1000000000 : Int) := ileI rfl rfl c_24
                  have hI_147 : (k1 : Int32).toInt = (5 : Int) := ieqI rfl rfl c_25
                  have hI_148 : (k1 : Int32).toInt = (5 : Int) := ieqI rfl rfl c_96
                  have hI_149 : (40 : Int) ≤ ((x3 : Nat) : Int) := inltI (nI_toInt (by omega)) rfl c_97
                  obtain ⟨hr9, hb9⟩ := hqx.1 b_83 rfl
                  have hck : ((k2 : Int32).toNatClampNeg : Int) = (k2 : Int32).toInt := clT (by omega)
                  have hno : ¬ okPa x1 x3 k1 k2 := fun q9 => by unfold okPa at q9; omega
                  have hE : cnPa x1 x3 k1 k2 = x3 := by unfold cnPa; rw [if_neg hno]
                  have hP : va_P D vwCl ([(xa, (b11_1 x0 (nI x1) x2 (nI (cnPa x1 x3 k1 k2)) x4 x5 x6 x7 x8 9 (-1)))] ++ va_pl L M) H_139 := by rw [hE]; exact hP
                  have hD : va_D A ([(xa, (b11_1 x0 (nI x1) x2 (nI (cnPa x1 x3 k1 k2)) x4 x5 x6 x7 x8 9 (-1)))] ++ va_pl L M) := by rw [hE]; exact hD
                  rw [hQ]
                  exact W.iret (v := (-1)) hx hb hr (fun t ht hW9 => ⟨⟨(-1), (K, L, M), rfl, ⟨hX0, hW, hF, (by unfold anPa; rw [if_neg hno])⟩, ⟨9, (by rw [hE]; unfold pkPa ptPa; rw [if_neg hno, if_neg hno]; exact hC.mono), (by rw [hE]; unfold pkPa ptPa; rw [if_neg hno, if_neg hno]; exact hPX), by rw [ht]; exact hP, hD⟩⟩, hS.F ht⟩) hS.2.2 dX11_partner_84
          · have hz := rfl (a := 0)
            refine lv_aload_n hx hb dX11_partner_33 rfl (lv_at hl 0 rfl) ?_
            refine lv_iconst (v := 2) hx hb dX11_partner_34 (by decide) ?_
            have hPc := hP.sub (ws' := [(xa, (b11_1 x0 (nI x1) x2 (nI x3) x4 x5 x6 x7 x8 x9 x10))]) [0] rfl
            have hDc := hD.sub (ws' := [(xa, (b11_1 x0 (nI x1) x2 (nI x3) x4 x5 x6 x7 x8 x9 x10))]) [0] (by decide) rfl
            have hKc := hK.sub (tys' := []) [] rfl
            have hFc := va_free (wc := [(xa, (b11_1 x0 (nI x1) x2 (nI x3) x4 x5 x6 x7 x8 x9 x10))]) hD hS hA [0] rfl
            refine va_calli (va_runV (As := [.int 2]) (rest := []) ⟨hx, hb, hml, hown, hg⟩ (k_refuse l D H_9.size xa x0 (nI x1) x2 (nI x3) x4 x5 x6 x7 x8 x9 x10 2) (cwV 1 hg (gV wd_344 wd_345 wd_346 wd_3 wd_347) rfl rfl rfl (by decide +kernel) ⟨(Nat.le_trans (Nat.le_of_ble_eq_true rfl) hRf), (Nat.le_trans (Nat.le_of_ble_eq_true rfl) hRl)⟩) ⟨Pr.blind, va_recv hK hP (ci := 11) (q0 := 0) rfl rfl, fun U hU hW => ⟨rfl, Pr.at hPc hKc hDc hN hU hW⟩⟩ rfl rfl hl.1 rfl (lv_room (Nat.le_of_ble_eq_true rfl)) dX11_partner_35 ⟨(Nat.le_trans (Nat.le_of_ble_eq_true rfl) hRc), (Nat.le_trans (Nat.le_of_ble_eq_true rfl) hRs)⟩) hS (fun q _ h => hFc q h) hFc (fun r_151 M_152 t H_150 locs ht hvm hw hB hz1 hk1 hS => ?_)
            have hp_153 := hw
            obtain ⟨hP1, hK1, hD1⟩ := hB
            rw [ht] at hP1
            obtain ⟨hP, hD⟩ := va_joinQ (X := [(xa, (b11_1 x0 (nI x1) x2 (nI x3) x4 x5 x6 x7 x8 x9 x10))]) (cx := [(xa, (b11_1 x0 (nI x1) x2 (nI x3) x4 x5 x6 x7 x8 x9 x10))]) (wr := []) (w1 := [(xa, (b11_1 x0 (nI x1) x2 (nI x3) x4 x5 x6 x7 x8 2 (-1)))]) (pl := va_pl L M) hP hD [0] [] rfl rfl (by decide) (by decide) hk1 hFc hP1 hD1
            have hP : va_P D vwCl ([(xa, (b11_1 x0 (nI x1) x2 (nI x3) x4 x5 x6 x7 x8 2 (-1)))] ++ va_pl L M) H_150 := hP
            have hD : va_D A ([(xa, (b11_1 x0 (nI x1) x2 (nI x3) x4 x5 x6 x7 x8 2 (-1)))] ++ va_pl L M) := hD
            have hq := Eq.symm hp_153
            subst hq
            refine W.widen (k := 1) (n := 4) (Nat.le_of_ble_eq_true rfl) (Nat.le_of_ble_eq_true rfl) ?_
            have hI_154 : (0 : Int) ≤ (k1 : Int32).toInt := inltI rfl rfl c_2
            have hI_155 : (k1 : Int32).toInt < (6 : Int) := iltI rfl rfl c_8
            have hI_156 : (0 : Int) ≤ (k2 : Int32).toInt := inltI rfl rfl c_16
            have hI_157 : (1000000000 : Int) < (k2 : Int32).toInt := inleI rfl rfl c_24
            have hno : ¬ okPa x1 x3 k1 k2 := fun q9 => by unfold okPa at q9; omega
            have hE : cnPa x1 x3 k1 k2 = x3 := by unfold cnPa; rw [if_neg hno]
            have hP : va_P D vwCl ([(xa, (b11_1 x0 (nI x1) x2 (nI (cnPa x1 x3 k1 k2)) x4 x5 x6 x7 x8 2 (-1)))] ++ va_pl L M) H_150 := by rw [hE]; exact hP
            have hD : va_D A ([(xa, (b11_1 x0 (nI x1) x2 (nI (cnPa x1 x3 k1 k2)) x4 x5 x6 x7 x8 2 (-1)))] ++ va_pl L M) := by rw [hE]; exact hD
            rw [hQ]
            exact W.iret (v := (-1)) hx hb hr (fun t ht hW9 => ⟨⟨(-1), (K, L, M), rfl, ⟨hX0, hW, hF, (by unfold anPa; rw [if_neg hno])⟩, ⟨2, (by rw [hE]; unfold pkPa ptPa; rw [if_neg hno, if_neg hno]; exact hC.mono), (by rw [hE]; unfold pkPa ptPa; rw [if_neg hno, if_neg hno]; exact hPX), by rw [ht]; exact hP, hD⟩⟩, hS.F ht⟩) hS.2.2 dX11_partner_38
      · have hz := rfl (a := 0)
        refine lv_if_eq (tgt := 39) hx hb dX11_partner_20 (by decide) (fun _ => ?_) (fun c_158 => absurd c_158 (by decide))
        refine lv_iload_n hx hb dX11_partner_39 rfl (lv_at hl 1 rfl) ?_
        refine lv_iconst (v := 5) hx hb dX11_partner_40 (by decide) ?_
        refine lv_icmp_ne (tgt := 52) hx hb dX11_partner_41 (by decide) (fun c_159 => ?_) (fun c_159 => ?_)
        · have hz := rfl (a := 0)
          refine lv_null hx hb dX11_partner_52 ?_
          refine lv_astore_nN (lv' := [(3, .null), (0, .ref xa), (1, .int k1), (2, .int k2)]) hx hb dX11_partner_53 rfl hl (by decide) rfl (fun ls hl => ?_)
          refine lv_iload_n hx hb dX11_partner_54 rfl (lv_at hl 2 rfl) ?_
          refine lv_iconst (v := 5) hx hb dX11_partner_55 (by decide) ?_
          refine lv_icmp_ne (tgt := 69) hx hb dX11_partner_56 (by decide) (fun c_160 => ?_) (fun c_160 => absurd c_160 c_159)
          refine lv_aload_n hx hb dX11_partner_69 rfl (lv_at hl 1 rfl) ?_
          refine va_get (D := D) (ci := 11) (v := .int (nI x3)) (C := RX11) (T := TX11) (N := 11) hx hb hg inG11 hown hK hP 0 rfl rfl 3 (by decide) (hg _ wd_338) (fun _ h9 => h9) rfl dX11_partner_70 ?_
          refine lv_bipush (v := 40) hx hb dX11_partner_73 (by decide) ?_
          refine lv_icmp_lt (tgt := 85) hx hb dX11_partner_75 (by decide) (fun c_161 => ?_) (fun c_161 => ?_)
          · have hz := rfl (a := 0)
            have n_162 : x3 < 40 := (iLT (a := x3) (b := 40) (by omega) (by omega)).mp c_161
            refine lv_aload_n hx hb dX11_partner_85 rfl (lv_at hl 1 rfl) ?_
            refine va_get (D := D) (ci := 11) (v := .ref x2) (C := RX11) (T := TX11) (N := 11) hx hb hg inG11 hown hK hP 0 rfl rfl 2 (by decide) (hg _ wd_339) (fun _ h9 => h9) rfl dX11_partner_86 ?_
            refine lv_aload_n hx hb dX11_partner_89 rfl (lv_at hl 1 rfl) ?_
            refine va_get (D := D) (ci := 11) (v := .int (nI x3)) (C := RX11) (T := TX11) (N := 11) hx hb hg inG11 hown hK hP 0 rfl rfl 3 (by decide) (hg _ wd_338) (fun _ h9 => h9) rfl dX11_partner_90 ?_
            refine va_new (ci := 4) (fs := [.int 0, .int 0, .int 0, .null]) (C := RX4) (T := TX4) (N := 4) hx hb hg inG4 tyX4 tyX4_ok hown (hg _ wd_587) (hg _ wd_588) (hg _ wd_30) hK hP hD hS hA rfl dfX4 (Nat.le_trans (Nat.le_of_ble_eq_true rfl) hRc) (Nat.le_trans (Nat.le_of_ble_eq_true rfl) hRs) dX11_partner_93 (fun q_163 H_164 hP hD hS => ?_)
            have hP : va_P D vwCl ([(xa, (b11_1 x0 (nI x1) x2 (nI x3) x4 x5 x6 x7 x8 x9 x10)), (q_163, (b4_12 0 0 0))] ++ va_pl L M) H_164 := hP.swap
            have hD : va_D A ([(xa, (b11_1 x0 (nI x1) x2 (nI x3) x4 x5 x6 x7 x8 x9 x10)), (q_163, (b4_12 0 0 0))] ++ va_pl L M) := hD.swap
            refine W.widen (k := 1) (n := 4) (Nat.le_of_ble_eq_true rfl) (Nat.le_of_ble_eq_true rfl) ?_
            refine lv_dup hx hb dX11_partner_96 rfl ?_
            refine lv_aload_n hx hb dX11_partner_97 rfl (lv_at hl 1 rfl) ?_
            refine va_get (D := D) (ci := 11) (v := .int (nI x3)) (C := RX11) (T := TX11) (N := 11) hx hb hg inG11 hown hK hP 0 rfl rfl 3 (by decide) (hg _ wd_338) (fun _ h9 => h9) rfl dX11_partner_98 ?_
            refine lv_iload_n hx hb dX11_partner_101 rfl (lv_at hl 2 rfl) ?_
            refine lv_iload_n hx hb dX11_partner_102 rfl (lv_at hl 3 rfl) ?_
            refine lv_aload_nN hx hb dX11_partner_103 rfl (lv_at hl 0 rfl) ?_
            have hPc := hP.sub (ws' := [(q_163, (b4_12 0 0 0))]) [1] rfl
            have hDc := hD.sub (ws' := [(q_163, (b4_12 0 0 0))]) [1] (by decide) rfl
            have hKc := hK.sub (tys' := []) [] rfl
            have hFc := va_free (wc := [(q_163, (b4_12 0 0 0))]) hD hS hA [1] rfl
            refine va_callv (va_runI (As := [.int (nI x3), .int k1, .int k2, .null]) (rest := [.ref q_163, .int (nI x3), .ref x2]) ⟨hx, hb, hml, hown, hg⟩ (k_Partner_n l D H_164.size q_163 (nI x3) k1 k2) (cwI 4 hg (gB wd_589) rfl rfl rfl (hg _ wd_30) (hg _ wd_590) (hg _ wd_591) rfl (by decide +kernel) ⟨(Nat.le_trans (Nat.le_of_ble_eq_true rfl) hRf), (Nat.le_trans (Nat.le_of_ble_eq_true rfl) hRl)⟩) ⟨Pr.blind, fun U hU hW => ⟨rfl, Pr.at hPc hKc hDc hN hU hW⟩⟩ rfl rfl hl.1 rfl (lv_room (Nat.le_of_ble_eq_true rfl)) dX11_partner_104 ⟨(Nat.le_trans (Nat.le_of_ble_eq_true rfl) hRc), (Nat.le_trans (Nat.le_of_ble_eq_true rfl) hRs)⟩) hS (fun q _ h => hFc q h) hFc (fun M_167 t H_165 locs ht hvm hw hB hz1 hk1 hS => ?_)
            have hp_168 := hw
            obtain ⟨hP1, hK1, hD1⟩ := hB
            rw [ht] at hP1
            obtain ⟨hP, hD⟩ := va_joinQ (X := [(xa, (b11_1 x0 (nI x1) x2 (nI x3) x4 x5 x6 x7 x8 x9 x10)), (q_163, (b4_12 0 0 0))]) (cx := [(q_163, (b4_12 0 0 0))]) (wr := [(xa, (b11_1 x0 (nI x1) x2 (nI x3) x4 x5 x6 x7 x8 x9 x10))]) (w1 := [(q_163, (b4_12 (nI x3) k1 k2))]) (pl := va_pl L M) hP hD [1] [0] rfl rfl (by decide) (by decide) hk1 hFc hP1 hD1
            have hP : va_P D vwCl ([(xa, (b11_1 x0 (nI x1) x2 (nI x3) x4 x5 x6 x7 x8 x9 x10)), (q_163, (b4_12 (nI x3) k1 k2))] ++ va_pl L M) H_165 := hP
            have hD : va_D A ([(xa, (b11_1 x0 (nI x1) x2 (nI x3) x4 x5 x6 x7 x8 x9 x10)), (q_163, (b4_12 (nI x3) k1 k2))] ++ va_pl L M) := hD
            have hP : va_P D vwCl (([(xa, (b11_1 x0 (nI x1) x2 (nI x3) x4 x5 x6 x7 x8 x9 x10))] ++ [(q_163, (b4_12 (nI x3) k1 k2))]) ++ va_pl L M) H_165 := hP.part (cx := [(xa, (b11_1 x0 (nI x1) x2 (nI x3) x4 x5 x6 x7 x8 x9 x10))] ++ [(q_163, (b4_12 (nI x3) k1 k2))]) [0, 1] rfl
            have hD : va_D A (([(xa, (b11_1 x0 (nI x1) x2 (nI x3) x4 x5 x6 x7 x8 x9 x10))] ++ [(q_163, (b4_12 (nI x3) k1 k2))]) ++ va_pl L M) := hD.part (cx := [(xa, (b11_1 x0 (nI x1) x2 (nI x3) x4 x5 x6 x7 x8 x9 x10))] ++ [(q_163, (b4_12 (nI x3) k1 k2))]) [0, 1] (by decide) rfl
            obtain ⟨K9, L9, M_169, hx9, i_170, hW, hP, hD, hM_171, hfr9, hq9, hm9⟩ := adoptE2 4 0 hP hD hW (fun K' L' x i => (⟨(nI x3), k1, k2, none, rfl, iskN.none⟩ : gd_4 K' L' _))
            have hn20 : ∀ b, isk K9 L9 b 2 0 → isk K0 L0 b 2 0 := fun b hb => by
              have h9 : isk K L b 2 0 := (hm9 b hb.1).elim (fun z => absurd (hb.un (show isk K9 L9 b 4 0 by rw [z]; exact i_170)) (by decide)) (fun z => ⟨z, ((hx9 b z).2).symm.trans hb.2⟩)
              rw [hKe, hLe] at h9
              exact h9
            have hn40 : ∀ b, isk K9 L9 b 4 0 → b = q_163 ∨ isk K0 L0 b 4 0 := fun b hb => by
              rcases hm9 b hb.1 with z | z
              · exact Or.inl z
              · have h9 : isk K L b 4 0 := ⟨z, ((hx9 b z).2).symm.trans hb.2⟩
                rw [hKe, hLe] at h9
                exact Or.inr h9
            have hq0q_163 : q_163 ∉ L0 := fun z => hq9 (hX0 _ z).1
            have hM_172 : M_169 x2 = .inl (cy 19, 40, .inr (.inr (.inr (.inr (f1))))) := (hfr9 _ i2.1).trans hM1
            have hF : fr K0 L0 [19] M0 M_169 := hF.adX hX0 hfr9
            have hX0 := hX0.tr hx9
            have i_173 := i0.ext hx9
            have i_174 := i2.ext hx9
            have i_175 := i4.ext hx9
            have i_176 := i5.ext hx9
            have i_177 := i6.ext hx9
            have i_178 := i8.ext hx9
            have hf_179 := fun j q => (hf1 j q).ext hx9
            obtain ⟨K, L, hK9, hL9⟩ : ∃ (K : Kp) (L : List Nat), K = K9 ∧ L = L9 := ⟨_, _, rfl, rfl⟩
            subst hK9
            subst hL9
            have hP : va_P D vwCl ([(xa, (b11_1 x0 (nI x1) x2 (nI x3) x4 x5 x6 x7 x8 x9 x10))] ++ va_pl L M_169) H_165 := hP
            have hD : va_D A ([(xa, (b11_1 x0 (nI x1) x2 (nI x3) x4 x5 x6 x7 x8 x9 x10))] ++ va_pl L M_169) := hD
            refine pg_astq (r := (RX4, TX4, 4)) hx hb hK hP hD hS i_174.1 5 4 hM_172 rfl i_170.1 hM_171 rfl (inbN x3 40 (by omega) (by omega)) dX11_partner_107 (fun H_180 locs hP hD hS => ?_)
            obtain ⟨M_181, eM_181⟩ : ∃ M1 : Hp, M1 = va_up M_169 x2 (.inl (cy 19, 40, .inr (.inr (.inr (.inr (va_up f1 ((nI x3) : Int32).toNatClampNeg (some q_163))))))) := ⟨_, rfl⟩
            have hP : va_P D vwCl ([(xa, (b11_1 x0 (nI x1) x2 (nI x3) x4 x5 x6 x7 x8 x9 x10))] ++ va_pl L M_181) H_180 := by rw [eM_181]; exact hP
            have hD : va_D A ([(xa, (b11_1 x0 (nI x1) x2 (nI x3) x4 x5 x6 x7 x8 x9 x10))] ++ va_pl L M_181) := by rw [eM_181]; exact hD
            have hW : WOK cy K L M_181 := by rw [eM_181]; exact hW.up_19 i_174 ⟨_, rfl, (upN hf_179 i_170)⟩
            have hF : fr K0 L0 [19] M0 M_181 := by rw [eM_181]; exact hF.upX hX0 i_174 (by decide)
            have hM_182 : M_181 x2 = .inl (cy 19, 40, .inr (.inr (.inr (.inr (va_up f1 ((nI x3) : Int32).toNatClampNeg (some q_163)))))) := by rw [eM_181]; exact va_up_self _ _ _
            have hM_183 : M_181 q_163 = .inr (4, [.int (nI x3), .int k1, .int k2, va_rf none]) := by rw [eM_181, va_up_ne _ _ (i_170.neT i_174 (by decide))]; exact hM_171
            have hf_185 : ∀ j, j < 40 → iskN K L ((va_up f1 ((nI x3) : Int32).toNatClampNeg (some q_163)) j) 4 0 := (upN hf_179 i_170)
            obtain ⟨f_184, ef_184⟩ : ∃ f : Nat → Option Nat, f = va_up f1 ((nI x3) : Int32).toNatClampNeg (some q_163) := ⟨_, rfl⟩
            rw [← ef_184] at hM_182 hf_185
            have hk_186 : f_184 ((nI x3) : Int32).toNatClampNeg = some q_163 := by rw [ef_184]; exact va_up_self _ _ _
            refine lv_aload_n hx hb dX11_partner_108 rfl (lv_at hl 1 rfl) ?_
            refine lv_dup hx hb dX11_partner_109 rfl ?_
            refine va_get (D := D) (ci := 11) (v := .int (nI x3)) (C := RX11) (T := TX11) (N := 11) hx hb hg inG11 hown hK hP 0 rfl rfl 3 (by decide) (hg _ wd_338) (fun _ h9 => h9) rfl dX11_partner_110 ?_
            refine lv_iconst (v := 1) hx hb dX11_partner_113 (by decide) ?_
            refine lv_iadd hx hb dX11_partner_114 ?_
            refine lv_topi (fun f_187 ef_187 => ?_)
            obtain rfl : f_187 = (nI (x3 + 1)) := ef_187.trans (nI_add x3 1)
            refine va_put (D := D) (ci := 11) (v := .int (nI (x3 + 1))) (ty := .int) (C := RX11) (T := TX11) (N := 11) hx hb hg inG11 tyX11 tyX11_ok nmX11 hown hK hP hD hS 0 rfl rfl 3 (by decide) (hg _ wd_338) (fun _ h9 => h9) rfl (by decide +kernel) rfl rfl (Nat.le_of_ble_eq_true rfl) dX11_partner_115 (fun H_188 locs hP hD hS => ?_)
            have hP : va_P D vwCl ([(xa, (b11_1 x0 (nI x1) x2 (nI (x3 + 1)) x4 x5 x6 x7 x8 x9 x10))] ++ va_pl L M_181) H_188 := hP
            have hD : va_D A ([(xa, (b11_1 x0 (nI x1) x2 (nI (x3 + 1)) x4 x5 x6 x7 x8 x9 x10))] ++ va_pl L M_181) := hD
            refine lv_aload_n hx hb dX11_partner_118 rfl (lv_at hl 1 rfl) ?_
            refine lv_aload_n hx hb dX11_partner_119 rfl (lv_at hl 1 rfl) ?_
            refine va_get (D := D) (ci := 11) (v := .int (nI (x3 + 1))) (C := RX11) (T := TX11) (N := 11) hx hb hg inG11 hown hK hP 0 rfl rfl 3 (by decide) (hg _ wd_338) (fun _ h9 => h9) rfl dX11_partner_120 ?_
            refine lv_iconst (v := 1) hx hb dX11_partner_123 (by decide) ?_
            refine lv_isub hx hb dX11_partner_124 ?_
            refine lv_topi (fun f_189 ef_189 => ?_)
            obtain rfl : f_189 = (nI ((x3 + 1) - 1)) := ef_189.trans (nI_prd (by omega))
            have hPc := hP.sub (ws' := [(xa, (b11_1 x0 (nI x1) x2 (nI (x3 + 1)) x4 x5 x6 x7 x8 x9 x10))]) [0] rfl
            have hDc := hD.sub (ws' := [(xa, (b11_1 x0 (nI x1) x2 (nI (x3 + 1)) x4 x5 x6 x7 x8 x9 x10))]) [0] (by decide) rfl
            have hKc := hK.sub (tys' := []) [] rfl
            have hFc := va_free (wc := [(xa, (b11_1 x0 (nI x1) x2 (nI (x3 + 1)) x4 x5 x6 x7 x8 x9 x10))]) hD hS hA [0] rfl
            refine va_calli (va_runV (As := [.int (nI ((x3 + 1) - 1))]) (rest := []) ⟨hx, hb, hml, hown, hg⟩ (k_accept l D H_188.size xa x0 (nI x1) x2 (nI (x3 + 1)) x4 x5 x6 x7 x8 x9 x10 (nI ((x3 + 1) - 1))) (cwV 1 hg (gV wd_356 wd_357 wd_358 wd_3 wd_359) rfl rfl rfl (by decide +kernel) ⟨(Nat.le_trans (Nat.le_of_ble_eq_true rfl) hRf), (Nat.le_trans (Nat.le_of_ble_eq_true rfl) hRl)⟩) ⟨Pr.blind, va_recv hK hP (ci := 11) (q0 := 0) rfl rfl, fun U hU hW => ⟨rfl, Pr.at hPc hKc hDc hN hU hW⟩⟩ rfl rfl hl.1 rfl (lv_room (Nat.le_of_ble_eq_true rfl)) dX11_partner_125 ⟨(Nat.le_trans (Nat.le_of_ble_eq_true rfl) hRc), (Nat.le_trans (Nat.le_of_ble_eq_true rfl) hRs)⟩) hS (fun q _ h => hFc q h) hFc (fun r_191 M_192 t H_190 locs ht hvm hw hB hz1 hk1 hS => ?_)
            have hp_193 := hw
            obtain ⟨hP1, hK1, hD1⟩ := hB
            rw [ht] at hP1
            obtain ⟨hP, hD⟩ := va_joinQ (X := [(xa, (b11_1 x0 (nI x1) x2 (nI (x3 + 1)) x4 x5 x6 x7 x8 x9 x10))]) (cx := [(xa, (b11_1 x0 (nI x1) x2 (nI (x3 + 1)) x4 x5 x6 x7 x8 x9 x10))]) (wr := []) (w1 := [(xa, (b11_1 x0 (nI x1) x2 (nI (x3 + 1)) x4 x5 x6 x7 x8 0 (-1)))]) (pl := va_pl L M_181) hP hD [0] [] rfl rfl (by decide) (by decide) hk1 hFc hP1 hD1
            have hP : va_P D vwCl ([(xa, (b11_1 x0 (nI x1) x2 (nI (x3 + 1)) x4 x5 x6 x7 x8 0 (-1)))] ++ va_pl L M_181) H_190 := hP
            have hD : va_D A ([(xa, (b11_1 x0 (nI x1) x2 (nI (x3 + 1)) x4 x5 x6 x7 x8 0 (-1)))] ++ va_pl L M_181) := hD
            have hq := Eq.symm hp_193
            subst hq
            have hI_194 : (0 : Int) ≤ (k1 : Int32).toInt := inltI rfl rfl c_2
            have hI_195 : (k1 : Int32).toInt < (6 : Int) := iltI rfl rfl c_8
            have hI_196 : (k1 : Int32).toInt ≠ (5 : Int) := ineI rfl rfl c_159
            have hI_197 : (k1 : Int32).toInt ≠ (5 : Int) := ineI rfl rfl c_160
            have hI_198 : ((x3 : Nat) : Int) < (40 : Int) := iltI (nI_toInt (by omega)) rfl c_161
            have hyes : okPa x1 x3 k1 k2 := by unfold okPa; refine ⟨?_, ?_, ?_, ?_, ?_⟩ <;> omega
            have hE : cnPa x1 x3 k1 k2 = (x3 + 1) := by unfold cnPa; rw [if_pos hyes]
            have hP : va_P D vwCl ([(xa, (b11_1 x0 (nI x1) x2 (nI (cnPa x1 x3 k1 k2)) x4 x5 x6 x7 x8 0 (-1)))] ++ va_pl L M_181) H_190 := by rw [hE]; exact hP
            have hD : va_D A ([(xa, (b11_1 x0 (nI x1) x2 (nI (cnPa x1 x3 k1 k2)) x4 x5 x6 x7 x8 0 (-1)))] ++ va_pl L M_181) := by rw [hE]; exact hD
            have h29 : RFc (M_181 x2) = va_up (RFc (M0 x2)) x3 (some q_163) := by rw [RFc_of hM_182, ef_184, nI_cl (by omega), RFc_of hM0z]
            have hp9 : ∀ q, isk K L q 4 0 → ∀ b, cR 4 M_181 q 3 = some b → ∃ j, j < x1 ∧ RFc (M0 x0) j = some b := fun q iq b hb => by
              rcases hn40 q iq with z | i4
              · rw [z, cR_q (q := none) hM_183 rfl] at hb
                cases hb
              · rw [cR_eq (hF.at i4 (by decide))] at hb
                exact hC00.ph q i4 b hb
            rw [hQ]
            exact W.iret (v := (nI ((x3 + 1) - 1))) hx hb hr (fun t ht hW9 => ⟨⟨(nI ((x3 + 1) - 1)), (K, L, M_181), rfl, ⟨hX0, hW, hF, (by unfold anPa; rw [if_pos hyes, Nat.add_sub_cancel])⟩, ⟨0, (by rw [hE]; unfold pkPa ptPa; rw [if_pos hyes, if_pos hyes]; exact CX.gen hC00 hW00 i000 b1 (SAME.fr (fr.cv hF (by decide)) (fr.cv hF (by decide)) (fr.cv hF (by decide)) (fr.cv hF (by decide)) (fr.cv hF (by decide)) (fr.cv hF (by decide)) (fr.cv hF (by decide)) hF (by decide)) hX0 hn20 (congrArg RFc (hF.at i000 (by decide))) hp9 (fun _ _ _ g => g.part)), (by rw [hE]; unfold pkPa ptPa; rw [if_pos hyes, if_pos hyes]; exact PX.part hPX00 hW00 i000 i200 (by omega) hF h29 hM_183 (Or.inr ⟨c_159, rfl⟩)), by rw [ht]; exact hP, hD⟩⟩, hS.F ht⟩) hS.2.2 dX11_partner_128
          · have hz := rfl (a := 0)
            have n_199 : ¬ (x3 < 40) := fun q => c_161 ((iLT (a := x3) (b := 40) (by omega) (by omega)).mpr q)
            refine lv_aload_n hx hb dX11_partner_78 rfl (lv_at hl 1 rfl) ?_
            refine lv_bipush (v := 9) hx hb dX11_partner_79 (by decide) ?_
            have hPc := hP.sub (ws' := [(xa, (b11_1 x0 (nI x1) x2 (nI x3) x4 x5 x6 x7 x8 x9 x10))]) [0] rfl
            have hDc := hD.sub (ws' := [(xa, (b11_1 x0 (nI x1) x2 (nI x3) x4 x5 x6 x7 x8 x9 x10))]) [0] (by decide) rfl
            have hKc := hK.sub (tys' := []) [] rfl
            have hFc := va_free (wc := [(xa, (b11_1 x0 (nI x1) x2 (nI x3) x4 x5 x6 x7 x8 x9 x10))]) hD hS hA [0] rfl
            refine va_calli (va_runV (As := [.int 9]) (rest := []) ⟨hx, hb, hml, hown, hg⟩ (k_refuse l D H_9.size xa x0 (nI x1) x2 (nI x3) x4 x5 x6 x7 x8 x9 x10 9) (cwV 1 hg (gV wd_344 wd_345 wd_346 wd_3 wd_347) rfl rfl rfl (by decide +kernel) ⟨(Nat.le_trans (Nat.le_of_ble_eq_true rfl) hRf), (Nat.le_trans (Nat.le_of_ble_eq_true rfl) hRl)⟩) ⟨Pr.blind, va_recv hK hP (ci := 11) (q0 := 0) rfl rfl, fun U hU hW => ⟨rfl, Pr.at hPc hKc hDc hN hU hW⟩⟩ rfl rfl hl.1 rfl (lv_room (Nat.le_of_ble_eq_true rfl)) dX11_partner_81 ⟨(Nat.le_trans (Nat.le_of_ble_eq_true rfl) hRc), (Nat.le_trans (Nat.le_of_ble_eq_true rfl) hRs)⟩) hS (fun q _ h => hFc q h) hFc (fun r_201 M_202 t H_200 locs ht hvm hw hB hz1 hk1 hS => ?_)
            have hp_203 := hw
            obtain ⟨hP1, hK1, hD1⟩ := hB
            rw [ht] at hP1
            obtain ⟨hP, hD⟩ := va_joinQ (X := [(xa, (b11_1 x0 (nI x1) x2 (nI x3) x4 x5 x6 x7 x8 x9 x10))]) (cx := [(xa, (b11_1 x0 (nI x1) x2 (nI x3) x4 x5 x6 x7 x8 x9 x10))]) (wr := []) (w1 := [(xa, (b11_1 x0 (nI x1) x2 (nI x3) x4 x5 x6 x7 x8 9 (-1)))]) (pl := va_pl L M) hP hD [0] [] rfl rfl (by decide) (by decide) hk1 hFc hP1 hD1
            have hP : va_P D vwCl ([(xa, (b11_1 x0 (nI x1) x2 (nI x3) x4 x5 x6 x7 x8 9 (-1)))] ++ va_pl L M) H_200 := hP
            have hD : va_D A ([(xa, (b11_1 x0 (nI x1) x2 (nI x3) x4 x5 x6 x7 x8 9 (-1)))] ++ va_pl L M) := hD
            have hq := Eq.symm hp_203
            subst hq
            refine W.widen (k := 1) (n := 4) (Nat.le_of_ble_eq_true rfl) (Nat.le_of_ble_eq_true rfl) ?_
            have hI_204 : (0 : Int) ≤ (k1 : Int32).toInt := inltI rfl rfl c_2
            have hI_205 : (k1 : Int32).toInt < (6 : Int) := iltI rfl rfl c_8
            have hI_206 : (k1 : Int32).toInt ≠ (5 : Int) := ineI rfl rfl c_159
            have hI_207 : (k1 : Int32).toInt ≠ (5 : Int) := ineI rfl rfl c_160
            have hI_208 : (40 : Int) ≤ ((x3 : Nat) : Int) := inltI (nI_toInt (by omega)) rfl c_161
            have hno : ¬ okPa x1 x3 k1 k2 := fun q9 => by unfold okPa at q9; omega
            have hE : cnPa x1 x3 k1 k2 = x3 := by unfold cnPa; rw [if_neg hno]
            have hP : va_P D vwCl ([(xa, (b11_1 x0 (nI x1) x2 (nI (cnPa x1 x3 k1 k2)) x4 x5 x6 x7 x8 9 (-1)))] ++ va_pl L M) H_200 := by rw [hE]; exact hP
            have hD : va_D A ([(xa, (b11_1 x0 (nI x1) x2 (nI (cnPa x1 x3 k1 k2)) x4 x5 x6 x7 x8 9 (-1)))] ++ va_pl L M) := by rw [hE]; exact hD
            rw [hQ]
            exact W.iret (v := (-1)) hx hb hr (fun t ht hW9 => ⟨⟨(-1), (K, L, M), rfl, ⟨hX0, hW, hF, (by unfold anPa; rw [if_neg hno])⟩, ⟨9, (by rw [hE]; unfold pkPa ptPa; rw [if_neg hno, if_neg hno]; exact hC.mono), (by rw [hE]; unfold pkPa ptPa; rw [if_neg hno, if_neg hno]; exact hPX), by rw [ht]; exact hP, hD⟩⟩, hS.F ht⟩) hS.2.2 dX11_partner_84
        · have hz := rfl (a := 0)
          refine lv_aload_n hx hb dX11_partner_44 rfl (lv_at hl 0 rfl) ?_
          refine lv_iload_n hx hb dX11_partner_45 rfl (lv_at hl 2 rfl) ?_
          have hPc : va_P D vwCl ([(xa, (b11_1 x0 (nI x1) x2 (nI x3) x4 x5 x6 x7 x8 x9 x10))] ++ va_pl L M) H_9 := hP
          have hDc : va_D A ([(xa, (b11_1 x0 (nI x1) x2 (nI x3) x4 x5 x6 x7 x8 x9 x10))] ++ va_pl L M) := hD
          have hFc : ∀ q, va_A ([(xa, (b11_1 x0 (nI x1) x2 (nI x3) x4 x5 x6 x7 x8 x9 x10))] ++ va_pl L M) H_9.size q → A q := pg_free hDc hS hA
          refine va_callq (va_runV (As := [.int k2]) (rest := []) ⟨hx, hb, hml, hown, hg⟩ (e_houseAt l D cy K L M H_9.size xa x0 x1 x2 x3 x4 x5 x6 x7 x8 x9 x10 k2 Bo T PK PT SX SY  hW i0 b1 i2 b3 i4 i5 i6 i8 hC) (cwV 1 hg (gV wd_340 wd_341 wd_342 wd_3 wd_343) rfl rfl rfl (by decide +kernel) ⟨(Nat.le_trans (Nat.le_of_ble_eq_true rfl) hRf), (Nat.le_trans (Nat.le_of_ble_eq_true rfl) hRl)⟩) ⟨PG.blind, va_recv hK hP (ci := 11) (q0 := 0) rfl rfl, fun U hU hW => ⟨rfl, PG.at hPc hK hDc hN hU hW⟩⟩ rfl rfl hl.1 rfl (lv_room (Nat.le_of_ble_eq_true rfl)) dX11_partner_46 ⟨(Nat.le_trans (Nat.le_of_ble_eq_true rfl) hRc), (Nat.le_trans (Nat.le_of_ble_eq_true rfl) hRs)⟩) hS (fun q _ h => hFc q h) hFc (fun r_210 M_211 t H_209 locs ht hvm hw hB hz1 hk1 hS => ?_)
          have hp_212 := hw
          obtain ⟨hP1, hD1⟩ := hB
          rw [ht] at hP1
          have hP : va_P D vwCl ([(xa, (b11_1 x0 (nI x1) x2 (nI x3) x4 x5 x6 x7 x8 x9 x10))] ++ va_pl L M) H_209 := hP1
          have hD : va_D A ([(xa, (b11_1 x0 (nI x1) x2 (nI x3) x4 x5 x6 x7 x8 x9 x10))] ++ va_pl L M) := hD1.mono hFc
          obtain ⟨hp_212, hqx⟩ := hp_212
          rcases r_210 with _ | b_213
          · have hz := rfl (a := 0)
            refine lv_goto (tgt := 53) hx hb dX11_partner_49 (by decide) ?_
            refine lv_astore_nN (lv' := [(3, .null), (0, .ref xa), (1, .int k1), (2, .int k2)]) hx hb dX11_partner_53 rfl hl (by decide) rfl (fun ls hl => ?_)
            refine lv_iload_n hx hb dX11_partner_54 rfl (lv_at hl 2 rfl) ?_
            refine lv_iconst (v := 5) hx hb dX11_partner_55 (by decide) ?_
            refine lv_icmp_ne (tgt := 69) hx hb dX11_partner_56 (by decide) (fun c_214 => absurd c_159 c_214) (fun c_214 => ?_)
            refine lv_aload_nN hx hb dX11_partner_59 rfl (lv_at hl 0 rfl) ?_
            refine lv_ifnonnullN hx hb dX11_partner_60 ?_
            refine lv_aload_n hx hb dX11_partner_63 rfl (lv_at hl 1 rfl) ?_
            refine lv_iconst (v := 1) hx hb dX11_partner_64 (by decide) ?_
            have hPc := hP.sub (ws' := [(xa, (b11_1 x0 (nI x1) x2 (nI x3) x4 x5 x6 x7 x8 x9 x10))]) [0] rfl
            have hDc := hD.sub (ws' := [(xa, (b11_1 x0 (nI x1) x2 (nI x3) x4 x5 x6 x7 x8 x9 x10))]) [0] (by decide) rfl
            have hKc := hK.sub (tys' := []) [] rfl
            have hFc := va_free (wc := [(xa, (b11_1 x0 (nI x1) x2 (nI x3) x4 x5 x6 x7 x8 x9 x10))]) hD hS hA [0] rfl
            refine va_calli (va_runV (As := [.int 1]) (rest := []) ⟨hx, hb, hml, hown, hg⟩ (k_refuse l D H_209.size xa x0 (nI x1) x2 (nI x3) x4 x5 x6 x7 x8 x9 x10 1) (cwV 1 hg (gV wd_344 wd_345 wd_346 wd_3 wd_347) rfl rfl rfl (by decide +kernel) ⟨(Nat.le_trans (Nat.le_of_ble_eq_true rfl) hRf), (Nat.le_trans (Nat.le_of_ble_eq_true rfl) hRl)⟩) ⟨Pr.blind, va_recv hK hP (ci := 11) (q0 := 0) rfl rfl, fun U hU hW => ⟨rfl, Pr.at hPc hKc hDc hN hU hW⟩⟩ rfl rfl hl.1 rfl (lv_room (Nat.le_of_ble_eq_true rfl)) dX11_partner_65 ⟨(Nat.le_trans (Nat.le_of_ble_eq_true rfl) hRc), (Nat.le_trans (Nat.le_of_ble_eq_true rfl) hRs)⟩) hS (fun q _ h => hFc q h) hFc (fun r_216 M_217 t H_215 locs ht hvm hw hB hz1 hk1 hS => ?_)
            have hp_218 := hw
            obtain ⟨hP1, hK1, hD1⟩ := hB
            rw [ht] at hP1
            obtain ⟨hP, hD⟩ := va_joinQ (X := [(xa, (b11_1 x0 (nI x1) x2 (nI x3) x4 x5 x6 x7 x8 x9 x10))]) (cx := [(xa, (b11_1 x0 (nI x1) x2 (nI x3) x4 x5 x6 x7 x8 x9 x10))]) (wr := []) (w1 := [(xa, (b11_1 x0 (nI x1) x2 (nI x3) x4 x5 x6 x7 x8 1 (-1)))]) (pl := va_pl L M) hP hD [0] [] rfl rfl (by decide) (by decide) hk1 hFc hP1 hD1
            have hP : va_P D vwCl ([(xa, (b11_1 x0 (nI x1) x2 (nI x3) x4 x5 x6 x7 x8 1 (-1)))] ++ va_pl L M) H_215 := hP
            have hD : va_D A ([(xa, (b11_1 x0 (nI x1) x2 (nI x3) x4 x5 x6 x7 x8 1 (-1)))] ++ va_pl L M) := hD
            have hq := Eq.symm hp_218
            subst hq
            refine W.widen (k := 1) (n := 4) (Nat.le_of_ble_eq_true rfl) (Nat.le_of_ble_eq_true rfl) ?_
            have hI_219 : (0 : Int) ≤ (k1 : Int32).toInt := inltI rfl rfl c_2
            have hI_220 : (k1 : Int32).toInt < (6 : Int) := iltI rfl rfl c_8
            have hI_221 : (k1 : Int32).toInt = (5 : Int) := ieqI rfl rfl c_159
            have hI_222 : (k1 : Int32).toInt = (5 : Int) := ieqI rfl rfl c_214
            have hnh := hqx.2 rfl
            have hno : ¬ okPa x1 x3 k1 k2 := fun q9 => by unfold okPa at q9; omega
            have hE : cnPa x1 x3 k1 k2 = x3 := by unfold cnPa; rw [if_neg hno]
            have hP : va_P D vwCl ([(xa, (b11_1 x0 (nI x1) x2 (nI (cnPa x1 x3 k1 k2)) x4 x5 x6 x7 x8 1 (-1)))] ++ va_pl L M) H_215 := by rw [hE]; exact hP
            have hD : va_D A ([(xa, (b11_1 x0 (nI x1) x2 (nI (cnPa x1 x3 k1 k2)) x4 x5 x6 x7 x8 1 (-1)))] ++ va_pl L M) := by rw [hE]; exact hD
            rw [hQ]
            exact W.iret (v := (-1)) hx hb hr (fun t ht hW9 => ⟨⟨(-1), (K, L, M), rfl, ⟨hX0, hW, hF, (by unfold anPa; rw [if_neg hno])⟩, ⟨1, (by rw [hE]; unfold pkPa ptPa; rw [if_neg hno, if_neg hno]; exact hC.mono), (by rw [hE]; unfold pkPa ptPa; rw [if_neg hno, if_neg hno]; exact hPX), by rw [ht]; exact hP, hD⟩⟩, hS.F ht⟩) hS.2.2 dX11_partner_68
          · have hb_223 := hp_212 b_213 rfl
            refine lv_goto (tgt := 53) hx hb dX11_partner_49 (by decide) ?_
            refine lv_astore_n (lv' := [(3, .ref b_213), (0, .ref xa), (1, .int k1), (2, .int k2)]) hx hb dX11_partner_53 rfl hl (by decide) rfl (fun ls hl => ?_)
            refine lv_iload_n hx hb dX11_partner_54 rfl (lv_at hl 2 rfl) ?_
            refine lv_iconst (v := 5) hx hb dX11_partner_55 (by decide) ?_
            refine lv_icmp_ne (tgt := 69) hx hb dX11_partner_56 (by decide) (fun c_224 => absurd c_159 c_224) (fun c_224 => ?_)
            refine lv_aload_n hx hb dX11_partner_59 rfl (lv_at hl 0 rfl) ?_
            refine lv_ifnonnull (tgt := 69) hx hb dX11_partner_60 (by decide) ?_
            refine lv_aload_n hx hb dX11_partner_69 rfl (lv_at hl 1 rfl) ?_
            refine va_get (D := D) (ci := 11) (v := .int (nI x3)) (C := RX11) (T := TX11) (N := 11) hx hb hg inG11 hown hK hP 0 rfl rfl 3 (by decide) (hg _ wd_338) (fun _ h9 => h9) rfl dX11_partner_70 ?_
            refine lv_bipush (v := 40) hx hb dX11_partner_73 (by decide) ?_
            refine lv_icmp_lt (tgt := 85) hx hb dX11_partner_75 (by decide) (fun c_225 => ?_) (fun c_225 => ?_)
            · have hz := rfl (a := 0)
              have n_226 : x3 < 40 := (iLT (a := x3) (b := 40) (by omega) (by omega)).mp c_225
              refine lv_aload_n hx hb dX11_partner_85 rfl (lv_at hl 1 rfl) ?_
              refine va_get (D := D) (ci := 11) (v := .ref x2) (C := RX11) (T := TX11) (N := 11) hx hb hg inG11 hown hK hP 0 rfl rfl 2 (by decide) (hg _ wd_339) (fun _ h9 => h9) rfl dX11_partner_86 ?_
              refine lv_aload_n hx hb dX11_partner_89 rfl (lv_at hl 1 rfl) ?_
              refine va_get (D := D) (ci := 11) (v := .int (nI x3)) (C := RX11) (T := TX11) (N := 11) hx hb hg inG11 hown hK hP 0 rfl rfl 3 (by decide) (hg _ wd_338) (fun _ h9 => h9) rfl dX11_partner_90 ?_
              refine va_new (ci := 4) (fs := [.int 0, .int 0, .int 0, .null]) (C := RX4) (T := TX4) (N := 4) hx hb hg inG4 tyX4 tyX4_ok hown (hg _ wd_587) (hg _ wd_588) (hg _ wd_30) hK hP hD hS hA rfl dfX4 (Nat.le_trans (Nat.le_of_ble_eq_true rfl) hRc) (Nat.le_trans (Nat.le_of_ble_eq_true rfl) hRs) dX11_partner_93 (fun q_227 H_228 hP hD hS => ?_)
              have hP : va_P D vwCl ([(xa, (b11_1 x0 (nI x1) x2 (nI x3) x4 x5 x6 x7 x8 x9 x10)), (q_227, (b4_12 0 0 0))] ++ va_pl L M) H_228 := hP.swap
              have hD : va_D A ([(xa, (b11_1 x0 (nI x1) x2 (nI x3) x4 x5 x6 x7 x8 x9 x10)), (q_227, (b4_12 0 0 0))] ++ va_pl L M) := hD.swap
              refine W.widen (k := 1) (n := 4) (Nat.le_of_ble_eq_true rfl) (Nat.le_of_ble_eq_true rfl) ?_
              refine lv_dup hx hb dX11_partner_96 rfl ?_
              refine lv_aload_n hx hb dX11_partner_97 rfl (lv_at hl 1 rfl) ?_
              refine va_get (D := D) (ci := 11) (v := .int (nI x3)) (C := RX11) (T := TX11) (N := 11) hx hb hg inG11 hown hK hP 0 rfl rfl 3 (by decide) (hg _ wd_338) (fun _ h9 => h9) rfl dX11_partner_98 ?_
              refine lv_iload_n hx hb dX11_partner_101 rfl (lv_at hl 2 rfl) ?_
              refine lv_iload_n hx hb dX11_partner_102 rfl (lv_at hl 3 rfl) ?_
              refine lv_aload_n hx hb dX11_partner_103 rfl (lv_at hl 0 rfl) ?_
              have hPc := hP.sub (ws' := [(q_227, (b4_12 0 0 0))]) [1] rfl
              have hDc := hD.sub (ws' := [(q_227, (b4_12 0 0 0))]) [1] (by decide) rfl
              have hKc := hK.sub (tys' := []) [] rfl
              have hFc := va_free (wc := [(q_227, (b4_12 0 0 0))]) hD hS hA [1] rfl
              refine va_callv (va_runI (As := [.int (nI x3), .int k1, .int k2, .ref b_213]) (rest := [.ref q_227, .int (nI x3), .ref x2]) ⟨hx, hb, hml, hown, hg⟩ (k_Partner_r l D H_228.size q_227 (nI x3) k1 k2 b_213) (cwI 4 hg (gB wd_589) rfl rfl rfl (hg _ wd_30) (hg _ wd_590) (hg _ wd_591) rfl (by decide +kernel) ⟨(Nat.le_trans (Nat.le_of_ble_eq_true rfl) hRf), (Nat.le_trans (Nat.le_of_ble_eq_true rfl) hRl)⟩) ⟨Pr.blind, fun U hU hW => ⟨rfl, Pr.at hPc hKc hDc hN hU hW⟩⟩ rfl rfl hl.1 rfl (lv_room (Nat.le_of_ble_eq_true rfl)) dX11_partner_104 ⟨(Nat.le_trans (Nat.le_of_ble_eq_true rfl) hRc), (Nat.le_trans (Nat.le_of_ble_eq_true rfl) hRs)⟩) hS (fun q _ h => hFc q h) hFc (fun M_231 t H_229 locs ht hvm hw hB hz1 hk1 hS => ?_)
              have hp_232 := hw
              obtain ⟨hP1, hK1, hD1⟩ := hB
              rw [ht] at hP1
              obtain ⟨hP, hD⟩ := va_joinQ (X := [(xa, (b11_1 x0 (nI x1) x2 (nI x3) x4 x5 x6 x7 x8 x9 x10)), (q_227, (b4_12 0 0 0))]) (cx := [(q_227, (b4_12 0 0 0))]) (wr := [(xa, (b11_1 x0 (nI x1) x2 (nI x3) x4 x5 x6 x7 x8 x9 x10))]) (w1 := [(q_227, .inr (4, [.int (nI x3), .int k1, .int k2, .ref b_213]))]) (pl := va_pl L M) hP hD [1] [0] rfl rfl (by decide) (by decide) hk1 hFc hP1 hD1
              have hP : va_P D vwCl ([(xa, (b11_1 x0 (nI x1) x2 (nI x3) x4 x5 x6 x7 x8 x9 x10)), (q_227, .inr (4, [.int (nI x3), .int k1, .int k2, .ref b_213]))] ++ va_pl L M) H_229 := hP
              have hD : va_D A ([(xa, (b11_1 x0 (nI x1) x2 (nI x3) x4 x5 x6 x7 x8 x9 x10)), (q_227, .inr (4, [.int (nI x3), .int k1, .int k2, .ref b_213]))] ++ va_pl L M) := hD
              have hP : va_P D vwCl (([(xa, (b11_1 x0 (nI x1) x2 (nI x3) x4 x5 x6 x7 x8 x9 x10))] ++ [(q_227, .inr (4, [.int (nI x3), .int k1, .int k2, .ref b_213]))]) ++ va_pl L M) H_229 := hP.part (cx := [(xa, (b11_1 x0 (nI x1) x2 (nI x3) x4 x5 x6 x7 x8 x9 x10))] ++ [(q_227, .inr (4, [.int (nI x3), .int k1, .int k2, .ref b_213]))]) [0, 1] rfl
              have hD : va_D A (([(xa, (b11_1 x0 (nI x1) x2 (nI x3) x4 x5 x6 x7 x8 x9 x10))] ++ [(q_227, .inr (4, [.int (nI x3), .int k1, .int k2, .ref b_213]))]) ++ va_pl L M) := hD.part (cx := [(xa, (b11_1 x0 (nI x1) x2 (nI x3) x4 x5 x6 x7 x8 x9 x10))] ++ [(q_227, .inr (4, [.int (nI x3), .int k1, .int k2, .ref b_213]))]) [0, 1] (by decide) rfl
              obtain ⟨K9, L9, M_233, hx9, i_234, hW, hP, hD, hM_235, hfr9, hq9, hm9⟩ := adoptE2 4 0 hP hD hW (fun K' L' x i => (⟨(nI x3), k1, k2, (some b_213), rfl, iskN.some (hb_223.ext x)⟩ : gd_4 K' L' _))
              have hn20 : ∀ b, isk K9 L9 b 2 0 → isk K0 L0 b 2 0 := fun b hb => by
                have h9 : isk K L b 2 0 := (hm9 b hb.1).elim (fun z => absurd (hb.un (show isk K9 L9 b 4 0 by rw [z]; exact i_234)) (by decide)) (fun z => ⟨z, ((hx9 b z).2).symm.trans hb.2⟩)
                rw [hKe, hLe] at h9
                exact h9
              have hn40 : ∀ b, isk K9 L9 b 4 0 → b = q_227 ∨ isk K0 L0 b 4 0 := fun b hb => by
                rcases hm9 b hb.1 with z | z
                · exact Or.inl z
                · have h9 : isk K L b 4 0 := ⟨z, ((hx9 b z).2).symm.trans hb.2⟩
                  rw [hKe, hLe] at h9
                  exact Or.inr h9
              have hq0q_227 : q_227 ∉ L0 := fun z => hq9 (hX0 _ z).1
              have hM_236 : M_233 x2 = .inl (cy 19, 40, .inr (.inr (.inr (.inr (f1))))) := (hfr9 _ i2.1).trans hM1
              have hF : fr K0 L0 [19] M0 M_233 := hF.adX hX0 hfr9
              have hX0 := hX0.tr hx9
              have i_237 := i0.ext hx9
              have i_238 := i2.ext hx9
              have i_239 := i4.ext hx9
              have i_240 := i5.ext hx9
              have i_241 := i6.ext hx9
              have i_242 := i8.ext hx9
              have i_243 := hb_223.ext hx9
              have hf_244 := fun j q => (hf1 j q).ext hx9
              obtain ⟨K, L, hK9, hL9⟩ : ∃ (K : Kp) (L : List Nat), K = K9 ∧ L = L9 := ⟨_, _, rfl, rfl⟩
              subst hK9
              subst hL9
              have hP : va_P D vwCl ([(xa, (b11_1 x0 (nI x1) x2 (nI x3) x4 x5 x6 x7 x8 x9 x10))] ++ va_pl L M_233) H_229 := hP
              have hD : va_D A ([(xa, (b11_1 x0 (nI x1) x2 (nI x3) x4 x5 x6 x7 x8 x9 x10))] ++ va_pl L M_233) := hD
              refine pg_astq (r := (RX4, TX4, 4)) hx hb hK hP hD hS i_238.1 5 4 hM_236 rfl i_234.1 hM_235 rfl (inbN x3 40 (by omega) (by omega)) dX11_partner_107 (fun H_245 locs hP hD hS => ?_)
              obtain ⟨M_246, eM_246⟩ : ∃ M1 : Hp, M1 = va_up M_233 x2 (.inl (cy 19, 40, .inr (.inr (.inr (.inr (va_up f1 ((nI x3) : Int32).toNatClampNeg (some q_227))))))) := ⟨_, rfl⟩
              have hP : va_P D vwCl ([(xa, (b11_1 x0 (nI x1) x2 (nI x3) x4 x5 x6 x7 x8 x9 x10))] ++ va_pl L M_246) H_245 := by rw [eM_246]; exact hP
              have hD : va_D A ([(xa, (b11_1 x0 (nI x1) x2 (nI x3) x4 x5 x6 x7 x8 x9 x10))] ++ va_pl L M_246) := by rw [eM_246]; exact hD
              have hW : WOK cy K L M_246 := by rw [eM_246]; exact hW.up_19 i_238 ⟨_, rfl, (upN hf_244 i_234)⟩
              have hF : fr K0 L0 [19] M0 M_246 := by rw [eM_246]; exact hF.upX hX0 i_238 (by decide)
              have hM_247 : M_246 x2 = .inl (cy 19, 40, .inr (.inr (.inr (.inr (va_up f1 ((nI x3) : Int32).toNatClampNeg (some q_227)))))) := by rw [eM_246]; exact va_up_self _ _ _
              have hM_248 : M_246 q_227 = .inr (4, [.int (nI x3), .int k1, .int k2, va_rf (some b_213)]) := by rw [eM_246, va_up_ne _ _ (i_234.neT i_238 (by decide))]; exact hM_235
              have hf_250 : ∀ j, j < 40 → iskN K L ((va_up f1 ((nI x3) : Int32).toNatClampNeg (some q_227)) j) 4 0 := (upN hf_244 i_234)
              obtain ⟨f_249, ef_249⟩ : ∃ f : Nat → Option Nat, f = va_up f1 ((nI x3) : Int32).toNatClampNeg (some q_227) := ⟨_, rfl⟩
              rw [← ef_249] at hM_247 hf_250
              have hk_251 : f_249 ((nI x3) : Int32).toNatClampNeg = some q_227 := by rw [ef_249]; exact va_up_self _ _ _
              refine lv_aload_n hx hb dX11_partner_108 rfl (lv_at hl 1 rfl) ?_
              refine lv_dup hx hb dX11_partner_109 rfl ?_
              refine va_get (D := D) (ci := 11) (v := .int (nI x3)) (C := RX11) (T := TX11) (N := 11) hx hb hg inG11 hown hK hP 0 rfl rfl 3 (by decide) (hg _ wd_338) (fun _ h9 => h9) rfl dX11_partner_110 ?_
              refine lv_iconst (v := 1) hx hb dX11_partner_113 (by decide) ?_
              refine lv_iadd hx hb dX11_partner_114 ?_
              refine lv_topi (fun f_252 ef_252 => ?_)
              obtain rfl : f_252 = (nI (x3 + 1)) := ef_252.trans (nI_add x3 1)
              refine va_put (D := D) (ci := 11) (v := .int (nI (x3 + 1))) (ty := .int) (C := RX11) (T := TX11) (N := 11) hx hb hg inG11 tyX11 tyX11_ok nmX11 hown hK hP hD hS 0 rfl rfl 3 (by decide) (hg _ wd_338) (fun _ h9 => h9) rfl (by decide +kernel) rfl rfl (Nat.le_of_ble_eq_true rfl) dX11_partner_115 (fun H_253 locs hP hD hS => ?_)
              have hP : va_P D vwCl ([(xa, (b11_1 x0 (nI x1) x2 (nI (x3 + 1)) x4 x5 x6 x7 x8 x9 x10))] ++ va_pl L M_246) H_253 := hP
              have hD : va_D A ([(xa, (b11_1 x0 (nI x1) x2 (nI (x3 + 1)) x4 x5 x6 x7 x8 x9 x10))] ++ va_pl L M_246) := hD
              refine lv_aload_n hx hb dX11_partner_118 rfl (lv_at hl 1 rfl) ?_
              refine lv_aload_n hx hb dX11_partner_119 rfl (lv_at hl 1 rfl) ?_
              refine va_get (D := D) (ci := 11) (v := .int (nI (x3 + 1))) (C := RX11) (T := TX11) (N := 11) hx hb hg inG11 hown hK hP 0 rfl rfl 3 (by decide) (hg _ wd_338) (fun _ h9 => h9) rfl dX11_partner_120 ?_
              refine lv_iconst (v := 1) hx hb dX11_partner_123 (by decide) ?_
              refine lv_isub hx hb dX11_partner_124 ?_
              refine lv_topi (fun f_254 ef_254 => ?_)
              obtain rfl : f_254 = (nI ((x3 + 1) - 1)) := ef_254.trans (nI_prd (by omega))
              have hPc := hP.sub (ws' := [(xa, (b11_1 x0 (nI x1) x2 (nI (x3 + 1)) x4 x5 x6 x7 x8 x9 x10))]) [0] rfl
              have hDc := hD.sub (ws' := [(xa, (b11_1 x0 (nI x1) x2 (nI (x3 + 1)) x4 x5 x6 x7 x8 x9 x10))]) [0] (by decide) rfl
              have hKc := hK.sub (tys' := []) [] rfl
              have hFc := va_free (wc := [(xa, (b11_1 x0 (nI x1) x2 (nI (x3 + 1)) x4 x5 x6 x7 x8 x9 x10))]) hD hS hA [0] rfl
              refine va_calli (va_runV (As := [.int (nI ((x3 + 1) - 1))]) (rest := []) ⟨hx, hb, hml, hown, hg⟩ (k_accept l D H_253.size xa x0 (nI x1) x2 (nI (x3 + 1)) x4 x5 x6 x7 x8 x9 x10 (nI ((x3 + 1) - 1))) (cwV 1 hg (gV wd_356 wd_357 wd_358 wd_3 wd_359) rfl rfl rfl (by decide +kernel) ⟨(Nat.le_trans (Nat.le_of_ble_eq_true rfl) hRf), (Nat.le_trans (Nat.le_of_ble_eq_true rfl) hRl)⟩) ⟨Pr.blind, va_recv hK hP (ci := 11) (q0 := 0) rfl rfl, fun U hU hW => ⟨rfl, Pr.at hPc hKc hDc hN hU hW⟩⟩ rfl rfl hl.1 rfl (lv_room (Nat.le_of_ble_eq_true rfl)) dX11_partner_125 ⟨(Nat.le_trans (Nat.le_of_ble_eq_true rfl) hRc), (Nat.le_trans (Nat.le_of_ble_eq_true rfl) hRs)⟩) hS (fun q _ h => hFc q h) hFc (fun r_256 M_257 t H_255 locs ht hvm hw hB hz1 hk1 hS => ?_)
              have hp_258 := hw
              obtain ⟨hP1, hK1, hD1⟩ := hB
              rw [ht] at hP1
              obtain ⟨hP, hD⟩ := va_joinQ (X := [(xa, (b11_1 x0 (nI x1) x2 (nI (x3 + 1)) x4 x5 x6 x7 x8 x9 x10))]) (cx := [(xa, (b11_1 x0 (nI x1) x2 (nI (x3 + 1)) x4 x5 x6 x7 x8 x9 x10))]) (wr := []) (w1 := [(xa, (b11_1 x0 (nI x1) x2 (nI (x3 + 1)) x4 x5 x6 x7 x8 0 (-1)))]) (pl := va_pl L M_246) hP hD [0] [] rfl rfl (by decide) (by decide) hk1 hFc hP1 hD1
              have hP : va_P D vwCl ([(xa, (b11_1 x0 (nI x1) x2 (nI (x3 + 1)) x4 x5 x6 x7 x8 0 (-1)))] ++ va_pl L M_246) H_255 := hP
              have hD : va_D A ([(xa, (b11_1 x0 (nI x1) x2 (nI (x3 + 1)) x4 x5 x6 x7 x8 0 (-1)))] ++ va_pl L M_246) := hD
              have hq := Eq.symm hp_258
              subst hq
              have hI_259 : (0 : Int) ≤ (k1 : Int32).toInt := inltI rfl rfl c_2
              have hI_260 : (k1 : Int32).toInt < (6 : Int) := iltI rfl rfl c_8
              have hI_261 : (k1 : Int32).toInt = (5 : Int) := ieqI rfl rfl c_159
              have hI_262 : (k1 : Int32).toInt = (5 : Int) := ieqI rfl rfl c_224
              have hI_263 : ((x3 : Nat) : Int) < (40 : Int) := iltI (nI_toInt (by omega)) rfl c_225
              obtain ⟨hr9, hb9⟩ := hqx.1 b_213 rfl
              have hck : ((k2 : Int32).toNatClampNeg : Int) = (k2 : Int32).toInt := clT (by omega)
              have hyes : okPa x1 x3 k1 k2 := by unfold okPa; refine ⟨?_, ?_, ?_, ?_, ?_⟩ <;> omega
              have hE : cnPa x1 x3 k1 k2 = (x3 + 1) := by unfold cnPa; rw [if_pos hyes]
              have hP : va_P D vwCl ([(xa, (b11_1 x0 (nI x1) x2 (nI (cnPa x1 x3 k1 k2)) x4 x5 x6 x7 x8 0 (-1)))] ++ va_pl L M_246) H_255 := by rw [hE]; exact hP
              have hD : va_D A ([(xa, (b11_1 x0 (nI x1) x2 (nI (cnPa x1 x3 k1 k2)) x4 x5 x6 x7 x8 0 (-1)))] ++ va_pl L M_246) := by rw [hE]; exact hD
              have h29 : RFc (M_246 x2) = va_up (RFc (M0 x2)) x3 (some q_227) := by rw [RFc_of hM_247, ef_249, nI_cl (by omega), RFc_of hM0z]
              have hb90 : RFc (M0 x0) k2.toNatClampNeg = some b_213 := by rw [← hMe]; exact hb9
              have hp9 : ∀ q, isk K L q 4 0 → ∀ b, cR 4 M_246 q 3 = some b → ∃ j, j < x1 ∧ RFc (M0 x0) j = some b := fun q iq b hb => by
                rcases hn40 q iq with z | i4
                · rw [z, cR_q (q := (some b_213)) hM_248 rfl] at hb
                  cases hb
                  exact ⟨k2.toNatClampNeg, by omega, hb90⟩
                · rw [cR_eq (hF.at i4 (by decide))] at hb
                  exact hC00.ph q i4 b hb
              rw [hQ]
              exact W.iret (v := (nI ((x3 + 1) - 1))) hx hb hr (fun t ht hW9 => ⟨⟨(nI ((x3 + 1) - 1)), (K, L, M_246), rfl, ⟨hX0, hW, hF, (by unfold anPa; rw [if_pos hyes, Nat.add_sub_cancel])⟩, ⟨0, (by rw [hE]; unfold pkPa ptPa; rw [if_pos hyes, if_pos hyes]; exact CX.gen hC00 hW00 i000 b1 (SAME.fr (fr.cv hF (by decide)) (fr.cv hF (by decide)) (fr.cv hF (by decide)) (fr.cv hF (by decide)) (fr.cv hF (by decide)) (fr.cv hF (by decide)) (fr.cv hF (by decide)) hF (by decide)) hX0 hn20 (congrArg RFc (hF.at i000 (by decide))) hp9 (fun _ _ _ g => g.part)), (by rw [hE]; unfold pkPa ptPa; rw [if_pos hyes, if_pos hyes]; exact PX.part hPX00 hW00 i000 i200 (by omega) hF h29 hM_248 (Or.inl ⟨c_159, by omega, by omega, b_213, rfl, hb90⟩)), by rw [ht]; exact hP, hD⟩⟩, hS.F ht⟩) hS.2.2 dX11_partner_128
            · have hz := rfl (a := 0)
              have n_264 : ¬ (x3 < 40) := fun q => c_225 ((iLT (a := x3) (b := 40) (by omega) (by omega)).mpr q)
              refine lv_aload_n hx hb dX11_partner_78 rfl (lv_at hl 1 rfl) ?_
              refine lv_bipush (v := 9) hx hb dX11_partner_79 (by decide) ?_
              have hPc := hP.sub (ws' := [(xa, (b11_1 x0 (nI x1) x2 (nI x3) x4 x5 x6 x7 x8 x9 x10))]) [0] rfl
              have hDc := hD.sub (ws' := [(xa, (b11_1 x0 (nI x1) x2 (nI x3) x4 x5 x6 x7 x8 x9 x10))]) [0] (by decide) rfl
              have hKc := hK.sub (tys' := []) [] rfl
              have hFc := va_free (wc := [(xa, (b11_1 x0 (nI x1) x2 (nI x3) x4 x5 x6 x7 x8 x9 x10))]) hD hS hA [0] rfl
              refine va_calli (va_runV (As := [.int 9]) (rest := []) ⟨hx, hb, hml, hown, hg⟩ (k_refuse l D H_209.size xa x0 (nI x1) x2 (nI x3) x4 x5 x6 x7 x8 x9 x10 9) (cwV 1 hg (gV wd_344 wd_345 wd_346 wd_3 wd_347) rfl rfl rfl (by decide +kernel) ⟨(Nat.le_trans (Nat.le_of_ble_eq_true rfl) hRf), (Nat.le_trans (Nat.le_of_ble_eq_true rfl) hRl)⟩) ⟨Pr.blind, va_recv hK hP (ci := 11) (q0 := 0) rfl rfl, fun U hU hW => ⟨rfl, Pr.at hPc hKc hDc hN hU hW⟩⟩ rfl rfl hl.1 rfl (lv_room (Nat.le_of_ble_eq_true rfl)) dX11_partner_81 ⟨(Nat.le_trans (Nat.le_of_ble_eq_true rfl) hRc), (Nat.le_trans (Nat.le_of_ble_eq_true rfl) hRs)⟩) hS (fun q _ h => hFc q h) hFc (fun r_266 M_267 t H_265 locs ht hvm hw hB hz1 hk1 hS => ?_)
              have hp_268 := hw
              obtain ⟨hP1, hK1, hD1⟩ := hB
              rw [ht] at hP1
              obtain ⟨hP, hD⟩ := va_joinQ (X := [(xa, (b11_1 x0 (nI x1) x2 (nI x3) x4 x5 x6 x7 x8 x9 x10))]) (cx := [(xa, (b11_1 x0 (nI x1) x2 (nI x3) x4 x5 x6 x7 x8 x9 x10))]) (wr := []) (w1 := [(xa, (b11_1 x0 (nI x1) x2 (nI x3) x4 x5 x6 x7 x8 9 (-1)))]) (pl := va_pl L M) hP hD [0] [] rfl rfl (by decide) (by decide) hk1 hFc hP1 hD1
              have hP : va_P D vwCl ([(xa, (b11_1 x0 (nI x1) x2 (nI x3) x4 x5 x6 x7 x8 9 (-1)))] ++ va_pl L M) H_265 := hP
              have hD : va_D A ([(xa, (b11_1 x0 (nI x1) x2 (nI x3) x4 x5 x6 x7 x8 9 (-1)))] ++ va_pl L M) := hD
              have hq := Eq.symm hp_268
              subst hq
              refine W.widen (k := 1) (n := 4) (Nat.le_of_ble_eq_true rfl) (Nat.le_of_ble_eq_true rfl) ?_
              have hI_269 : (0 : Int) ≤ (k1 : Int32).toInt := inltI rfl rfl c_2
              have hI_270 : (k1 : Int32).toInt < (6 : Int) := iltI rfl rfl c_8
              have hI_271 : (k1 : Int32).toInt = (5 : Int) := ieqI rfl rfl c_159
              have hI_272 : (k1 : Int32).toInt = (5 : Int) := ieqI rfl rfl c_224
              have hI_273 : (40 : Int) ≤ ((x3 : Nat) : Int) := inltI (nI_toInt (by omega)) rfl c_225
              obtain ⟨hr9, hb9⟩ := hqx.1 b_213 rfl
              have hck : ((k2 : Int32).toNatClampNeg : Int) = (k2 : Int32).toInt := clT (by omega)
              have hno : ¬ okPa x1 x3 k1 k2 := fun q9 => by unfold okPa at q9; omega
              have hE : cnPa x1 x3 k1 k2 = x3 := by unfold cnPa; rw [if_neg hno]
              have hP : va_P D vwCl ([(xa, (b11_1 x0 (nI x1) x2 (nI (cnPa x1 x3 k1 k2)) x4 x5 x6 x7 x8 9 (-1)))] ++ va_pl L M) H_265 := by rw [hE]; exact hP
              have hD : va_D A ([(xa, (b11_1 x0 (nI x1) x2 (nI (cnPa x1 x3 k1 k2)) x4 x5 x6 x7 x8 9 (-1)))] ++ va_pl L M) := by rw [hE]; exact hD
              rw [hQ]
              exact W.iret (v := (-1)) hx hb hr (fun t ht hW9 => ⟨⟨(-1), (K, L, M), rfl, ⟨hX0, hW, hF, (by unfold anPa; rw [if_neg hno])⟩, ⟨9, (by rw [hE]; unfold pkPa ptPa; rw [if_neg hno, if_neg hno]; exact hC.mono), (by rw [hE]; unfold pkPa ptPa; rw [if_neg hno, if_neg hno]; exact hPX), by rw [ht]; exact hP, hD⟩⟩, hS.F ht⟩) hS.2.2 dX11_partner_84
    · have hz := rfl (a := 0)
      refine lv_aload_n hx hb dX11_partner_10 rfl (lv_at hl 0 rfl) ?_
      refine lv_iconst (v := 2) hx hb dX11_partner_11 (by decide) ?_
      have hPc := hP.sub (ws' := [(xa, (b11_1 x0 (nI x1) x2 (nI x3) x4 x5 x6 x7 x8 x9 x10))]) [0] rfl
      have hDc := hD.sub (ws' := [(xa, (b11_1 x0 (nI x1) x2 (nI x3) x4 x5 x6 x7 x8 x9 x10))]) [0] (by decide) rfl
      have hKc := hK.sub (tys' := []) [] rfl
      have hFc := va_free (wc := [(xa, (b11_1 x0 (nI x1) x2 (nI x3) x4 x5 x6 x7 x8 x9 x10))]) hD hS hA [0] rfl
      refine va_calli (va_runV (As := [.int 2]) (rest := []) ⟨hx, hb, hml, hown, hg⟩ (k_refuse l D s.heap.size xa x0 (nI x1) x2 (nI x3) x4 x5 x6 x7 x8 x9 x10 2) (cwV 1 hg (gV wd_344 wd_345 wd_346 wd_3 wd_347) rfl rfl rfl (by decide +kernel) ⟨(Nat.le_trans (Nat.le_of_ble_eq_true rfl) hRf), (Nat.le_trans (Nat.le_of_ble_eq_true rfl) hRl)⟩) ⟨Pr.blind, va_recv hK hP (ci := 11) (q0 := 0) rfl rfl, fun U hU hW => ⟨rfl, Pr.at hPc hKc hDc hN hU hW⟩⟩ rfl rfl hl.1 rfl (lv_room (Nat.le_of_ble_eq_true rfl)) dX11_partner_12 ⟨(Nat.le_trans (Nat.le_of_ble_eq_true rfl) hRc), (Nat.le_trans (Nat.le_of_ble_eq_true rfl) hRs)⟩) hS (fun q _ h => hFc q h) hFc (fun r_275 M_276 t H_274 locs ht hvm hw hB hz1 hk1 hS => ?_)
      have hp_277 := hw
      obtain ⟨hP1, hK1, hD1⟩ := hB
      rw [ht] at hP1
      obtain ⟨hP, hD⟩ := va_joinQ (X := [(xa, (b11_1 x0 (nI x1) x2 (nI x3) x4 x5 x6 x7 x8 x9 x10))]) (cx := [(xa, (b11_1 x0 (nI x1) x2 (nI x3) x4 x5 x6 x7 x8 x9 x10))]) (wr := []) (w1 := [(xa, (b11_1 x0 (nI x1) x2 (nI x3) x4 x5 x6 x7 x8 2 (-1)))]) (pl := va_pl L M) hP hD [0] [] rfl rfl (by decide) (by decide) hk1 hFc hP1 hD1
      have hP : va_P D vwCl ([(xa, (b11_1 x0 (nI x1) x2 (nI x3) x4 x5 x6 x7 x8 2 (-1)))] ++ va_pl L M) H_274 := hP
      have hD : va_D A ([(xa, (b11_1 x0 (nI x1) x2 (nI x3) x4 x5 x6 x7 x8 2 (-1)))] ++ va_pl L M) := hD
      have hq := Eq.symm hp_277
      subst hq
      refine W.widen (k := 1) (n := 4) (Nat.le_of_ble_eq_true rfl) (Nat.le_of_ble_eq_true rfl) ?_
      have hI_278 : (0 : Int) ≤ (k1 : Int32).toInt := inltI rfl rfl c_2
      have hI_279 : (6 : Int) ≤ (k1 : Int32).toInt := inltI rfl rfl c_8
      have hno : ¬ okPa x1 x3 k1 k2 := fun q9 => by unfold okPa at q9; omega
      have hE : cnPa x1 x3 k1 k2 = x3 := by unfold cnPa; rw [if_neg hno]
      have hP : va_P D vwCl ([(xa, (b11_1 x0 (nI x1) x2 (nI (cnPa x1 x3 k1 k2)) x4 x5 x6 x7 x8 2 (-1)))] ++ va_pl L M) H_274 := by rw [hE]; exact hP
      have hD : va_D A ([(xa, (b11_1 x0 (nI x1) x2 (nI (cnPa x1 x3 k1 k2)) x4 x5 x6 x7 x8 2 (-1)))] ++ va_pl L M) := by rw [hE]; exact hD
      rw [hQ]
      exact W.iret (v := (-1)) hx hb hr (fun t ht hW9 => ⟨⟨(-1), (K, L, M), rfl, ⟨hX0, hW, hF, (by unfold anPa; rw [if_neg hno])⟩, ⟨2, (by rw [hE]; unfold pkPa ptPa; rw [if_neg hno, if_neg hno]; exact hC.mono), (by rw [hE]; unfold pkPa ptPa; rw [if_neg hno, if_neg hno]; exact hPX), by rw [ht]; exact hP, hD⟩⟩, hS.F ht⟩) hS.2.2 dX11_partner_15
