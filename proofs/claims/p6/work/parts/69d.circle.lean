

set_option maxHeartbeats 4000000 in
set_option maxRecDepth 100000 in
theorem x_circle (l : Launch) (D : va_G) (cy : Nat → ClassId) (K : Kp) (L : List Nat) (M : Hp) (sz : Nat) (xa : Nat) (x0 : Nat) (x1 : Nat) (x2 : Nat) (x3 : Nat) (x4 : Nat) (x5 : Nat) (x6 : Nat) (x7 : Int32) (x8 : Nat) (x9 : Int32) (x10 : Int32) (k1 : Int32) (CA : Nat → Int32) (hW : WOK cy K L M) (i0 : isk K L x0 17 8) (b1 : x1 ≤ 8) (i2 : isk K L x2 19 40) (b3 : x3 ≤ 40) (i4 : isk K L x4 7 0) (i5 : isk K L x5 5 0) (i6 : isk K L x6 60 24) (i8 : isk K L x8 73 25) (hRG : RGC M x5 CA) : Met l yX11_circle (wsM yX11_circle cX11_circle 2 (some .int)) ({ frames := 1, cells := 0, slots := 0, locals := 21 }) (va_Pc [.ref xa, .int k1] (PG D cy [(xa, (b11_1 x0 (nI x1) x2 (nI x3) x4 x5 x6 x7 x8 x9 x10))] L M sz)) (va_Qi (fun (r : Int32) (_ : Unit) => (r = (cirA CA k1))) (fun _ t => PQ D [(xa, (b11_1 x0 (nI x1) x2 (nI x3) x4 x5 x6 x7 x8 x9 x10))] L M (va_A ([(xa, (b11_1 x0 (nI x1) x2 (nI x3) x4 x5 x6 x7 x8 x9 x10))] ++ va_pl L M) sz) t) (va_A ([(xa, (b11_1 x0 (nI x1) x2 (nI x3) x4 x5 x6 x7 x8 x9 x10))] ++ va_pl L M) sz)) 0 0 (va_A ([(xa, (b11_1 x0 (nI x1) x2 (nI x3) x4 x5 x6 x7 x8 x9 x10))] ++ va_pl L M) sz) := by
  refine Met.ofW (cc := cX11_circle) (maxL := 2) (ret := (some .int)) (by decide) rfl ?_
  intro p e s m args below meth c s₁ B hml hv
  obtain ⟨rfl, hsz, hP, hK, hD0, hN⟩ := hv
  have hx := B.exec
  have hb := B.bytes
  have hr := B.returns
  have hts := atoms_spec (ws := (wsM yX11_circle cX11_circle 2 (some .int))) B.pre
  have hg : ∀ w ∈ lw_good, w.before _ s = true := fun w h => hts w (List.mem_cons_of_mem _ h)
  have hown : s.vm.findClass RX11 = some m.cls := findClass_of_methodNamed B.named
  have hlocks := B.notSynchronized
  subst hsz
  have hD := hD0.self (sz := s.heap.size)
  generalize hAe : va_A ([(xa, (b11_1 x0 (nI x1) x2 (nI x3) x4 x5 x6 x7 x8 x9 x10))] ++ va_pl L M) s.heap.size = A at hD ⊢
  have hA : ∀ q : Nat, s.heap.size ≤ q → A q := fun q h => by rw [← hAe]; exact Or.inr h
  have hS : va_S A s.heap s.heap [] := va_S.rf
  have hl := lv_entry ([.ref xa, .int k1]) (n := 2) (Nat.le_of_ble_eq_true rfl)
  rw [lg_entry_eq]
  generalize (lg_sl ([.ref xa, .int k1]) ++ List.replicate (2 - (lg_sl ([.ref xa, .int k1])).length) Slot.unset).toArray = ls at hl ⊢
  refine W.nameQ (fun Q hQ => ?_)
  refine W.nameR (fun R hR => ?_)
  have hRf : 1 ≤ R.frames := by rw [hR]; exact Nat.le_of_ble_eq_true rfl
  have hRl : 21 ≤ R.locals := by rw [hR]; exact Nat.le_of_ble_eq_true rfl
  have hRc : 0 ≤ R.cells := by rw [hR]; exact Nat.le_of_ble_eq_true rfl
  have hRs : 0 ≤ R.slots := by rw [hR]; exact Nat.le_of_ble_eq_true rfl
  have hl : lv_has ls 2 [(0, .ref xa), (1, .int k1)] := hl
  refine lv_aload_n hx hb dX11_circle_0 rfl (lv_at hl 0 rfl) ?_
  refine va_get (D := D) (ci := 11) (v := .ref x5) (C := RX11) (T := TX11) (N := 11) hx hb hg inG11 hown hK hP 0 rfl rfl 5 (by decide) (hg _ wd_371) (fun _ h9 => h9) rfl dX11_circle_1 ?_
  refine lv_iload_n hx hb dX11_circle_4 rfl (lv_at hl 1 rfl) ?_
  obtain ⟨v1_0, v1_1, v1_2, hM1, h1_0, h1_1⟩ := hW.open_5 i5
  have hPc : va_P D vwCl ([] ++ va_pl L M) s.heap := hP.part (cx := []) [] rfl
  have hDc : va_D A ([] ++ va_pl L M) := hD.part (cx := []) [] (by decide) rfl
  have hFc : ∀ q, va_A ([] ++ va_pl L M) s.heap.size q → A q := pg_free hDc hS hA
  refine va_calli (va_runV (As := [.int k1]) (rest := []) ⟨hx, hb, hml, hown, hg⟩ (e_step l D cy K L M s.heap.size x5 k1 CA v1_0 v1_1 v1_2 hW i5 hRG hM1 h1_0 h1_1) (cwV 1 hg (gV wd_372 wd_373 wd_374 wd_309 wd_375) rfl rfl rfl (by decide +kernel) ⟨(Nat.le_trans (Nat.le_of_ble_eq_true rfl) hRf), (Nat.le_trans (Nat.le_of_ble_eq_true rfl) hRl)⟩) ⟨PG.blind, pg_recv hK hP i5.1 hM1 rfl, fun U hU hW => ⟨rfl, PG.at hPc hK hDc hN hU hW⟩⟩ rfl rfl hl.1 rfl (lv_room (Nat.le_of_ble_eq_true rfl)) dX11_circle_5 ⟨(Nat.le_trans (Nat.le_of_ble_eq_true rfl) hRc), (Nat.le_trans (Nat.le_of_ble_eq_true rfl) hRs)⟩) hS (fun q _ h => hFc q h) hFc (fun r_3 M_4 t H_2 locs ht hvm hw hB hz1 hk1 hS => ?_)
  have hp_5 := hw
  obtain ⟨hP1, hD1⟩ := hB
  rw [ht] at hP1
  obtain ⟨hP, hD⟩ := va_joinP (X := [(xa, (b11_1 x0 (nI x1) x2 (nI x3) x4 x5 x6 x7 x8 x9 x10))]) (cx := []) (wr := [(xa, (b11_1 x0 (nI x1) x2 (nI x3) x4 x5 x6 x7 x8 x9 x10))]) (rx := []) (pl := va_pl L M) (pl1 := va_pl L M) hP hD [] [0] rfl rfl (by decide) (by decide) hk1 hFc hP1 hD1
  have hP : va_P D vwCl ([(xa, (b11_1 x0 (nI x1) x2 (nI x3) x4 x5 x6 x7 x8 x9 x10))] ++ va_pl L M) H_2 := hP
  have hD : va_D A ([(xa, (b11_1 x0 (nI x1) x2 (nI x3) x4 x5 x6 x7 x8 x9 x10))] ++ va_pl L M) := hD
  obtain rfl := hp_5
  rw [hQ]
  exact W.iret (v := (cirA CA k1)) hx hb hr (fun t ht hW9 => ⟨⟨(cirA CA k1), (), rfl, rfl, ⟨by rw [ht]; exact hP, hD⟩⟩, hS.F ht⟩) hS.2.2 dX11_circle_8
set_option maxHeartbeats 4000000 in
set_option maxRecDepth 100000 in
theorem z_circle (l : Launch) (D : va_G) (cy : Nat → ClassId) (K : Kp) (L : List Nat) (M : Hp) (sz : Nat) (za : Nat) (z0 : Int32) (z1 : Nat) (z2 : Nat) (z3 : Nat) (z4 : Int32) (z5 : Int32) (z6 : Nat) (z7 : Nat) (z8 : Nat) (z9 : Nat) (z10 : Nat) (z11 : Nat) (z12 : Nat) (z13 : Nat) (z14 : Nat) (z15 : Nat) (z16 : Nat) (z17 : Nat) (z18 : Int32) (z19 : Nat) (k1 : Int32) (CA : Nat → Int32) (hW : WOM cy K L M) (i1 : isk K L z1 23 8) (b2 : z2 ≤ 8) (b3 : z3 ≤ 40) (i6 : isk K L z6 47 40) (i7 : isk K L z7 48 40) (i8 : isk K L z8 49 8) (i9 : isk K L z9 50 8) (b10 : z10 ≤ 8) (i11 : isk K L z11 32 24) (i12 : isk K L z12 14 24) (i13 : isk K L z13 97 24) (i14 : isk K L z14 98 24) (i15 : isk K L z15 99 24) (b16 : z16 ≤ 24) (i17 : isk K L z17 14 24) (i19 : isk K L z19 15 25) (hZG : ZGC M z8 z10 CA) : Met l yX13_circle (wsM yX13_circle cX13_circle 2 (some .int)) ({ frames := 0, cells := 0, slots := 0, locals := 0 }) (va_Pc [.ref za, .int k1] (PG D cy [(za, (b13_0 z0 z1 (nI z2) (nI z3) z4 z5 z6 z7 z8 z9 (nI z10) z11 z12 z13 z14 z15 (nI z16) z17 z18 z19))] L M sz)) (va_Qi (fun (r : Int32) (_ : Unit) => (r = (cirA CA k1))) (fun _ t => PQ D [(za, (b13_0 0 z1 (nI z2) (nI z3) z4 z5 z6 z7 z8 z9 (nI z10) z11 z12 z13 z14 z15 (nI z16) z17 z18 z19))] L M (va_A ([(za, (b13_0 z0 z1 (nI z2) (nI z3) z4 z5 z6 z7 z8 z9 (nI z10) z11 z12 z13 z14 z15 (nI z16) z17 z18 z19))] ++ va_pl L M) sz) t) (va_A ([(za, (b13_0 z0 z1 (nI z2) (nI z3) z4 z5 z6 z7 z8 z9 (nI z10) z11 z12 z13 z14 z15 (nI z16) z17 z18 z19))] ++ va_pl L M) sz)) 0 0 (va_A ([(za, (b13_0 z0 z1 (nI z2) (nI z3) z4 z5 z6 z7 z8 z9 (nI z10) z11 z12 z13 z14 z15 (nI z16) z17 z18 z19))] ++ va_pl L M) sz) := by
  refine Met.ofW (cc := cX13_circle) (maxL := 2) (ret := (some .int)) (by decide) rfl ?_
  intro p e s m args below meth c s₁ B hml hv
  obtain ⟨rfl, hsz, hP, hK, hD0, hN⟩ := hv
  have hx := B.exec
  have hb := B.bytes
  have hr := B.returns
  have hts := atoms_spec (ws := (wsM yX13_circle cX13_circle 2 (some .int))) B.pre
  have hg : ∀ w ∈ lw_good, w.before _ s = true := fun w h => hts w (List.mem_cons_of_mem _ h)
  have hown : s.vm.findClass RX13 = some m.cls := findClass_of_methodNamed B.named
  have hlocks := B.notSynchronized
  subst hsz
  have hD := hD0.self (sz := s.heap.size)
  generalize hAe : va_A ([(za, (b13_0 z0 z1 (nI z2) (nI z3) z4 z5 z6 z7 z8 z9 (nI z10) z11 z12 z13 z14 z15 (nI z16) z17 z18 z19))] ++ va_pl L M) s.heap.size = A at hD ⊢
  have hA : ∀ q : Nat, s.heap.size ≤ q → A q := fun q h => by rw [← hAe]; exact Or.inr h
  have hS : va_S A s.heap s.heap [] := va_S.rf
  have hl := lv_entry ([.ref za, .int k1]) (n := 2) (Nat.le_of_ble_eq_true rfl)
  rw [lg_entry_eq]
  generalize (lg_sl ([.ref za, .int k1]) ++ List.replicate (2 - (lg_sl ([.ref za, .int k1])).length) Slot.unset).toArray = ls at hl ⊢
  refine W.nameQ (fun Q hQ => ?_)
  refine W.nameR (fun R hR => ?_)
  have hRf : 0 ≤ R.frames := by rw [hR]; exact Nat.le_of_ble_eq_true rfl
  have hRl : 0 ≤ R.locals := by rw [hR]; exact Nat.le_of_ble_eq_true rfl
  have hRc : 0 ≤ R.cells := by rw [hR]; exact Nat.le_of_ble_eq_true rfl
  have hRs : 0 ≤ R.slots := by rw [hR]; exact Nat.le_of_ble_eq_true rfl
  have hl : lv_has ls 2 [(0, .ref za), (1, .int k1)] := hl
  refine lv_aload_n hx hb dX13_circle_0 rfl (lv_at hl 0 rfl) ?_
  refine lv_iconst (v := 0) hx hb dX13_circle_1 (by decide) ?_
  refine va_put (D := D) (ci := 13) (v := .int 0) (ty := .int) (C := RX13) (T := TX13) (N := 20) hx hb hg inG13 tyX13 tyX13_ok nmX13 hown hK hP hD hS 0 rfl rfl 0 (by decide) (hg _ wd_720) (fun _ h9 => h9) rfl (by decide +kernel) rfl rfl (Nat.le_of_ble_eq_true rfl) dX13_circle_2 (fun H_1 locs hP hD hS => ?_)
  have hP : va_P D vwCl ([(za, (b13_0 0 z1 (nI z2) (nI z3) z4 z5 z6 z7 z8 z9 (nI z10) z11 z12 z13 z14 z15 (nI z16) z17 z18 z19))] ++ va_pl L M) H_1 := hP
  have hD : va_D A ([(za, (b13_0 0 z1 (nI z2) (nI z3) z4 z5 z6 z7 z8 z9 (nI z10) z11 z12 z13 z14 z15 (nI z16) z17 z18 z19))] ++ va_pl L M) := hD
  refine lv_iload_n hx hb dX13_circle_5 rfl (lv_at hl 1 rfl) ?_
  refine lv_if_lt (tgt := 26) hx hb dX13_circle_6 (by decide) (fun c_2 => ?_) (fun c_2 => ?_)
  · have hz := rfl (a := 0)
    refine lv_iconst (v := (-1)) hx hb dX13_circle_26 (by decide) ?_
    have hI_3 : (k1 : Int32).toInt < (0 : Int) := iltI rfl rfl c_2
    have hz10 : (nI z10).toInt = ((z10 : Nat) : Int) := nI_toInt (by omega)
    rw [hQ]
    exact W.iret (v := (-1)) hx hb hr (fun t ht hW9 => ⟨⟨(-1), (), rfl, (by unfold cirA; by_cases z9 : 0 ≤ k1.toInt ∧ k1.toInt < 8; rw [if_pos z9]; have hck := clT z9.1; have h9 := hZG k1.toNatClampNeg; rw [if_neg (by omega)] at h9; exact h9; rw [if_neg z9]), ⟨by rw [ht]; exact hP, hD⟩⟩, hS.F ht⟩) hS.2.2 dX13_circle_27
  · have hz := rfl (a := 0)
    refine lv_iload_n hx hb dX13_circle_9 rfl (lv_at hl 1 rfl) ?_
    refine lv_aload_n hx hb dX13_circle_10 rfl (lv_at hl 0 rfl) ?_
    refine va_get (D := D) (ci := 13) (v := .int (nI z10)) (C := RX13) (T := TX13) (N := 20) hx hb hg inG13 hown hK hP 0 rfl rfl 10 (by decide) (hg _ wd_723) (fun _ h9 => h9) rfl dX13_circle_11 ?_
    refine lv_icmp_ge (tgt := 26) hx hb dX13_circle_14 (by decide) (fun c_4 => ?_) (fun c_4 => ?_)
    · have hz := rfl (a := 0)
      refine lv_iconst (v := (-1)) hx hb dX13_circle_26 (by decide) ?_
      have hI_5 : (0 : Int) ≤ (k1 : Int32).toInt := inltI rfl rfl c_2
      have hI_6 : ((z10 : Nat) : Int) ≤ (k1 : Int32).toInt := ileI (nI_toInt (by omega)) rfl c_4
      have hz10 : (nI z10).toInt = ((z10 : Nat) : Int) := nI_toInt (by omega)
      rw [hQ]
      exact W.iret (v := (-1)) hx hb hr (fun t ht hW9 => ⟨⟨(-1), (), rfl, (by unfold cirA; by_cases z9 : 0 ≤ k1.toInt ∧ k1.toInt < 8; rw [if_pos z9]; have hck := clT z9.1; have h9 := hZG k1.toNatClampNeg; rw [if_neg (by omega)] at h9; exact h9; rw [if_neg z9]), ⟨by rw [ht]; exact hP, hD⟩⟩, hS.F ht⟩) hS.2.2 dX13_circle_27
    · have hz := rfl (a := 0)
      have n_7 : ¬ 8 ≤ k1 := ltB (b := 8) (by decide) (by omega) (Int32.not_le.mp c_4)
      refine lv_aload_n hx hb dX13_circle_17 rfl (lv_at hl 0 rfl) ?_
      refine va_get (D := D) (ci := 13) (v := .ref z8) (C := RX13) (T := TX13) (N := 20) hx hb hg inG13 hown hK hP 0 rfl rfl 8 (by decide) (hg _ wd_724) (fun _ h9 => h9) rfl dX13_circle_18 ?_
      refine lv_iload_n hx hb dX13_circle_21 rfl (lv_at hl 1 rfl) ?_
      obtain ⟨f8, hM8⟩ := hW.open_49 i8
      refine pg_iald hx hb hK hP i8.1 0 hM8 rfl (inb k1 8 (by omega) c_2 n_7) dX13_circle_22 ?_
      refine lv_topi (fun f_9 ef_9 => ?_)
      refine lv_goto (tgt := 27) hx hb dX13_circle_23 (by decide) ?_
      have hI_10 : (0 : Int) ≤ (k1 : Int32).toInt := inltI rfl rfl c_2
      have hI_11 : (k1 : Int32).toInt < ((z10 : Nat) : Int) := inleI (nI_toInt (by omega)) rfl c_4
      have hI_12 : (k1 : Int32).toInt < (8 : Int) := inleI rfl rfl n_7
      have hz10 : (nI z10).toInt = ((z10 : Nat) : Int) := nI_toInt (by omega)
      rw [hQ]
      exact W.iret (v := f_9) hx hb hr (fun t ht hW9 => ⟨⟨f_9, (), rfl, (by unfold cirA; have hck : ((k1 : Int32).toNatClampNeg : Int) = k1.toInt := clT (by omega); rw [if_pos (by omega)]; have h9 := hZG k1.toNatClampNeg; rw [if_pos (by omega), IFc_of hM8] at h9; rw [← h9]; exact ef_9), ⟨by rw [ht]; exact hP, hD⟩⟩, hS.F ht⟩) hS.2.2 dX13_circle_27
