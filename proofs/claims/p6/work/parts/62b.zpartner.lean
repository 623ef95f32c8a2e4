set_option maxHeartbeats 4000000 in
set_option maxRecDepth 100000 in
theorem z_partner (l : Launch) (D : va_G) (cy : Nat → ClassId) (K : Kp) (L : List Nat) (M : Hp) (sz : Nat) (za : Nat) (z0 : Int32) (z1 : Nat) (z2 : Nat) (z3 : Nat) (z4 : Int32) (z5 : Int32) (z6 : Nat) (z7 : Nat) (z8 : Nat) (z9 : Nat) (z10 : Nat) (z11 : Nat) (z12 : Nat) (z13 : Nat) (z14 : Nat) (z15 : Nat) (z16 : Nat) (z17 : Nat) (z18 : Int32) (z19 : Nat) (k1 : Int32) (k2 : Int32) (PK : Nat → Int32) (PT : Nat → Int32) (hW : WOM cy K L M) (i1 : isk K L z1 23 8) (b2 : z2 ≤ 8) (b3 : z3 ≤ 40) (i6 : isk K L z6 47 40) (i7 : isk K L z7 48 40) (i8 : isk K L z8 49 8) (i9 : isk K L z9 50 8) (b10 : z10 ≤ 8) (i11 : isk K L z11 32 24) (i12 : isk K L z12 14 24) (i13 : isk K L z13 97 24) (i14 : isk K L z14 98 24) (i15 : isk K L z15 99 24) (b16 : z16 ≤ 24) (i17 : isk K L z17 14 24) (i19 : isk K L z19 15 25) (hR5 : R5 z6 z7 M) (hZP : ZP z6 z7 PK PT M) : Met l yX13_partner (wsM yX13_partner cX13_partner 4 (some .int)) ({ frames := 1, cells := 0, slots := 0, locals := 21 }) (va_Pc [.ref za, .int k1, .int k2] (PG D cy [(za, (b13_0 z0 z1 (nI z2) (nI z3) z4 z5 z6 z7 z8 z9 (nI z10) z11 z12 z13 z14 z15 (nI z16) z17 z18 z19))] L M sz)) (va_Qi (fun (r : Int32) (M9 : Hp) => WOM cy K L M9 ∧ fr K L [47, 48] M M9 ∧ (R5 z6 z7 M9 ∧ ZP z6 z7 (pkPa z2 z3 PK k1 k2) (ptPa z2 z3 PT k1 k2) M9) ∧ ((r = anPa z2 z3 k1 k2))) (fun M9 t => ∃ (w4 : Int32), PQ D [(za, (b13_0 0 z1 (nI z2) (nI (cnPa z2 z3 k1 k2)) w4 (-1) z6 z7 z8 z9 (nI z10) z11 z12 z13 z14 z15 (nI z16) z17 z18 z19))] L M9 (va_A ([(za, (b13_0 z0 z1 (nI z2) (nI z3) z4 z5 z6 z7 z8 z9 (nI z10) z11 z12 z13 z14 z15 (nI z16) z17 z18 z19))] ++ va_pl L M) sz) t) (va_A ([(za, (b13_0 z0 z1 (nI z2) (nI z3) z4 z5 z6 z7 z8 z9 (nI z10) z11 z12 z13 z14 z15 (nI z16) z17 z18 z19))] ++ va_pl L M) sz)) 0 0 (va_A ([(za, (b13_0 z0 z1 (nI z2) (nI z3) z4 z5 z6 z7 z8 z9 (nI z10) z11 z12 z13 z14 z15 (nI z16) z17 z18 z19))] ++ va_pl L M) sz) := by
  refine Met.ofW (cc := cX13_partner) (maxL := 4) (ret := (some .int)) (by decide) rfl ?_
  intro p e s m args below meth c s₁ B hml hv
  obtain ⟨rfl, hsz, hP, hK, hD0, hN⟩ := hv
  have hx := B.exec
  have hb := B.bytes
  have hr := B.returns
  have hts := atoms_spec (ws := (wsM yX13_partner cX13_partner 4 (some .int))) B.pre
  have hg : ∀ w ∈ lw_good, w.before _ s = true := fun w h => hts w (List.mem_cons_of_mem _ h)
  have hown : s.vm.findClass RX13 = some m.cls := findClass_of_methodNamed B.named
  have hlocks := B.notSynchronized
  subst hsz
  have hD := hD0.self (sz := s.heap.size)
  generalize hAe : va_A ([(za, (b13_0 z0 z1 (nI z2) (nI z3) z4 z5 z6 z7 z8 z9 (nI z10) z11 z12 z13 z14 z15 (nI z16) z17 z18 z19))] ++ va_pl L M) s.heap.size = A at hD ⊢
  have hA : ∀ q : Nat, s.heap.size ≤ q → A q := fun q h => by rw [← hAe]; exact Or.inr h
  have hS : va_S A s.heap s.heap [] := va_S.rf
  have hl := lv_entry ([.ref za, .int k1, .int k2]) (n := 4) (Nat.le_of_ble_eq_true rfl)
  rw [lg_entry_eq]
  generalize (lg_sl ([.ref za, .int k1, .int k2]) ++ List.replicate (4 - (lg_sl ([.ref za, .int k1, .int k2])).length) Slot.unset).toArray = ls at hl ⊢
  refine W.nameQ (fun Q hQ => ?_)
  refine W.nameR (fun R hR => ?_)
  have hRf : 1 ≤ R.frames := by rw [hR]; exact Nat.le_of_ble_eq_true rfl
  have hRl : 21 ≤ R.locals := by rw [hR]; exact Nat.le_of_ble_eq_true rfl
  have hRc : 0 ≤ R.cells := by rw [hR]; exact Nat.le_of_ble_eq_true rfl
  have hRs : 0 ≤ R.slots := by rw [hR]; exact Nat.le_of_ble_eq_true rfl
  have hF : fr K L [47, 48] M M := fr.rf
  have hl : lv_has ls 4 [(0, .ref za), (1, .int k1), (2, .int k2)] := hl
  refine lv_aload_n hx hb dX13_partner_0 rfl (lv_at hl 0 rfl) ?_
  refine lv_iconst (v := 0) hx hb dX13_partner_1 (by decide) ?_
  refine va_put (D := D) (ci := 13) (v := .int 0) (ty := .int) (C := RX13) (T := TX13) (N := 20) hx hb hg inG13 tyX13 tyX13_ok nmX13 hown hK hP hD hS 0 rfl rfl 0 (by decide) (hg _ wd_720) (fun _ h9 => h9) rfl (by decide +kernel) rfl rfl (Nat.le_of_ble_eq_true rfl) dX13_partner_2 (fun H_1 locs hP hD hS => ?_)
  have hP : va_P D vwCl ([(za, (b13_0 0 z1 (nI z2) (nI z3) z4 z5 z6 z7 z8 z9 (nI z10) z11 z12 z13 z14 z15 (nI z16) z17 z18 z19))] ++ va_pl L M) H_1 := hP
  have hD : va_D A ([(za, (b13_0 0 z1 (nI z2) (nI z3) z4 z5 z6 z7 z8 z9 (nI z10) z11 z12 z13 z14 z15 (nI z16) z17 z18 z19))] ++ va_pl L M) := hD
  refine lv_iload_n hx hb dX13_partner_5 rfl (lv_at hl 1 rfl) ?_
  refine lv_iconst (v := 1) hx hb dX13_partner_6 (by decide) ?_
  refine lv_icmp_eq (tgt := 20) hx hb dX13_partner_7 (by decide) (fun c_2 => ?_) (fun c_2 => ?_)
  · have hz := rfl (a := 0)
    refine lv_iconst (v := 1) hx hb dX13_partner_20 (by decide) ?_
    refine lv_goto (tgt := 25) hx hb dX13_partner_21 (by decide) ?_
    refine lv_istore_n (lv' := [(3, .int 1), (0, .ref za), (1, .int k1), (2, .int k2)]) hx hb dX13_partner_25 rfl hl (by decide) rfl (fun ls hl => ?_)
    refine lv_iload_n hx hb dX13_partner_26 rfl (lv_at hl 2 rfl) ?_
    refine lv_if_lt (tgt := 49) hx hb dX13_partner_27 (by decide) (fun c_3 => absurd c_3 (by rw [c_2]; decide)) (fun c_3 => ?_)
    refine lv_iload_n hx hb dX13_partner_30 rfl (lv_at hl 2 rfl) ?_
    refine lv_iconst (v := 5) hx hb dX13_partner_31 (by decide) ?_
    refine lv_icmp_gt (tgt := 49) hx hb dX13_partner_32 (by decide) (fun c_4 => absurd c_4 (by rw [c_2]; decide)) (fun c_4 => ?_)
    refine lv_iload_n hx hb dX13_partner_35 rfl (lv_at hl 0 rfl) ?_
    refine lv_if_eq (tgt := 55) hx hb dX13_partner_36 (by decide) (fun c_5 => absurd c_5 (by decide)) (fun _ => ?_)
    refine lv_iload_n hx hb dX13_partner_39 rfl (lv_at hl 3 rfl) ?_
    refine lv_if_lt (tgt := 49) hx hb dX13_partner_40 (by decide) (fun c_6 => ?_) (fun c_6 => ?_)
    · have hz := rfl (a := 0)
      refine lv_aload_n hx hb dX13_partner_49 rfl (lv_at hl 1 rfl) ?_
      refine lv_iconst (v := 2) hx hb dX13_partner_50 (by decide) ?_
      have hPc := hP.sub (ws' := [(za, (b13_0 0 z1 (nI z2) (nI z3) z4 z5 z6 z7 z8 z9 (nI z10) z11 z12 z13 z14 z15 (nI z16) z17 z18 z19))]) [0] rfl
      have hDc := hD.sub (ws' := [(za, (b13_0 0 z1 (nI z2) (nI z3) z4 z5 z6 z7 z8 z9 (nI z10) z11 z12 z13 z14 z15 (nI z16) z17 z18 z19))]) [0] (by decide) rfl
      have hKc := hK.sub (tys' := []) [] rfl
      have hFc := va_free (wc := [(za, (b13_0 0 z1 (nI z2) (nI z3) z4 z5 z6 z7 z8 z9 (nI z10) z11 z12 z13 z14 z15 (nI z16) z17 z18 z19))]) hD hS hA [0] rfl
      refine va_calli (va_runV (As := [.int 2]) (rest := []) ⟨hx, hb, hml, hown, hg⟩ (m_refused l D H_1.size za 0 z1 (nI z2) (nI z3) z4 z5 z6 z7 z8 z9 (nI z10) z11 z12 z13 z14 z15 (nI z16) z17 z18 z19 2) (cwV 1 hg (gV wd_725 wd_726 wd_727 wd_717 wd_728) rfl rfl rfl (by decide +kernel) ⟨(Nat.le_trans (Nat.le_of_ble_eq_true rfl) hRf), (Nat.le_trans (Nat.le_of_ble_eq_true rfl) hRl)⟩) ⟨Pr.blind, va_recv hK hP (ci := 13) (q0 := 0) rfl rfl, fun U hU hW => ⟨rfl, Pr.at hPc hKc hDc hN hU hW⟩⟩ rfl rfl hl.1 rfl (lv_room (Nat.le_of_ble_eq_true rfl)) dX13_partner_51 ⟨(Nat.le_trans (Nat.le_of_ble_eq_true rfl) hRc), (Nat.le_trans (Nat.le_of_ble_eq_true rfl) hRs)⟩) hS (fun q _ h => hFc q h) hFc (fun r_8 M_9 t H_7 locs ht hvm hw hB hz1 hk1 hS => ?_)
      have hp_10 := hw
      obtain ⟨hP1, hK1, hD1⟩ := hB
      rw [ht] at hP1
      obtain ⟨hP, hD⟩ := va_joinQ (X := [(za, (b13_0 0 z1 (nI z2) (nI z3) z4 z5 z6 z7 z8 z9 (nI z10) z11 z12 z13 z14 z15 (nI z16) z17 z18 z19))]) (cx := [(za, (b13_0 0 z1 (nI z2) (nI z3) z4 z5 z6 z7 z8 z9 (nI z10) z11 z12 z13 z14 z15 (nI z16) z17 z18 z19))]) (wr := []) (w1 := [(za, (b13_0 0 z1 (nI z2) (nI z3) 2 (-1) z6 z7 z8 z9 (nI z10) z11 z12 z13 z14 z15 (nI z16) z17 z18 z19))]) (pl := va_pl L M) hP hD [0] [] rfl rfl (by decide) (by decide) hk1 hFc hP1 hD1
      have hP : va_P D vwCl ([(za, (b13_0 0 z1 (nI z2) (nI z3) 2 (-1) z6 z7 z8 z9 (nI z10) z11 z12 z13 z14 z15 (nI z16) z17 z18 z19))] ++ va_pl L M) H_7 := hP
      have hD : va_D A ([(za, (b13_0 0 z1 (nI z2) (nI z3) 2 (-1) z6 z7 z8 z9 (nI z10) z11 z12 z13 z14 z15 (nI z16) z17 z18 z19))] ++ va_pl L M) := hD
      have hq := Eq.symm hp_10
      subst hq
      have hI_11 : (k1 : Int32).toInt = (1 : Int) := ieqI rfl rfl c_2
      have hI_12 : (0 : Int) ≤ (k1 : Int32).toInt := inltI rfl rfl c_3
      have hI_13 : (k1 : Int32).toInt ≤ (5 : Int) := inltI rfl rfl c_4
      have hI_14 : (k2 : Int32).toInt < (0 : Int) := iltI rfl rfl c_6
      have hno : ¬ okPa z2 z3 k1 k2 := fun q9 => by unfold okPa at q9; omega
      have hE : cnPa z2 z3 k1 k2 = z3 := by unfold cnPa; rw [if_neg hno]
      have hP : va_P D vwCl ([(za, (b13_0 0 z1 (nI z2) (nI (cnPa z2 z3 k1 k2)) 2 (-1) z6 z7 z8 z9 (nI z10) z11 z12 z13 z14 z15 (nI z16) z17 z18 z19))] ++ va_pl L M) H_7 := by rw [hE]; exact hP
      have hD : va_D A ([(za, (b13_0 0 z1 (nI z2) (nI (cnPa z2 z3 k1 k2)) 2 (-1) z6 z7 z8 z9 (nI z10) z11 z12 z13 z14 z15 (nI z16) z17 z18 z19))] ++ va_pl L M) := by rw [hE]; exact hD
      rw [hQ]
      exact W.iret (v := (-1)) hx hb hr (fun t ht hW9 => ⟨⟨(-1), M, rfl, ⟨hW, hF, ⟨hR5, by unfold pkPa ptPa; rw [if_neg hno, if_neg hno]; exact hZP⟩, (by unfold anPa; rw [if_neg hno])⟩, ⟨2, by rw [ht]; exact hP, hD⟩⟩, hS.F ht⟩) hS.2.2 dX13_partner_54
    · have hz := rfl (a := 0)
      refine lv_iload_n hx hb dX13_partner_43 rfl (lv_at hl 3 rfl) ?_
      refine lv_ldc (v := 1000000000) hx hb hown (hg _ wd_712) dX13_partner_44 ?_
      refine lv_icmp_le (tgt := 55) hx hb dX13_partner_46 (by decide) (fun c_15 => ?_) (fun c_15 => ?_)
      · have hz := rfl (a := 0)
        refine lv_iload_n hx hb dX13_partner_55 rfl (lv_at hl 2 rfl) ?_
        refine lv_iconst (v := 5) hx hb dX13_partner_56 (by decide) ?_
        refine lv_icmp_ne (tgt := 74) hx hb dX13_partner_57 (by decide) (fun c_16 => ?_) (fun c_16 => absurd c_16 (by rw [c_2]; decide))
        refine lv_aload_n hx hb dX13_partner_74 rfl (lv_at hl 1 rfl) ?_
        refine va_get (D := D) (ci := 13) (v := .int (nI z3)) (C := RX13) (T := TX13) (N := 20) hx hb hg inG13 hown hK hP 0 rfl rfl 3 (by decide) (hg _ wd_831) (fun _ h9 => h9) rfl dX13_partner_75 ?_
        refine lv_bipush (v := 40) hx hb dX13_partner_78 (by decide) ?_
        refine lv_icmp_ne (tgt := 90) hx hb dX13_partner_80 (by decide) (fun c_17 => ?_) (fun c_17 => ?_)
        · have hz := rfl (a := 0)
          have n_18 : ¬ (z3 = 40) := fun q => c_17 ((iEQ (a := z3) (b := 40) (by omega) (by omega)).mpr q)
          obtain ⟨f19, hM19, hf19⟩ := hW.open_47 i6
          obtain ⟨f20, hM20⟩ := hW.open_48 i7
          have he6 := hM19
          have he7 := hM20
          refine lv_aload_n hx hb dX13_partner_90 rfl (lv_at hl 1 rfl) ?_
          refine va_get (D := D) (ci := 13) (v := .ref z6) (C := RX13) (T := TX13) (N := 20) hx hb hg inG13 hown hK hP 0 rfl rfl 6 (by decide) (hg _ wd_719) (fun _ h9 => h9) rfl dX13_partner_91 ?_
          refine lv_aload_n hx hb dX13_partner_94 rfl (lv_at hl 1 rfl) ?_
          refine va_get (D := D) (ci := 13) (v := .int (nI z3)) (C := RX13) (T := TX13) (N := 20) hx hb hg inG13 hown hK hP 0 rfl rfl 3 (by decide) (hg _ wd_831) (fun _ h9 => h9) rfl dX13_partner_95 ?_
          refine lv_iload_n hx hb dX13_partner_98 rfl (lv_at hl 2 rfl) ?_
          obtain ⟨j_21, hj_22, rfl⟩ := i32nat 6 (by decide) c_3 (leB (b := 6) (c := 5) (by decide) (by decide) (Int32.not_lt.mp c_4))
          refine pg_iast hx hb hK hP hD hS i6.1 0 hM19 rfl (inbN z3 40 (by omega) (by omega)) dX13_partner_99 (fun H_23 locs hP hD hS => ?_)
          obtain ⟨M_24, eM_24⟩ : ∃ M1 : Hp, M1 = va_up M z6 (.inl (cy 14, 40, .inl (upd f19 ((nI z3) : Int32).toNatClampNeg (nI j_21)))) := ⟨_, rfl⟩
          have hP : va_P D vwCl ([(za, (b13_0 0 z1 (nI z2) (nI z3) z4 z5 z6 z7 z8 z9 (nI z10) z11 z12 z13 z14 z15 (nI z16) z17 z18 z19))] ++ va_pl L M_24) H_23 := by rw [eM_24]; exact hP
          have hD : va_D A ([(za, (b13_0 0 z1 (nI z2) (nI z3) z4 z5 z6 z7 z8 z9 (nI z10) z11 z12 z13 z14 z15 (nI z16) z17 z18 z19))] ++ va_pl L M_24) := by rw [eM_24]; exact hD
          have hW : WOM cy K L M_24 := by rw [eM_24]; exact hW.up_47 i6 ⟨_, rfl, (updP (P := fun z => ∃ c : Nat, c < 6 ∧ z = nI c) hf19 ⟨j_21, by omega, rfl⟩)⟩
          have hF : fr K L [47, 48] M M_24 := by rw [eM_24]; exact hF.up i6 (by decide)
          have hM_25 : M_24 z6 = .inl (cy 14, 40, .inl (upd f19 ((nI z3) : Int32).toNatClampNeg (nI j_21))) := by rw [eM_24]; exact va_up_self _ _ _
          have hM_26 : M_24 z7 = .inl (cy 14, 40, .inl (f20)) := by rw [eM_24, va_up_ne _ _ (i7.neT i6 (by decide))]; exact hM20
          have hf_28 : ∀ j, j < 40 → ∃ c : Nat, c < 6 ∧ (upd f19 ((nI z3) : Int32).toNatClampNeg (nI j_21)) j = nI c := (updP (P := fun z => ∃ c : Nat, c < 6 ∧ z = nI c) hf19 ⟨j_21, by omega, rfl⟩)
          obtain ⟨f_27, ef_27⟩ : ∃ f : Nat → Int32, f = upd f19 ((nI z3) : Int32).toNatClampNeg (nI j_21) := ⟨_, rfl⟩
          rw [← ef_27] at hM_25 hf_28
          refine lv_aload_n hx hb dX13_partner_100 rfl (lv_at hl 1 rfl) ?_
          refine va_get (D := D) (ci := 13) (v := .ref z7) (C := RX13) (T := TX13) (N := 20) hx hb hg inG13 hown hK hP 0 rfl rfl 7 (by decide) (hg _ wd_760) (fun _ h9 => h9) rfl dX13_partner_101 ?_
          refine lv_aload_n hx hb dX13_partner_104 rfl (lv_at hl 1 rfl) ?_
          refine va_get (D := D) (ci := 13) (v := .int (nI z3)) (C := RX13) (T := TX13) (N := 20) hx hb hg inG13 hown hK hP 0 rfl rfl 3 (by decide) (hg _ wd_831) (fun _ h9 => h9) rfl dX13_partner_105 ?_
          refine lv_iload_n hx hb dX13_partner_108 rfl (lv_at hl 3 rfl) ?_
          refine pg_iast hx hb hK hP hD hS i7.1 0 hM_26 rfl (inbN z3 40 (by omega) (by omega)) dX13_partner_109 (fun H_29 locs hP hD hS => ?_)
          obtain ⟨M_30, eM_30⟩ : ∃ M1 : Hp, M1 = va_up M_24 z7 (.inl (cy 14, 40, .inl (upd f20 ((nI z3) : Int32).toNatClampNeg k2))) := ⟨_, rfl⟩
          have hP : va_P D vwCl ([(za, (b13_0 0 z1 (nI z2) (nI z3) z4 z5 z6 z7 z8 z9 (nI z10) z11 z12 z13 z14 z15 (nI z16) z17 z18 z19))] ++ va_pl L M_30) H_29 := by rw [eM_30]; exact hP
          have hD : va_D A ([(za, (b13_0 0 z1 (nI z2) (nI z3) z4 z5 z6 z7 z8 z9 (nI z10) z11 z12 z13 z14 z15 (nI z16) z17 z18 z19))] ++ va_pl L M_30) := by rw [eM_30]; exact hD
          have hW : WOM cy K L M_30 := by rw [eM_30]; exact hW.up_48 i7 ⟨_, rfl⟩
          have hF : fr K L [47, 48] M M_30 := by rw [eM_30]; exact hF.up i7 (by decide)
          have hM_31 : M_30 z7 = .inl (cy 14, 40, .inl (upd f20 ((nI z3) : Int32).toNatClampNeg k2)) := by rw [eM_30]; exact va_up_self _ _ _
          have hM_32 : M_30 z6 = .inl (cy 14, 40, .inl (f_27)) := by rw [eM_30, va_up_ne _ _ (i6.neT i7 (by decide))]; exact hM_25
          obtain ⟨f_33, ef_33⟩ : ∃ f : Nat → Int32, f = upd f20 ((nI z3) : Int32).toNatClampNeg k2 := ⟨_, rfl⟩
          rw [← ef_33] at hM_31
          refine lv_aload_n hx hb dX13_partner_110 rfl (lv_at hl 1 rfl) ?_
          refine lv_dup hx hb dX13_partner_111 rfl ?_
          refine va_get (D := D) (ci := 13) (v := .int (nI z3)) (C := RX13) (T := TX13) (N := 20) hx hb hg inG13 hown hK hP 0 rfl rfl 3 (by decide) (hg _ wd_831) (fun _ h9 => h9) rfl dX13_partner_112 ?_
          refine lv_iconst (v := 1) hx hb dX13_partner_115 (by decide) ?_
          refine lv_iadd hx hb dX13_partner_116 ?_
          refine lv_topi (fun f_34 ef_34 => ?_)
          obtain rfl : f_34 = (nI (z3 + 1)) := ef_34.trans (nI_add z3 1)
          refine va_put (D := D) (ci := 13) (v := .int (nI (z3 + 1))) (ty := .int) (C := RX13) (T := TX13) (N := 20) hx hb hg inG13 tyX13 tyX13_ok nmX13 hown hK hP hD hS 0 rfl rfl 3 (by decide) (hg _ wd_831) (fun _ h9 => h9) rfl (by decide +kernel) rfl rfl (Nat.le_of_ble_eq_true rfl) dX13_partner_117 (fun H_35 locs hP hD hS => ?_)
          have hP : va_P D vwCl ([(za, (b13_0 0 z1 (nI z2) (nI (z3 + 1)) z4 z5 z6 z7 z8 z9 (nI z10) z11 z12 z13 z14 z15 (nI z16) z17 z18 z19))] ++ va_pl L M_30) H_35 := hP
          have hD : va_D A ([(za, (b13_0 0 z1 (nI z2) (nI (z3 + 1)) z4 z5 z6 z7 z8 z9 (nI z10) z11 z12 z13 z14 z15 (nI z16) z17 z18 z19))] ++ va_pl L M_30) := hD
          refine lv_aload_n hx hb dX13_partner_120 rfl (lv_at hl 1 rfl) ?_
          refine lv_aload_n hx hb dX13_partner_121 rfl (lv_at hl 1 rfl) ?_
          refine va_get (D := D) (ci := 13) (v := .int (nI (z3 + 1))) (C := RX13) (T := TX13) (N := 20) hx hb hg inG13 hown hK hP 0 rfl rfl 3 (by decide) (hg _ wd_831) (fun _ h9 => h9) rfl dX13_partner_122 ?_
          refine lv_iconst (v := 1) hx hb dX13_partner_125 (by decide) ?_
          refine lv_isub hx hb dX13_partner_126 ?_
          refine lv_topi (fun f_36 ef_36 => ?_)
          obtain rfl : f_36 = (nI ((z3 + 1) - 1)) := ef_36.trans (nI_prd (by omega))
          have hPc := hP.sub (ws' := [(za, (b13_0 0 z1 (nI z2) (nI (z3 + 1)) z4 z5 z6 z7 z8 z9 (nI z10) z11 z12 z13 z14 z15 (nI z16) z17 z18 z19))]) [0] rfl
          have hDc := hD.sub (ws' := [(za, (b13_0 0 z1 (nI z2) (nI (z3 + 1)) z4 z5 z6 z7 z8 z9 (nI z10) z11 z12 z13 z14 z15 (nI z16) z17 z18 z19))]) [0] (by decide) rfl
          have hKc := hK.sub (tys' := []) [] rfl
          have hFc := va_free (wc := [(za, (b13_0 0 z1 (nI z2) (nI (z3 + 1)) z4 z5 z6 z7 z8 z9 (nI z10) z11 z12 z13 z14 z15 (nI z16) z17 z18 z19))]) hD hS hA [0] rfl
          refine va_calli (va_runV (As := [.int (nI ((z3 + 1) - 1))]) (rest := []) ⟨hx, hb, hml, hown, hg⟩ (m_done l D H_35.size za 0 z1 (nI z2) (nI (z3 + 1)) z4 z5 z6 z7 z8 z9 (nI z10) z11 z12 z13 z14 z15 (nI z16) z17 z18 z19 (nI ((z3 + 1) - 1))) (cwV 1 hg (gV wd_730 wd_731 wd_732 wd_717 wd_733) rfl rfl rfl (by decide +kernel) ⟨(Nat.le_trans (Nat.le_of_ble_eq_true rfl) hRf), (Nat.le_trans (Nat.le_of_ble_eq_true rfl) hRl)⟩) ⟨Pr.blind, va_recv hK hP (ci := 13) (q0 := 0) rfl rfl, fun U hU hW => ⟨rfl, Pr.at hPc hKc hDc hN hU hW⟩⟩ rfl rfl hl.1 rfl (lv_room (Nat.le_of_ble_eq_true rfl)) dX13_partner_127 ⟨(Nat.le_trans (Nat.le_of_ble_eq_true rfl) hRc), (Nat.le_trans (Nat.le_of_ble_eq_true rfl) hRs)⟩) hS (fun q _ h => hFc q h) hFc (fun r_38 M_39 t H_37 locs ht hvm hw hB hz1 hk1 hS => ?_)
          have hp_40 := hw
          obtain ⟨hP1, hK1, hD1⟩ := hB
          rw [ht] at hP1
          obtain ⟨hP, hD⟩ := va_joinQ (X := [(za, (b13_0 0 z1 (nI z2) (nI (z3 + 1)) z4 z5 z6 z7 z8 z9 (nI z10) z11 z12 z13 z14 z15 (nI z16) z17 z18 z19))]) (cx := [(za, (b13_0 0 z1 (nI z2) (nI (z3 + 1)) z4 z5 z6 z7 z8 z9 (nI z10) z11 z12 z13 z14 z15 (nI z16) z17 z18 z19))]) (wr := []) (w1 := [(za, (b13_0 0 z1 (nI z2) (nI (z3 + 1)) 0 (-1) z6 z7 z8 z9 (nI z10) z11 z12 z13 z14 z15 (nI z16) z17 z18 z19))]) (pl := va_pl L M_30) hP hD [0] [] rfl rfl (by decide) (by decide) hk1 hFc hP1 hD1
          have hP : va_P D vwCl ([(za, (b13_0 0 z1 (nI z2) (nI (z3 + 1)) 0 (-1) z6 z7 z8 z9 (nI z10) z11 z12 z13 z14 z15 (nI z16) z17 z18 z19))] ++ va_pl L M_30) H_37 := hP
          have hD : va_D A ([(za, (b13_0 0 z1 (nI z2) (nI (z3 + 1)) 0 (-1) z6 z7 z8 z9 (nI z10) z11 z12 z13 z14 z15 (nI z16) z17 z18 z19))] ++ va_pl L M_30) := hD
          have hq := Eq.symm hp_40
          subst hq
          have hI_41 : ((j_21 : Nat) : Int) = (1 : Int) := ieqI (nI_toInt (by omega)) rfl c_2
          have hI_42 : (0 : Int) ≤ ((j_21 : Nat) : Int) := inltI (nI_toInt (by omega)) rfl c_3
          have hI_43 : ((j_21 : Nat) : Int) ≤ (5 : Int) := inltI rfl (nI_toInt (by omega)) c_4
          have hI_44 : (0 : Int) ≤ (k2 : Int32).toInt := inltI rfl rfl c_6
          have hI_45 : (k2 : Int32).toInt ≤ (1000000000 : Int) := ileI rfl rfl c_15
          have hI_46 : ((j_21 : Nat) : Int) ≠ (5 : Int) := ineI (nI_toInt (by omega)) rfl c_16
          have hI_47 : ((z3 : Nat) : Int) ≠ (40 : Int) := ineI (nI_toInt (by omega)) rfl c_17
          have hn_48 : ((nI j_21) : Int32).toInt = ((j_21 : Nat) : Int) := nI_toInt (by omega)
          have hyes : okPa z2 z3 (nI j_21) k2 := by unfold okPa; refine ⟨?_, ?_, ?_, ?_, ?_⟩ <;> omega
          have hE : cnPa z2 z3 (nI j_21) k2 = (z3 + 1) := by unfold cnPa; rw [if_pos hyes]
          have hP : va_P D vwCl ([(za, (b13_0 0 z1 (nI z2) (nI (cnPa z2 z3 (nI j_21) k2)) 0 (-1) z6 z7 z8 z9 (nI z10) z11 z12 z13 z14 z15 (nI z16) z17 z18 z19))] ++ va_pl L M_30) H_37 := by rw [hE]; exact hP
          have hD : va_D A ([(za, (b13_0 0 z1 (nI z2) (nI (cnPa z2 z3 (nI j_21) k2)) 0 (-1) z6 z7 z8 z9 (nI z10) z11 z12 z13 z14 z15 (nI z16) z17 z18 z19))] ++ va_pl L M_30) := by rw [hE]; exact hD
          have hR9 : R5 z6 z7 M_30 := R5.put hR5 he6 he7 (by rw [hM_32, ef_27]) (by rw [hM_31, ef_33]) (fun q => absurd q c_16)
          rw [hQ]
          exact W.iret (v := (nI ((z3 + 1) - 1))) hx hb hr (fun t ht hW9 => ⟨⟨(nI ((z3 + 1) - 1)), M_30, rfl, ⟨hW, hF, ⟨hR9, by unfold pkPa ptPa; rw [if_pos hyes, if_pos hyes]; exact ⟨by rw [← hZP.1, show IFc (M z6) = f19 from by rw [he6]; rfl, show IFc (M_30 z6) = f_27 from by rw [hM_32]; rfl, ef_27, nI_cl (by omega)], by rw [← hZP.2, show IFc (M z7) = f20 from by rw [he7]; rfl, show IFc (M_30 z7) = f_33 from by rw [hM_31]; rfl, ef_33, nI_cl (by omega)]⟩⟩, (by unfold anPa; rw [if_pos hyes, Nat.add_sub_cancel])⟩, ⟨0, by rw [ht]; exact hP, hD⟩⟩, hS.F ht⟩) hS.2.2 dX13_partner_130
        · have hz := rfl (a := 0)
          have n_49 : z3 = 40 := (iEQ (a := z3) (b := 40) (by omega) (by omega)).mp c_17
          refine lv_aload_n hx hb dX13_partner_83 rfl (lv_at hl 1 rfl) ?_
          refine lv_bipush (v := 9) hx hb dX13_partner_84 (by decide) ?_
          have hPc := hP.sub (ws' := [(za, (b13_0 0 z1 (nI z2) (nI z3) z4 z5 z6 z7 z8 z9 (nI z10) z11 z12 z13 z14 z15 (nI z16) z17 z18 z19))]) [0] rfl
          have hDc := hD.sub (ws' := [(za, (b13_0 0 z1 (nI z2) (nI z3) z4 z5 z6 z7 z8 z9 (nI z10) z11 z12 z13 z14 z15 (nI z16) z17 z18 z19))]) [0] (by decide) rfl
          have hKc := hK.sub (tys' := []) [] rfl
          have hFc := va_free (wc := [(za, (b13_0 0 z1 (nI z2) (nI z3) z4 z5 z6 z7 z8 z9 (nI z10) z11 z12 z13 z14 z15 (nI z16) z17 z18 z19))]) hD hS hA [0] rfl
          refine va_calli (va_runV (As := [.int 9]) (rest := []) ⟨hx, hb, hml, hown, hg⟩ (m_refused l D H_1.size za 0 z1 (nI z2) (nI z3) z4 z5 z6 z7 z8 z9 (nI z10) z11 z12 z13 z14 z15 (nI z16) z17 z18 z19 9) (cwV 1 hg (gV wd_725 wd_726 wd_727 wd_717 wd_728) rfl rfl rfl (by decide +kernel) ⟨(Nat.le_trans (Nat.le_of_ble_eq_true rfl) hRf), (Nat.le_trans (Nat.le_of_ble_eq_true rfl) hRl)⟩) ⟨Pr.blind, va_recv hK hP (ci := 13) (q0 := 0) rfl rfl, fun U hU hW => ⟨rfl, Pr.at hPc hKc hDc hN hU hW⟩⟩ rfl rfl hl.1 rfl (lv_room (Nat.le_of_ble_eq_true rfl)) dX13_partner_86 ⟨(Nat.le_trans (Nat.le_of_ble_eq_true rfl) hRc), (Nat.le_trans (Nat.le_of_ble_eq_true rfl) hRs)⟩) hS (fun q _ h => hFc q h) hFc (fun r_51 M_52 t H_50 locs ht hvm hw hB hz1 hk1 hS => ?_)
          have hp_53 := hw
          obtain ⟨hP1, hK1, hD1⟩ := hB
          rw [ht] at hP1
          obtain ⟨hP, hD⟩ := va_joinQ (X := [(za, (b13_0 0 z1 (nI z2) (nI z3) z4 z5 z6 z7 z8 z9 (nI z10) z11 z12 z13 z14 z15 (nI z16) z17 z18 z19))]) (cx := [(za, (b13_0 0 z1 (nI z2) (nI z3) z4 z5 z6 z7 z8 z9 (nI z10) z11 z12 z13 z14 z15 (nI z16) z17 z18 z19))]) (wr := []) (w1 := [(za, (b13_0 0 z1 (nI z2) (nI z3) 9 (-1) z6 z7 z8 z9 (nI z10) z11 z12 z13 z14 z15 (nI z16) z17 z18 z19))]) (pl := va_pl L M) hP hD [0] [] rfl rfl (by decide) (by decide) hk1 hFc hP1 hD1
          have hP : va_P D vwCl ([(za, (b13_0 0 z1 (nI z2) (nI z3) 9 (-1) z6 z7 z8 z9 (nI z10) z11 z12 z13 z14 z15 (nI z16) z17 z18 z19))] ++ va_pl L M) H_50 := hP
          have hD : va_D A ([(za, (b13_0 0 z1 (nI z2) (nI z3) 9 (-1) z6 z7 z8 z9 (nI z10) z11 z12 z13 z14 z15 (nI z16) z17 z18 z19))] ++ va_pl L M) := hD
          have hq := Eq.symm hp_53
          subst hq
          have hI_54 : (k1 : Int32).toInt = (1 : Int) := ieqI rfl rfl c_2
          have hI_55 : (0 : Int) ≤ (k1 : Int32).toInt := inltI rfl rfl c_3
          have hI_56 : (k1 : Int32).toInt ≤ (5 : Int) := inltI rfl rfl c_4
          have hI_57 : (0 : Int) ≤ (k2 : Int32).toInt := inltI rfl rfl c_6
          have hI_58 : (k2 : Int32).toInt ≤ (1000000000 : Int) := ileI rfl rfl c_15
          have hI_59 : (k1 : Int32).toInt ≠ (5 : Int) := ineI rfl rfl c_16
          have hI_60 : ((z3 : Nat) : Int) = (40 : Int) := ieqI (nI_toInt (by omega)) rfl c_17
          have hno : ¬ okPa z2 z3 k1 k2 := fun q9 => by unfold okPa at q9; omega
          have hE : cnPa z2 z3 k1 k2 = z3 := by unfold cnPa; rw [if_neg hno]
          have hP : va_P D vwCl ([(za, (b13_0 0 z1 (nI z2) (nI (cnPa z2 z3 k1 k2)) 9 (-1) z6 z7 z8 z9 (nI z10) z11 z12 z13 z14 z15 (nI z16) z17 z18 z19))] ++ va_pl L M) H_50 := by rw [hE]; exact hP
          have hD : va_D A ([(za, (b13_0 0 z1 (nI z2) (nI (cnPa z2 z3 k1 k2)) 9 (-1) z6 z7 z8 z9 (nI z10) z11 z12 z13 z14 z15 (nI z16) z17 z18 z19))] ++ va_pl L M) := by rw [hE]; exact hD
          rw [hQ]
          exact W.iret (v := (-1)) hx hb hr (fun t ht hW9 => ⟨⟨(-1), M, rfl, ⟨hW, hF, ⟨hR5, by unfold pkPa ptPa; rw [if_neg hno, if_neg hno]; exact hZP⟩, (by unfold anPa; rw [if_neg hno])⟩, ⟨9, by rw [ht]; exact hP, hD⟩⟩, hS.F ht⟩) hS.2.2 dX13_partner_89
      · have hz := rfl (a := 0)
        have n_61 : ¬ k2 < 0 := gtN (c := 1000000000) (by omega) (Int32.not_le.mp c_15)
        refine lv_aload_n hx hb dX13_partner_49 rfl (lv_at hl 1 rfl) ?_
        refine lv_iconst (v := 2) hx hb dX13_partner_50 (by decide) ?_
        have hPc := hP.sub (ws' := [(za, (b13_0 0 z1 (nI z2) (nI z3) z4 z5 z6 z7 z8 z9 (nI z10) z11 z12 z13 z14 z15 (nI z16) z17 z18 z19))]) [0] rfl
        have hDc := hD.sub (ws' := [(za, (b13_0 0 z1 (nI z2) (nI z3) z4 z5 z6 z7 z8 z9 (nI z10) z11 z12 z13 z14 z15 (nI z16) z17 z18 z19))]) [0] (by decide) rfl
        have hKc := hK.sub (tys' := []) [] rfl
        have hFc := va_free (wc := [(za, (b13_0 0 z1 (nI z2) (nI z3) z4 z5 z6 z7 z8 z9 (nI z10) z11 z12 z13 z14 z15 (nI z16) z17 z18 z19))]) hD hS hA [0] rfl
        refine va_calli (va_runV (As := [.int 2]) (rest := []) ⟨hx, hb, hml, hown, hg⟩ (m_refused l D H_1.size za 0 z1 (nI z2) (nI z3) z4 z5 z6 z7 z8 z9 (nI z10) z11 z12 z13 z14 z15 (nI z16) z17 z18 z19 2) (cwV 1 hg (gV wd_725 wd_726 wd_727 wd_717 wd_728) rfl rfl rfl (by decide +kernel) ⟨(Nat.le_trans (Nat.le_of_ble_eq_true rfl) hRf), (Nat.le_trans (Nat.le_of_ble_eq_true rfl) hRl)⟩) ⟨Pr.blind, va_recv hK hP (ci := 13) (q0 := 0) rfl rfl, fun U hU hW => ⟨rfl, Pr.at hPc hKc hDc hN hU hW⟩⟩ rfl rfl hl.1 rfl (lv_room (Nat.le_of_ble_eq_true rfl)) dX13_partner_51 ⟨(Nat.le_trans (Nat.le_of_ble_eq_true rfl) hRc), (Nat.le_trans (Nat.le_of_ble_eq_true rfl) hRs)⟩) hS (fun q _ h => hFc q h) hFc (fun r_63 M_64 t H_62 locs ht hvm hw hB hz1 hk1 hS => ?_)
        have hp_65 := hw
        obtain ⟨hP1, hK1, hD1⟩ := hB
        rw [ht] at hP1
        obtain ⟨hP, hD⟩ := va_joinQ (X := [(za, (b13_0 0 z1 (nI z2) (nI z3) z4 z5 z6 z7 z8 z9 (nI z10) z11 z12 z13 z14 z15 (nI z16) z17 z18 z19))]) (cx := [(za, (b13_0 0 z1 (nI z2) (nI z3) z4 z5 z6 z7 z8 z9 (nI z10) z11 z12 z13 z14 z15 (nI z16) z17 z18 z19))]) (wr := []) (w1 := [(za, (b13_0 0 z1 (nI z2) (nI z3) 2 (-1) z6 z7 z8 z9 (nI z10) z11 z12 z13 z14 z15 (nI z16) z17 z18 z19))]) (pl := va_pl L M) hP hD [0] [] rfl rfl (by decide) (by decide) hk1 hFc hP1 hD1
        have hP : va_P D vwCl ([(za, (b13_0 0 z1 (nI z2) (nI z3) 2 (-1) z6 z7 z8 z9 (nI z10) z11 z12 z13 z14 z15 (nI z16) z17 z18 z19))] ++ va_pl L M) H_62 := hP
        have hD : va_D A ([(za, (b13_0 0 z1 (nI z2) (nI z3) 2 (-1) z6 z7 z8 z9 (nI z10) z11 z12 z13 z14 z15 (nI z16) z17 z18 z19))] ++ va_pl L M) := hD
        have hq := Eq.symm hp_65
        subst hq
        have hI_66 : (k1 : Int32).toInt = (1 : Int) := ieqI rfl rfl c_2
        have hI_67 : (0 : Int) ≤ (k1 : Int32).toInt := inltI rfl rfl c_3
        have hI_68 : (k1 : Int32).toInt ≤ (5 : Int) := inltI rfl rfl c_4
        have hI_69 : (0 : Int) ≤ (k2 : Int32).toInt := inltI rfl rfl c_6
        have hI_70 : (1000000000 : Int) < (k2 : Int32).toInt := inleI rfl rfl c_15
        have hI_71 : (0 : Int) ≤ (k2 : Int32).toInt := inltI rfl rfl n_61
        have hno : ¬ okPa z2 z3 k1 k2 := fun q9 => by unfold okPa at q9; omega
        have hE : cnPa z2 z3 k1 k2 = z3 := by unfold cnPa; rw [if_neg hno]
        have hP : va_P D vwCl ([(za, (b13_0 0 z1 (nI z2) (nI (cnPa z2 z3 k1 k2)) 2 (-1) z6 z7 z8 z9 (nI z10) z11 z12 z13 z14 z15 (nI z16) z17 z18 z19))] ++ va_pl L M) H_62 := by rw [hE]; exact hP
        have hD : va_D A ([(za, (b13_0 0 z1 (nI z2) (nI (cnPa z2 z3 k1 k2)) 2 (-1) z6 z7 z8 z9 (nI z10) z11 z12 z13 z14 z15 (nI z16) z17 z18 z19))] ++ va_pl L M) := by rw [hE]; exact hD
        rw [hQ]
        exact W.iret (v := (-1)) hx hb hr (fun t ht hW9 => ⟨⟨(-1), M, rfl, ⟨hW, hF, ⟨hR5, by unfold pkPa ptPa; rw [if_neg hno, if_neg hno]; exact hZP⟩, (by unfold anPa; rw [if_neg hno])⟩, ⟨2, by rw [ht]; exact hP, hD⟩⟩, hS.F ht⟩) hS.2.2 dX13_partner_54
  · have hz := rfl (a := 0)
    refine lv_iload_n hx hb dX13_partner_10 rfl (lv_at hl 1 rfl) ?_
    refine lv_iconst (v := 2) hx hb dX13_partner_11 (by decide) ?_
    refine lv_icmp_eq (tgt := 20) hx hb dX13_partner_12 (by decide) (fun c_72 => ?_) (fun c_72 => ?_)
    · have hz := rfl (a := 0)
      refine lv_iconst (v := 1) hx hb dX13_partner_20 (by decide) ?_
      refine lv_goto (tgt := 25) hx hb dX13_partner_21 (by decide) ?_
      refine lv_istore_n (lv' := [(3, .int 1), (0, .ref za), (1, .int k1), (2, .int k2)]) hx hb dX13_partner_25 rfl hl (by decide) rfl (fun ls hl => ?_)
      refine lv_iload_n hx hb dX13_partner_26 rfl (lv_at hl 2 rfl) ?_
      refine lv_if_lt (tgt := 49) hx hb dX13_partner_27 (by decide) (fun c_73 => absurd c_73 (by rw [c_72]; decide)) (fun c_73 => ?_)
      refine lv_iload_n hx hb dX13_partner_30 rfl (lv_at hl 2 rfl) ?_
      refine lv_iconst (v := 5) hx hb dX13_partner_31 (by decide) ?_
      refine lv_icmp_gt (tgt := 49) hx hb dX13_partner_32 (by decide) (fun c_74 => absurd c_74 (by rw [c_72]; decide)) (fun c_74 => ?_)
      refine lv_iload_n hx hb dX13_partner_35 rfl (lv_at hl 0 rfl) ?_
      refine lv_if_eq (tgt := 55) hx hb dX13_partner_36 (by decide) (fun c_75 => absurd c_75 (by decide)) (fun _ => ?_)
      refine lv_iload_n hx hb dX13_partner_39 rfl (lv_at hl 3 rfl) ?_
      refine lv_if_lt (tgt := 49) hx hb dX13_partner_40 (by decide) (fun c_76 => ?_) (fun c_76 => ?_)
      · have hz := rfl (a := 0)
        refine lv_aload_n hx hb dX13_partner_49 rfl (lv_at hl 1 rfl) ?_
        refine lv_iconst (v := 2) hx hb dX13_partner_50 (by decide) ?_
        have hPc := hP.sub (ws' := [(za, (b13_0 0 z1 (nI z2) (nI z3) z4 z5 z6 z7 z8 z9 (nI z10) z11 z12 z13 z14 z15 (nI z16) z17 z18 z19))]) [0] rfl
        have hDc := hD.sub (ws' := [(za, (b13_0 0 z1 (nI z2) (nI z3) z4 z5 z6 z7 z8 z9 (nI z10) z11 z12 z13 z14 z15 (nI z16) z17 z18 z19))]) [0] (by decide) rfl
        have hKc := hK.sub (tys' := []) [] rfl
        have hFc := va_free (wc := [(za, (b13_0 0 z1 (nI z2) (nI z3) z4 z5 z6 z7 z8 z9 (nI z10) z11 z12 z13 z14 z15 (nI z16) z17 z18 z19))]) hD hS hA [0] rfl
        refine va_calli (va_runV (As := [.int 2]) (rest := []) ⟨hx, hb, hml, hown, hg⟩ (m_refused l D H_1.size za 0 z1 (nI z2) (nI z3) z4 z5 z6 z7 z8 z9 (nI z10) z11 z12 z13 z14 z15 (nI z16) z17 z18 z19 2) (cwV 1 hg (gV wd_725 wd_726 wd_727 wd_717 wd_728) rfl rfl rfl (by decide +kernel) ⟨(Nat.le_trans (Nat.le_of_ble_eq_true rfl) hRf), (Nat.le_trans (Nat.le_of_ble_eq_true rfl) hRl)⟩) ⟨Pr.blind, va_recv hK hP (ci := 13) (q0 := 0) rfl rfl, fun U hU hW => ⟨rfl, Pr.at hPc hKc hDc hN hU hW⟩⟩ rfl rfl hl.1 rfl (lv_room (Nat.le_of_ble_eq_true rfl)) dX13_partner_51 ⟨(Nat.le_trans (Nat.le_of_ble_eq_true rfl) hRc), (Nat.le_trans (Nat.le_of_ble_eq_true rfl) hRs)⟩) hS (fun q _ h => hFc q h) hFc (fun r_78 M_79 t H_77 locs ht hvm hw hB hz1 hk1 hS => ?_)
        have hp_80 := hw
        obtain ⟨hP1, hK1, hD1⟩ := hB
        rw [ht] at hP1
        obtain ⟨hP, hD⟩ := va_joinQ (X := [(za, (b13_0 0 z1 (nI z2) (nI z3) z4 z5 z6 z7 z8 z9 (nI z10) z11 z12 z13 z14 z15 (nI z16) z17 z18 z19))]) (cx := [(za, (b13_0 0 z1 (nI z2) (nI z3) z4 z5 z6 z7 z8 z9 (nI z10) z11 z12 z13 z14 z15 (nI z16) z17 z18 z19))]) (wr := []) (w1 := [(za, (b13_0 0 z1 (nI z2) (nI z3) 2 (-1) z6 z7 z8 z9 (nI z10) z11 z12 z13 z14 z15 (nI z16) z17 z18 z19))]) (pl := va_pl L M) hP hD [0] [] rfl rfl (by decide) (by decide) hk1 hFc hP1 hD1
        have hP : va_P D vwCl ([(za, (b13_0 0 z1 (nI z2) (nI z3) 2 (-1) z6 z7 z8 z9 (nI z10) z11 z12 z13 z14 z15 (nI z16) z17 z18 z19))] ++ va_pl L M) H_77 := hP
        have hD : va_D A ([(za, (b13_0 0 z1 (nI z2) (nI z3) 2 (-1) z6 z7 z8 z9 (nI z10) z11 z12 z13 z14 z15 (nI z16) z17 z18 z19))] ++ va_pl L M) := hD
        have hq := Eq.symm hp_80
        subst hq
        have hI_81 : (k1 : Int32).toInt ≠ (1 : Int) := ineI rfl rfl c_2
        have hI_82 : (k1 : Int32).toInt = (2 : Int) := ieqI rfl rfl c_72
        have hI_83 : (0 : Int) ≤ (k1 : Int32).toInt := inltI rfl rfl c_73
        have hI_84 : (k1 : Int32).toInt ≤ (5 : Int) := inltI rfl rfl c_74
        have hI_85 : (k2 : Int32).toInt < (0 : Int) := iltI rfl rfl c_76
        have hno : ¬ okPa z2 z3 k1 k2 := fun q9 => by unfold okPa at q9; omega
        have hE : cnPa z2 z3 k1 k2 = z3 := by unfold cnPa; rw [if_neg hno]
        have hP : va_P D vwCl ([(za, (b13_0 0 z1 (nI z2) (nI (cnPa z2 z3 k1 k2)) 2 (-1) z6 z7 z8 z9 (nI z10) z11 z12 z13 z14 z15 (nI z16) z17 z18 z19))] ++ va_pl L M) H_77 := by rw [hE]; exact hP
        have hD : va_D A ([(za, (b13_0 0 z1 (nI z2) (nI (cnPa z2 z3 k1 k2)) 2 (-1) z6 z7 z8 z9 (nI z10) z11 z12 z13 z14 z15 (nI z16) z17 z18 z19))] ++ va_pl L M) := by rw [hE]; exact hD
        rw [hQ]
        exact W.iret (v := (-1)) hx hb hr (fun t ht hW9 => ⟨⟨(-1), M, rfl, ⟨hW, hF, ⟨hR5, by unfold pkPa ptPa; rw [if_neg hno, if_neg hno]; exact hZP⟩, (by unfold anPa; rw [if_neg hno])⟩, ⟨2, by rw [ht]; exact hP, hD⟩⟩, hS.F ht⟩) hS.2.2 dX13_partner_54
      · have hz := rfl (a := 0)
        refine lv_iload_n hx hb dX13_partner_43 rfl (lv_at hl 3 rfl) ?_
        refine lv_ldc (v := 1000000000) hx hb hown (hg _ wd_712) dX13_partner_44 ?_
        refine lv_icmp_le (tgt := 55) hx hb dX13_partner_46 (by decide) (fun c_86 => ?_) (fun c_86 => ?_)
        · have hz := rfl (a := 0)
          refine lv_iload_n hx hb dX13_partner_55 rfl (lv_at hl 2 rfl) ?_
          refine lv_iconst (v := 5) hx hb dX13_partner_56 (by decide) ?_
          refine lv_icmp_ne (tgt := 74) hx hb dX13_partner_57 (by decide) (fun c_87 => ?_) (fun c_87 => absurd c_87 (by rw [c_72]; decide))
          refine lv_aload_n hx hb dX13_partner_74 rfl (lv_at hl 1 rfl) ?_
          refine va_get (D := D) (ci := 13) (v := .int (nI z3)) (C := RX13) (T := TX13) (N := 20) hx hb hg inG13 hown hK hP 0 rfl rfl 3 (by decide) (hg _ wd_831) (fun _ h9 => h9) rfl dX13_partner_75 ?_
          refine lv_bipush (v := 40) hx hb dX13_partner_78 (by decide) ?_
          refine lv_icmp_ne (tgt := 90) hx hb dX13_partner_80 (by decide) (fun c_88 => ?_) (fun c_88 => ?_)
          · have hz := rfl (a := 0)
            have n_89 : ¬ (z3 = 40) := fun q => c_88 ((iEQ (a := z3) (b := 40) (by omega) (by omega)).mpr q)
            obtain ⟨f90, hM90, hf90⟩ := hW.open_47 i6
            obtain ⟨f91, hM91⟩ := hW.open_48 i7
            have he6 := hM90
            have he7 := hM91
            refine lv_aload_n hx hb dX13_partner_90 rfl (lv_at hl 1 rfl) ?_
            refine va_get (D := D) (ci := 13) (v := .ref z6) (C := RX13) (T := TX13) (N := 20) hx hb hg inG13 hown hK hP 0 rfl rfl 6 (by decide) (hg _ wd_719) (fun _ h9 => h9) rfl dX13_partner_91 ?_
            refine lv_aload_n hx hb dX13_partner_94 rfl (lv_at hl 1 rfl) ?_
            refine va_get (D := D) (ci := 13) (v := .int (nI z3)) (C := RX13) (T := TX13) (N := 20) hx hb hg inG13 hown hK hP 0 rfl rfl 3 (by decide) (hg _ wd_831) (fun _ h9 => h9) rfl dX13_partner_95 ?_
            refine lv_iload_n hx hb dX13_partner_98 rfl (lv_at hl 2 rfl) ?_
            obtain ⟨j_92, hj_93, rfl⟩ := i32nat 6 (by decide) c_73 (leB (b := 6) (c := 5) (by decide) (by decide) (Int32.not_lt.mp c_74))
            refine pg_iast hx hb hK hP hD hS i6.1 0 hM90 rfl (inbN z3 40 (by omega) (by omega)) dX13_partner_99 (fun H_94 locs hP hD hS => ?_)
            obtain ⟨M_95, eM_95⟩ : ∃ M1 : Hp, M1 = va_up M z6 (.inl (cy 14, 40, .inl (upd f90 ((nI z3) : Int32).toNatClampNeg (nI j_92)))) := ⟨_, rfl⟩
            have hP : va_P D vwCl ([(za, (b13_0 0 z1 (nI z2) (nI z3) z4 z5 z6 z7 z8 z9 (nI z10) z11 z12 z13 z14 z15 (nI z16) z17 z18 z19))] ++ va_pl L M_95) H_94 := by rw [eM_95]; exact hP
            have hD : va_D A ([(za, (b13_0 0 z1 (nI z2) (nI z3) z4 z5 z6 z7 z8 z9 (nI z10) z11 z12 z13 z14 z15 (nI z16) z17 z18 z19))] ++ va_pl L M_95) := by rw [eM_95]; exact hD
            have hW : WOM cy K L M_95 := by rw [eM_95]; exact hW.up_47 i6 ⟨_, rfl, (updP (P := fun z => ∃ c : Nat, c < 6 ∧ z = nI c) hf90 ⟨j_92, by omega, rfl⟩)⟩
            have hF : fr K L [47, 48] M M_95 := by rw [eM_95]; exact hF.up i6 (by decide)
            have hM_96 : M_95 z6 = .inl (cy 14, 40, .inl (upd f90 ((nI z3) : Int32).toNatClampNeg (nI j_92))) := by rw [eM_95]; exact va_up_self _ _ _
            have hM_97 : M_95 z7 = .inl (cy 14, 40, .inl (f91)) := by rw [eM_95, va_up_ne _ _ (i7.neT i6 (by decide))]; exact hM91
            have hf_99 : ∀ j, j < 40 → ∃ c : Nat, c < 6 ∧ (upd f90 ((nI z3) : Int32).toNatClampNeg (nI j_92)) j = nI c := (updP (P := fun z => ∃ c : Nat, c < 6 ∧ z = nI c) hf90 ⟨j_92, by omega, rfl⟩)
            obtain ⟨f_98, ef_98⟩ : ∃ f : Nat → Int32, f = upd f90 ((nI z3) : Int32).toNatClampNeg (nI j_92) := ⟨_, rfl⟩
            rw [← ef_98] at hM_96 hf_99
            refine lv_aload_n hx hb dX13_partner_100 rfl (lv_at hl 1 rfl) ?_
            refine va_get (D := D) (ci := 13) (v := .ref z7) (C := RX13) (T := TX13) (N := 20) hx hb hg inG13 hown hK hP 0 rfl rfl 7 (by decide) (hg _ wd_760) (fun _ h9 => h9) rfl dX13_partner_101 ?_
            refine lv_aload_n hx hb dX13_partner_104 rfl (lv_at hl 1 rfl) ?_
            refine va_get (D := D) (ci := 13) (v := .int (nI z3)) (C := RX13) (T := TX13) (N := 20) hx hb hg inG13 hown hK hP 0 rfl rfl 3 (by decide) (hg _ wd_831) (fun _ h9 => h9) rfl dX13_partner_105 ?_
            refine lv_iload_n hx hb dX13_partner_108 rfl (lv_at hl 3 rfl) ?_
            refine pg_iast hx hb hK hP hD hS i7.1 0 hM_97 rfl (inbN z3 40 (by omega) (by omega)) dX13_partner_109 (fun H_100 locs hP hD hS => ?_)
            obtain ⟨M_101, eM_101⟩ : ∃ M1 : Hp, M1 = va_up M_95 z7 (.inl (cy 14, 40, .inl (upd f91 ((nI z3) : Int32).toNatClampNeg k2))) := ⟨_, rfl⟩
            have hP : va_P D vwCl ([(za, (b13_0 0 z1 (nI z2) (nI z3) z4 z5 z6 z7 z8 z9 (nI z10) z11 z12 z13 z14 z15 (nI z16) z17 z18 z19))] ++ va_pl L M_101) H_100 := by rw [eM_101]; exact hP
            have hD : va_D A ([(za, (b13_0 0 z1 (nI z2) (nI z3) z4 z5 z6 z7 z8 z9 (nI z10) z11 z12 z13 z14 z15 (nI z16) z17 z18 z19))] ++ va_pl L M_101) := by rw [eM_101]; exact hD
            have hW : WOM cy K L M_101 := by rw [eM_101]; exact hW.up_48 i7 ⟨_, rfl⟩
            have hF : fr K L [47, 48] M M_101 := by rw [eM_101]; exact hF.up i7 (by decide)
            have hM_102 : M_101 z7 = .inl (cy 14, 40, .inl (upd f91 ((nI z3) : Int32).toNatClampNeg k2)) := by rw [eM_101]; exact va_up_self _ _ _
            have hM_103 : M_101 z6 = .inl (cy 14, 40, .inl (f_98)) := by rw [eM_101, va_up_ne _ _ (i6.neT i7 (by decide))]; exact hM_96
            obtain ⟨f_104, ef_104⟩ : ∃ f : Nat → Int32, f = upd f91 ((nI z3) : Int32).toNatClampNeg k2 := ⟨_, rfl⟩
            rw [← ef_104] at hM_102
            refine lv_aload_n hx hb dX13_partner_110 rfl (lv_at hl 1 rfl) ?_
            refine lv_dup hx hb dX13_partner_111 rfl ?_
            refine va_get (D := D) (ci := 13) (v := .int (nI z3)) (C := RX13) (T := TX13) (N := 20) hx hb hg inG13 hown hK hP 0 rfl rfl 3 (by decide) (hg _ wd_831) (fun _ h9 => h9) rfl dX13_partner_112 ?_
            refine lv_iconst (v := 1) hx hb dX13_partner_115 (by decide) ?_
            refine lv_iadd hx hb dX13_partner_116 ?_
            refine lv_topi (fun f_105 ef_105 => ?_)
            obtain rfl : f_105 = (nI (z3 + 1)) := ef_105.trans (nI_add z3 1)
            refine va_put (D := D) (ci := 13) (v := .int (nI (z3 + 1))) (ty := .int) (C := RX13) (T := TX13) (N := 20) hx hb hg inG13 tyX13 tyX13_ok nmX13 hown hK hP hD hS 0 rfl rfl 3 (by decide) (hg _ wd_831) (fun _ h9 => h9) rfl (by decide +kernel) rfl rfl (Nat.le_of_ble_eq_true rfl) dX13_partner_117 (fun H_106 locs hP hD hS => ?_)
            have hP : va_P D vwCl ([(za, (b13_0 0 z1 (nI z2) (nI (z3 + 1)) z4 z5 z6 z7 z8 z9 (nI z10) z11 z12 z13 z14 z15 (nI z16) z17 z18 z19))] ++ va_pl L M_101) H_106 := hP
            have hD : va_D A ([(za, (b13_0 0 z1 (nI z2) (nI (z3 + 1)) z4 z5 z6 z7 z8 z9 (nI z10) z11 z12 z13 z14 z15 (nI z16) z17 z18 z19))] ++ va_pl L M_101) := hD
            refine lv_aload_n hx hb dX13_partner_120 rfl (lv_at hl 1 rfl) ?_
            refine lv_aload_n hx hb dX13_partner_121 rfl (lv_at hl 1 rfl) ?_
            refine va_get (D := D) (ci := 13) (v := .int (nI (z3 + 1))) (C := RX13) (T := TX13) (N := 20) hx hb hg inG13 hown hK hP 0 rfl rfl 3 (by decide) (hg _ wd_831) (fun _ h9 => h9) rfl dX13_partner_122 ?_
            refine lv_iconst (v := 1) hx hb dX13_partner_125 (by decide) ?_
            refine lv_isub hx hb dX13_partner_126 ?_
            refine lv_topi (fun f_107 ef_107 => ?_)
            obtain rfl : f_107 = (nI ((z3 + 1) - 1)) := ef_107.trans (nI_prd (by omega))
            have hPc := hP.sub (ws' := [(za, (b13_0 0 z1 (nI z2) (nI (z3 + 1)) z4 z5 z6 z7 z8 z9 (nI z10) z11 z12 z13 z14 z15 (nI z16) z17 z18 z19))]) [0] rfl
            have hDc := hD.sub (ws' := [(za, (b13_0 0 z1 (nI z2) (nI (z3 + 1)) z4 z5 z6 z7 z8 z9 (nI z10) z11 z12 z13 z14 z15 (nI z16) z17 z18 z19))]) [0] (by decide) rfl
            have hKc := hK.sub (tys' := []) [] rfl
            have hFc := va_free (wc := [(za, (b13_0 0 z1 (nI z2) (nI (z3 + 1)) z4 z5 z6 z7 z8 z9 (nI z10) z11 z12 z13 z14 z15 (nI z16) z17 z18 z19))]) hD hS hA [0] rfl
            refine va_calli (va_runV (As := [.int (nI ((z3 + 1) - 1))]) (rest := []) ⟨hx, hb, hml, hown, hg⟩ (m_done l D H_106.size za 0 z1 (nI z2) (nI (z3 + 1)) z4 z5 z6 z7 z8 z9 (nI z10) z11 z12 z13 z14 z15 (nI z16) z17 z18 z19 (nI ((z3 + 1) - 1))) (cwV 1 hg (gV wd_730 wd_731 wd_732 wd_717 wd_733) rfl rfl rfl (by decide +kernel) ⟨(Nat.le_trans (Nat.le_of_ble_eq_true rfl) hRf), (Nat.le_trans (Nat.le_of_ble_eq_true rfl) hRl)⟩) ⟨Pr.blind, va_recv hK hP (ci := 13) (q0 := 0) rfl rfl, fun U hU hW => ⟨rfl, Pr.at hPc hKc hDc hN hU hW⟩⟩ rfl rfl hl.1 rfl (lv_room (Nat.le_of_ble_eq_true rfl)) dX13_partner_127 ⟨(Nat.le_trans (Nat.le_of_ble_eq_true rfl) hRc), (Nat.le_trans (Nat.le_of_ble_eq_true rfl) hRs)⟩) hS (fun q _ h => hFc q h) hFc (fun r_109 M_110 t H_108 locs ht hvm hw hB hz1 hk1 hS => ?_)
            have hp_111 := hw
            obtain ⟨hP1, hK1, hD1⟩ := hB
            rw [ht] at hP1
            obtain ⟨hP, hD⟩ := va_joinQ (X := [(za, (b13_0 0 z1 (nI z2) (nI (z3 + 1)) z4 z5 z6 z7 z8 z9 (nI z10) z11 z12 z13 z14 z15 (nI z16) z17 z18 z19))]) (cx := [(za, (b13_0 0 z1 (nI z2) (nI (z3 + 1)) z4 z5 z6 z7 z8 z9 (nI z10) z11 z12 z13 z14 z15 (nI z16) z17 z18 z19))]) (wr := []) (w1 := [(za, (b13_0 0 z1 (nI z2) (nI (z3 + 1)) 0 (-1) z6 z7 z8 z9 (nI z10) z11 z12 z13 z14 z15 (nI z16) z17 z18 z19))]) (pl := va_pl L M_101) hP hD [0] [] rfl rfl (by decide) (by decide) hk1 hFc hP1 hD1
            have hP : va_P D vwCl ([(za, (b13_0 0 z1 (nI z2) (nI (z3 + 1)) 0 (-1) z6 z7 z8 z9 (nI z10) z11 z12 z13 z14 z15 (nI z16) z17 z18 z19))] ++ va_pl L M_101) H_108 := hP
            have hD : va_D A ([(za, (b13_0 0 z1 (nI z2) (nI (z3 + 1)) 0 (-1) z6 z7 z8 z9 (nI z10) z11 z12 z13 z14 z15 (nI z16) z17 z18 z19))] ++ va_pl L M_101) := hD
            have hq := Eq.symm hp_111
            subst hq
            have hI_112 : ((j_92 : Nat) : Int) ≠ (1 : Int) := ineI (nI_toInt (by omega)) rfl c_2
            have hI_113 : ((j_92 : Nat) : Int) = (2 : Int) := ieqI (nI_toInt (by omega)) rfl c_72
            have hI_114 : (0 : Int) ≤ ((j_92 : Nat) : Int) := inltI (nI_toInt (by omega)) rfl c_73
            have hI_115 : ((j_92 : Nat) : Int) ≤ (5 : Int) := inltI rfl (nI_toInt (by omega)) c_74
            have hI_116 : (0 : Int) ≤ (k2 : Int32).toInt := inltI rfl rfl c_76
            have hI_117 : (k2 : Int32).toInt ≤ (1000000000 : Int) := ileI rfl rfl c_86
            have hI_118 : ((j_92 : Nat) : Int) ≠ (5 : Int) := ineI (nI_toInt (by omega)) rfl c_87
            have hI_119 : ((z3 : Nat) : Int) ≠ (40 : Int) := ineI (nI_toInt (by omega)) rfl c_88
            have hn_120 : ((nI j_92) : Int32).toInt = ((j_92 : Nat) : Int) := nI_toInt (by omega)
            have hyes : okPa z2 z3 (nI j_92) k2 := by unfold okPa; refine ⟨?_, ?_, ?_, ?_, ?_⟩ <;> omega
            have hE : cnPa z2 z3 (nI j_92) k2 = (z3 + 1) := by unfold cnPa; rw [if_pos hyes]
            have hP : va_P D vwCl ([(za, (b13_0 0 z1 (nI z2) (nI (cnPa z2 z3 (nI j_92) k2)) 0 (-1) z6 z7 z8 z9 (nI z10) z11 z12 z13 z14 z15 (nI z16) z17 z18 z19))] ++ va_pl L M_101) H_108 := by rw [hE]; exact hP
            have hD : va_D A ([(za, (b13_0 0 z1 (nI z2) (nI (cnPa z2 z3 (nI j_92) k2)) 0 (-1) z6 z7 z8 z9 (nI z10) z11 z12 z13 z14 z15 (nI z16) z17 z18 z19))] ++ va_pl L M_101) := by rw [hE]; exact hD
            have hR9 : R5 z6 z7 M_101 := R5.put hR5 he6 he7 (by rw [hM_103, ef_98]) (by rw [hM_102, ef_104]) (fun q => absurd q c_87)
            rw [hQ]
            exact W.iret (v := (nI ((z3 + 1) - 1))) hx hb hr (fun t ht hW9 => ⟨⟨(nI ((z3 + 1) - 1)), M_101, rfl, ⟨hW, hF, ⟨hR9, by unfold pkPa ptPa; rw [if_pos hyes, if_pos hyes]; exact ⟨by rw [← hZP.1, show IFc (M z6) = f90 from by rw [he6]; rfl, show IFc (M_101 z6) = f_98 from by rw [hM_103]; rfl, ef_98, nI_cl (by omega)], by rw [← hZP.2, show IFc (M z7) = f91 from by rw [he7]; rfl, show IFc (M_101 z7) = f_104 from by rw [hM_102]; rfl, ef_104, nI_cl (by omega)]⟩⟩, (by unfold anPa; rw [if_pos hyes, Nat.add_sub_cancel])⟩, ⟨0, by rw [ht]; exact hP, hD⟩⟩, hS.F ht⟩) hS.2.2 dX13_partner_130
          · have hz := rfl (a := 0)
            have n_121 : z3 = 40 := (iEQ (a := z3) (b := 40) (by omega) (by omega)).mp c_88
            refine lv_aload_n hx hb dX13_partner_83 rfl (lv_at hl 1 rfl) ?_
            refine lv_bipush (v := 9) hx hb dX13_partner_84 (by decide) ?_
            have hPc := hP.sub (ws' := [(za, (b13_0 0 z1 (nI z2) (nI z3) z4 z5 z6 z7 z8 z9 (nI z10) z11 z12 z13 z14 z15 (nI z16) z17 z18 z19))]) [0] rfl
            have hDc := hD.sub (ws' := [(za, (b13_0 0 z1 (nI z2) (nI z3) z4 z5 z6 z7 z8 z9 (nI z10) z11 z12 z13 z14 z15 (nI z16) z17 z18 z19))]) [0] (by decide) rfl
            have hKc := hK.sub (tys' := []) [] rfl
            have hFc := va_free (wc := [(za, (b13_0 0 z1 (nI z2) (nI z3) z4 z5 z6 z7 z8 z9 (nI z10) z11 z12 z13 z14 z15 (nI z16) z17 z18 z19))]) hD hS hA [0] rfl
            refine va_calli (va_runV (As := [.int 9]) (rest := []) ⟨hx, hb, hml, hown, hg⟩ (m_refused l D H_1.size za 0 z1 (nI z2) (nI z3) z4 z5 z6 z7 z8 z9 (nI z10) z11 z12 z13 z14 z15 (nI z16) z17 z18 z19 9) (cwV 1 hg (gV wd_725 wd_726 wd_727 wd_717 wd_728) rfl rfl rfl (by decide +kernel) ⟨(Nat.le_trans (Nat.le_of_ble_eq_true rfl) hRf), (Nat.le_trans (Nat.le_of_ble_eq_true rfl) hRl)⟩) ⟨Pr.blind, va_recv hK hP (ci := 13) (q0 := 0) rfl rfl, fun U hU hW => ⟨rfl, Pr.at hPc hKc hDc hN hU hW⟩⟩ rfl rfl hl.1 rfl (lv_room (Nat.le_of_ble_eq_true rfl)) dX13_partner_86 ⟨(Nat.le_trans (Nat.le_of_ble_eq_true rfl) hRc), (Nat.le_trans (Nat.le_of_ble_eq_true rfl) hRs)⟩) hS (fun q _ h => hFc q h) hFc (fun r_123 M_124 t H_122 locs ht hvm hw hB hz1 hk1 hS => ?_)
            have hp_125 := hw
            obtain ⟨hP1, hK1, hD1⟩ := hB
            rw [ht] at hP1
            obtain ⟨hP, hD⟩ := va_joinQ (X := [(za, (b13_0 0 z1 (nI z2) (nI z3) z4 z5 z6 z7 z8 z9 (nI z10) z11 z12 z13 z14 z15 (nI z16) z17 z18 z19))]) (cx := [(za, (b13_0 0 z1 (nI z2) (nI z3) z4 z5 z6 z7 z8 z9 (nI z10) z11 z12 z13 z14 z15 (nI z16) z17 z18 z19))]) (wr := []) (w1 := [(za, (b13_0 0 z1 (nI z2) (nI z3) 9 (-1) z6 z7 z8 z9 (nI z10) z11 z12 z13 z14 z15 (nI z16) z17 z18 z19))]) (pl := va_pl L M) hP hD [0] [] rfl rfl (by decide) (by decide) hk1 hFc hP1 hD1
            have hP : va_P D vwCl ([(za, (b13_0 0 z1 (nI z2) (nI z3) 9 (-1) z6 z7 z8 z9 (nI z10) z11 z12 z13 z14 z15 (nI z16) z17 z18 z19))] ++ va_pl L M) H_122 := hP
            have hD : va_D A ([(za, (b13_0 0 z1 (nI z2) (nI z3) 9 (-1) z6 z7 z8 z9 (nI z10) z11 z12 z13 z14 z15 (nI z16) z17 z18 z19))] ++ va_pl L M) := hD
            have hq := Eq.symm hp_125
            subst hq
            have hI_126 : (k1 : Int32).toInt ≠ (1 : Int) := ineI rfl rfl c_2
            have hI_127 : (k1 : Int32).toInt = (2 : Int) := ieqI rfl rfl c_72
            have hI_128 : (0 : Int) ≤ (k1 : Int32).toInt := inltI rfl rfl c_73
            have hI_129 : (k1 : Int32).toInt ≤ (5 : Int) := inltI rfl rfl c_74
            have hI_130 : (0 : Int) ≤ (k2 : Int32).toInt := inltI rfl rfl c_76
            have hI_131 : (k2 : Int32).toInt ≤ (1000000000 : Int) := ileI rfl rfl c_86
            have hI_132 : (k1 : Int32).toInt ≠ (5 : Int) := ineI rfl rfl c_87
            have hI_133 : ((z3 : Nat) : Int) = (40 : Int) := ieqI (nI_toInt (by omega)) rfl c_88
            have hno : ¬ okPa z2 z3 k1 k2 := fun q9 => by unfold okPa at q9; omega
            have hE : cnPa z2 z3 k1 k2 = z3 := by unfold cnPa; rw [if_neg hno]
            have hP : va_P D vwCl ([(za, (b13_0 0 z1 (nI z2) (nI (cnPa z2 z3 k1 k2)) 9 (-1) z6 z7 z8 z9 (nI z10) z11 z12 z13 z14 z15 (nI z16) z17 z18 z19))] ++ va_pl L M) H_122 := by rw [hE]; exact hP
            have hD : va_D A ([(za, (b13_0 0 z1 (nI z2) (nI (cnPa z2 z3 k1 k2)) 9 (-1) z6 z7 z8 z9 (nI z10) z11 z12 z13 z14 z15 (nI z16) z17 z18 z19))] ++ va_pl L M) := by rw [hE]; exact hD
            rw [hQ]
            exact W.iret (v := (-1)) hx hb hr (fun t ht hW9 => ⟨⟨(-1), M, rfl, ⟨hW, hF, ⟨hR5, by unfold pkPa ptPa; rw [if_neg hno, if_neg hno]; exact hZP⟩, (by unfold anPa; rw [if_neg hno])⟩, ⟨9, by rw [ht]; exact hP, hD⟩⟩, hS.F ht⟩) hS.2.2 dX13_partner_89
        · have hz := rfl (a := 0)
          have n_134 : ¬ k2 < 0 := gtN (c := 1000000000) (by omega) (Int32.not_le.mp c_86)
          refine lv_aload_n hx hb dX13_partner_49 rfl (lv_at hl 1 rfl) ?_
          refine lv_iconst (v := 2) hx hb dX13_partner_50 (by decide) ?_
          have hPc := hP.sub (ws' := [(za, (b13_0 0 z1 (nI z2) (nI z3) z4 z5 z6 z7 z8 z9 (nI z10) z11 z12 z13 z14 z15 (nI z16) z17 z18 z19))]) [0] rfl
          have hDc := hD.sub (ws' := [(za, (b13_0 0 z1 (nI z2) (nI z3) z4 z5 z6 z7 z8 z9 (nI z10) z11 z12 z13 z14 z15 (nI z16) z17 z18 z19))]) [0] (by decide) rfl
          have hKc := hK.sub (tys' := []) [] rfl
          have hFc := va_free (wc := [(za, (b13_0 0 z1 (nI z2) (nI z3) z4 z5 z6 z7 z8 z9 (nI z10) z11 z12 z13 z14 z15 (nI z16) z17 z18 z19))]) hD hS hA [0] rfl
          refine va_calli (va_runV (As := [.int 2]) (rest := []) ⟨hx, hb, hml, hown, hg⟩ (m_refused l D H_1.size za 0 z1 (nI z2) (nI z3) z4 z5 z6 z7 z8 z9 (nI z10) z11 z12 z13 z14 z15 (nI z16) z17 z18 z19 2) (cwV 1 hg (gV wd_725 wd_726 wd_727 wd_717 wd_728) rfl rfl rfl (by decide +kernel) ⟨(Nat.le_trans (Nat.le_of_ble_eq_true rfl) hRf), (Nat.le_trans (Nat.le_of_ble_eq_true rfl) hRl)⟩) ⟨Pr.blind, va_recv hK hP (ci := 13) (q0 := 0) rfl rfl, fun U hU hW => ⟨rfl, Pr.at hPc hKc hDc hN hU hW⟩⟩ rfl rfl hl.1 rfl (lv_room (Nat.le_of_ble_eq_true rfl)) dX13_partner_51 ⟨(Nat.le_trans (Nat.le_of_ble_eq_true rfl) hRc), (Nat.le_trans (Nat.le_of_ble_eq_true rfl) hRs)⟩) hS (fun q _ h => hFc q h) hFc (fun r_136 M_137 t H_135 locs ht hvm hw hB hz1 hk1 hS => ?_)
          have hp_138 := hw
          obtain ⟨hP1, hK1, hD1⟩ := hB
          rw [ht] at hP1
          obtain ⟨hP, hD⟩ := va_joinQ (X := [(za, (b13_0 0 z1 (nI z2) (nI z3) z4 z5 z6 z7 z8 z9 (nI z10) z11 z12 z13 z14 z15 (nI z16) z17 z18 z19))]) (cx := [(za, (b13_0 0 z1 (nI z2) (nI z3) z4 z5 z6 z7 z8 z9 (nI z10) z11 z12 z13 z14 z15 (nI z16) z17 z18 z19))]) (wr := []) (w1 := [(za, (b13_0 0 z1 (nI z2) (nI z3) 2 (-1) z6 z7 z8 z9 (nI z10) z11 z12 z13 z14 z15 (nI z16) z17 z18 z19))]) (pl := va_pl L M) hP hD [0] [] rfl rfl (by decide) (by decide) hk1 hFc hP1 hD1
          have hP : va_P D vwCl ([(za, (b13_0 0 z1 (nI z2) (nI z3) 2 (-1) z6 z7 z8 z9 (nI z10) z11 z12 z13 z14 z15 (nI z16) z17 z18 z19))] ++ va_pl L M) H_135 := hP
          have hD : va_D A ([(za, (b13_0 0 z1 (nI z2) (nI z3) 2 (-1) z6 z7 z8 z9 (nI z10) z11 z12 z13 z14 z15 (nI z16) z17 z18 z19))] ++ va_pl L M) := hD
          have hq := Eq.symm hp_138
          subst hq
          have hI_139 : (k1 : Int32).toInt ≠ (1 : Int) := ineI rfl rfl c_2
          have hI_140 : (k1 : Int32).toInt = (2 : Int) := ieqI rfl rfl c_72
          have hI_141 : (0 : Int) ≤ (k1 : Int32).toInt := inltI rfl rfl c_73
          have hI_142 : (k1 : Int32).toInt ≤ (5 : Int) := inltI rfl rfl c_74
          have hI_143 : (0 : Int) ≤ (k2 : Int32).toInt := inltI rfl rfl c_76
          have hI_144 : (1000000000 : Int) < (k2 : Int32).toInt := inleI rfl rfl c_86
          have hI_145 : (0 : Int) ≤ (k2 : Int32).toInt := inltI rfl rfl n_134
          have hno : ¬ okPa z2 z3 k1 k2 := fun q9 => by unfold okPa at q9; omega
          have hE : cnPa z2 z3 k1 k2 = z3 := by unfold cnPa; rw [if_neg hno]
          have hP : va_P D vwCl ([(za, (b13_0 0 z1 (nI z2) (nI (cnPa z2 z3 k1 k2)) 2 (-1) z6 z7 z8 z9 (nI z10) z11 z12 z13 z14 z15 (nI z16) z17 z18 z19))] ++ va_pl L M) H_135 := by rw [hE]; exact hP
          have hD : va_D A ([(za, (b13_0 0 z1 (nI z2) (nI (cnPa z2 z3 k1 k2)) 2 (-1) z6 z7 z8 z9 (nI z10) z11 z12 z13 z14 z15 (nI z16) z17 z18 z19))] ++ va_pl L M) := by rw [hE]; exact hD
          rw [hQ]
          exact W.iret (v := (-1)) hx hb hr (fun t ht hW9 => ⟨⟨(-1), M, rfl, ⟨hW, hF, ⟨hR5, by unfold pkPa ptPa; rw [if_neg hno, if_neg hno]; exact hZP⟩, (by unfold anPa; rw [if_neg hno])⟩, ⟨2, by rw [ht]; exact hP, hD⟩⟩, hS.F ht⟩) hS.2.2 dX13_partner_54
    · have hz := rfl (a := 0)
      refine lv_iload_n hx hb dX13_partner_15 rfl (lv_at hl 1 rfl) ?_
      refine lv_iconst (v := 4) hx hb dX13_partner_16 (by decide) ?_
      refine lv_icmp_ne (tgt := 24) hx hb dX13_partner_17 (by decide) (fun c_146 => ?_) (fun c_146 => ?_)
      · have hz := rfl (a := 0)
        refine lv_iconst (v := 0) hx hb dX13_partner_24 (by decide) ?_
        refine lv_istore_n (lv' := [(3, .int 0), (0, .ref za), (1, .int k1), (2, .int k2)]) hx hb dX13_partner_25 rfl hl (by decide) rfl (fun ls hl => ?_)
        refine lv_iload_n hx hb dX13_partner_26 rfl (lv_at hl 2 rfl) ?_
        refine lv_if_lt (tgt := 49) hx hb dX13_partner_27 (by decide) (fun c_147 => ?_) (fun c_147 => ?_)
        · have hz := rfl (a := 0)
          refine lv_aload_n hx hb dX13_partner_49 rfl (lv_at hl 1 rfl) ?_
          refine lv_iconst (v := 2) hx hb dX13_partner_50 (by decide) ?_
          have hPc := hP.sub (ws' := [(za, (b13_0 0 z1 (nI z2) (nI z3) z4 z5 z6 z7 z8 z9 (nI z10) z11 z12 z13 z14 z15 (nI z16) z17 z18 z19))]) [0] rfl
          have hDc := hD.sub (ws' := [(za, (b13_0 0 z1 (nI z2) (nI z3) z4 z5 z6 z7 z8 z9 (nI z10) z11 z12 z13 z14 z15 (nI z16) z17 z18 z19))]) [0] (by decide) rfl
          have hKc := hK.sub (tys' := []) [] rfl
          have hFc := va_free (wc := [(za, (b13_0 0 z1 (nI z2) (nI z3) z4 z5 z6 z7 z8 z9 (nI z10) z11 z12 z13 z14 z15 (nI z16) z17 z18 z19))]) hD hS hA [0] rfl
          refine va_calli (va_runV (As := [.int 2]) (rest := []) ⟨hx, hb, hml, hown, hg⟩ (m_refused l D H_1.size za 0 z1 (nI z2) (nI z3) z4 z5 z6 z7 z8 z9 (nI z10) z11 z12 z13 z14 z15 (nI z16) z17 z18 z19 2) (cwV 1 hg (gV wd_725 wd_726 wd_727 wd_717 wd_728) rfl rfl rfl (by decide +kernel) ⟨(Nat.le_trans (Nat.le_of_ble_eq_true rfl) hRf), (Nat.le_trans (Nat.le_of_ble_eq_true rfl) hRl)⟩) ⟨Pr.blind, va_recv hK hP (ci := 13) (q0 := 0) rfl rfl, fun U hU hW => ⟨rfl, Pr.at hPc hKc hDc hN hU hW⟩⟩ rfl rfl hl.1 rfl (lv_room (Nat.le_of_ble_eq_true rfl)) dX13_partner_51 ⟨(Nat.le_trans (Nat.le_of_ble_eq_true rfl) hRc), (Nat.le_trans (Nat.le_of_ble_eq_true rfl) hRs)⟩) hS (fun q _ h => hFc q h) hFc (fun r_149 M_150 t H_148 locs ht hvm hw hB hz1 hk1 hS => ?_)
          have hp_151 := hw
          obtain ⟨hP1, hK1, hD1⟩ := hB
          rw [ht] at hP1
          obtain ⟨hP, hD⟩ := va_joinQ (X := [(za, (b13_0 0 z1 (nI z2) (nI z3) z4 z5 z6 z7 z8 z9 (nI z10) z11 z12 z13 z14 z15 (nI z16) z17 z18 z19))]) (cx := [(za, (b13_0 0 z1 (nI z2) (nI z3) z4 z5 z6 z7 z8 z9 (nI z10) z11 z12 z13 z14 z15 (nI z16) z17 z18 z19))]) (wr := []) (w1 := [(za, (b13_0 0 z1 (nI z2) (nI z3) 2 (-1) z6 z7 z8 z9 (nI z10) z11 z12 z13 z14 z15 (nI z16) z17 z18 z19))]) (pl := va_pl L M) hP hD [0] [] rfl rfl (by decide) (by decide) hk1 hFc hP1 hD1
          have hP : va_P D vwCl ([(za, (b13_0 0 z1 (nI z2) (nI z3) 2 (-1) z6 z7 z8 z9 (nI z10) z11 z12 z13 z14 z15 (nI z16) z17 z18 z19))] ++ va_pl L M) H_148 := hP
          have hD : va_D A ([(za, (b13_0 0 z1 (nI z2) (nI z3) 2 (-1) z6 z7 z8 z9 (nI z10) z11 z12 z13 z14 z15 (nI z16) z17 z18 z19))] ++ va_pl L M) := hD
          have hq := Eq.symm hp_151
          subst hq
          have hI_152 : (k1 : Int32).toInt ≠ (1 : Int) := ineI rfl rfl c_2
          have hI_153 : (k1 : Int32).toInt ≠ (2 : Int) := ineI rfl rfl c_72
          have hI_154 : (k1 : Int32).toInt ≠ (4 : Int) := ineI rfl rfl c_146
          have hI_155 : (k1 : Int32).toInt < (0 : Int) := iltI rfl rfl c_147
          have hno : ¬ okPa z2 z3 k1 k2 := fun q9 => by unfold okPa at q9; omega
          have hE : cnPa z2 z3 k1 k2 = z3 := by unfold cnPa; rw [if_neg hno]
          have hP : va_P D vwCl ([(za, (b13_0 0 z1 (nI z2) (nI (cnPa z2 z3 k1 k2)) 2 (-1) z6 z7 z8 z9 (nI z10) z11 z12 z13 z14 z15 (nI z16) z17 z18 z19))] ++ va_pl L M) H_148 := by rw [hE]; exact hP
          have hD : va_D A ([(za, (b13_0 0 z1 (nI z2) (nI (cnPa z2 z3 k1 k2)) 2 (-1) z6 z7 z8 z9 (nI z10) z11 z12 z13 z14 z15 (nI z16) z17 z18 z19))] ++ va_pl L M) := by rw [hE]; exact hD
          rw [hQ]
          exact W.iret (v := (-1)) hx hb hr (fun t ht hW9 => ⟨⟨(-1), M, rfl, ⟨hW, hF, ⟨hR5, by unfold pkPa ptPa; rw [if_neg hno, if_neg hno]; exact hZP⟩, (by unfold anPa; rw [if_neg hno])⟩, ⟨2, by rw [ht]; exact hP, hD⟩⟩, hS.F ht⟩) hS.2.2 dX13_partner_54
        · have hz := rfl (a := 0)
          refine lv_iload_n hx hb dX13_partner_30 rfl (lv_at hl 2 rfl) ?_
          refine lv_iconst (v := 5) hx hb dX13_partner_31 (by decide) ?_
          refine lv_icmp_gt (tgt := 49) hx hb dX13_partner_32 (by decide) (fun c_156 => ?_) (fun c_156 => ?_)
          · have hz := rfl (a := 0)
            have n_157 : ¬ k1 < 0 := gtN (c := 5) (by omega) c_156
            refine lv_aload_n hx hb dX13_partner_49 rfl (lv_at hl 1 rfl) ?_
            refine lv_iconst (v := 2) hx hb dX13_partner_50 (by decide) ?_
            have hPc := hP.sub (ws' := [(za, (b13_0 0 z1 (nI z2) (nI z3) z4 z5 z6 z7 z8 z9 (nI z10) z11 z12 z13 z14 z15 (nI z16) z17 z18 z19))]) [0] rfl
            have hDc := hD.sub (ws' := [(za, (b13_0 0 z1 (nI z2) (nI z3) z4 z5 z6 z7 z8 z9 (nI z10) z11 z12 z13 z14 z15 (nI z16) z17 z18 z19))]) [0] (by decide) rfl
            have hKc := hK.sub (tys' := []) [] rfl
            have hFc := va_free (wc := [(za, (b13_0 0 z1 (nI z2) (nI z3) z4 z5 z6 z7 z8 z9 (nI z10) z11 z12 z13 z14 z15 (nI z16) z17 z18 z19))]) hD hS hA [0] rfl
            refine va_calli (va_runV (As := [.int 2]) (rest := []) ⟨hx, hb, hml, hown, hg⟩ (m_refused l D H_1.size za 0 z1 (nI z2) (nI z3) z4 z5 z6 z7 z8 z9 (nI z10) z11 z12 z13 z14 z15 (nI z16) z17 z18 z19 2) (cwV 1 hg (gV wd_725 wd_726 wd_727 wd_717 wd_728) rfl rfl rfl (by decide +kernel) ⟨(Nat.le_trans (Nat.le_of_ble_eq_true rfl) hRf), (Nat.le_trans (Nat.le_of_ble_eq_true rfl) hRl)⟩) ⟨Pr.blind, va_recv hK hP (ci := 13) (q0 := 0) rfl rfl, fun U hU hW => ⟨rfl, Pr.at hPc hKc hDc hN hU hW⟩⟩ rfl rfl hl.1 rfl (lv_room (Nat.le_of_ble_eq_true rfl)) dX13_partner_51 ⟨(Nat.le_trans (Nat.le_of_ble_eq_true rfl) hRc), (Nat.le_trans (Nat.le_of_ble_eq_true rfl) hRs)⟩) hS (fun q _ h => hFc q h) hFc (fun r_159 M_160 t H_158 locs ht hvm hw hB hz1 hk1 hS => ?_)
            have hp_161 := hw
            obtain ⟨hP1, hK1, hD1⟩ := hB
            rw [ht] at hP1
            obtain ⟨hP, hD⟩ := va_joinQ (X := [(za, (b13_0 0 z1 (nI z2) (nI z3) z4 z5 z6 z7 z8 z9 (nI z10) z11 z12 z13 z14 z15 (nI z16) z17 z18 z19))]) (cx := [(za, (b13_0 0 z1 (nI z2) (nI z3) z4 z5 z6 z7 z8 z9 (nI z10) z11 z12 z13 z14 z15 (nI z16) z17 z18 z19))]) (wr := []) (w1 := [(za, (b13_0 0 z1 (nI z2) (nI z3) 2 (-1) z6 z7 z8 z9 (nI z10) z11 z12 z13 z14 z15 (nI z16) z17 z18 z19))]) (pl := va_pl L M) hP hD [0] [] rfl rfl (by decide) (by decide) hk1 hFc hP1 hD1
            have hP : va_P D vwCl ([(za, (b13_0 0 z1 (nI z2) (nI z3) 2 (-1) z6 z7 z8 z9 (nI z10) z11 z12 z13 z14 z15 (nI z16) z17 z18 z19))] ++ va_pl L M) H_158 := hP
            have hD : va_D A ([(za, (b13_0 0 z1 (nI z2) (nI z3) 2 (-1) z6 z7 z8 z9 (nI z10) z11 z12 z13 z14 z15 (nI z16) z17 z18 z19))] ++ va_pl L M) := hD
            have hq := Eq.symm hp_161
            subst hq
            have hI_162 : (k1 : Int32).toInt ≠ (1 : Int) := ineI rfl rfl c_2
            have hI_163 : (k1 : Int32).toInt ≠ (2 : Int) := ineI rfl rfl c_72
            have hI_164 : (k1 : Int32).toInt ≠ (4 : Int) := ineI rfl rfl c_146
            have hI_165 : (0 : Int) ≤ (k1 : Int32).toInt := inltI rfl rfl c_147
            have hI_166 : (5 : Int) < (k1 : Int32).toInt := iltI rfl rfl c_156
            have hI_167 : (0 : Int) ≤ (k1 : Int32).toInt := inltI rfl rfl n_157
            have hno : ¬ okPa z2 z3 k1 k2 := fun q9 => by unfold okPa at q9; omega
            have hE : cnPa z2 z3 k1 k2 = z3 := by unfold cnPa; rw [if_neg hno]
            have hP : va_P D vwCl ([(za, (b13_0 0 z1 (nI z2) (nI (cnPa z2 z3 k1 k2)) 2 (-1) z6 z7 z8 z9 (nI z10) z11 z12 z13 z14 z15 (nI z16) z17 z18 z19))] ++ va_pl L M) H_158 := by rw [hE]; exact hP
            have hD : va_D A ([(za, (b13_0 0 z1 (nI z2) (nI (cnPa z2 z3 k1 k2)) 2 (-1) z6 z7 z8 z9 (nI z10) z11 z12 z13 z14 z15 (nI z16) z17 z18 z19))] ++ va_pl L M) := by rw [hE]; exact hD
            rw [hQ]
            exact W.iret (v := (-1)) hx hb hr (fun t ht hW9 => ⟨⟨(-1), M, rfl, ⟨hW, hF, ⟨hR5, by unfold pkPa ptPa; rw [if_neg hno, if_neg hno]; exact hZP⟩, (by unfold anPa; rw [if_neg hno])⟩, ⟨2, by rw [ht]; exact hP, hD⟩⟩, hS.F ht⟩) hS.2.2 dX13_partner_54
          · have hz := rfl (a := 0)
            refine lv_iload_n hx hb dX13_partner_35 rfl (lv_at hl 0 rfl) ?_
            refine lv_if_eq (tgt := 55) hx hb dX13_partner_36 (by decide) (fun _ => ?_) (fun c_168 => absurd c_168 (by decide))
            refine lv_iload_n hx hb dX13_partner_55 rfl (lv_at hl 2 rfl) ?_
            refine lv_iconst (v := 5) hx hb dX13_partner_56 (by decide) ?_
            refine lv_icmp_ne (tgt := 74) hx hb dX13_partner_57 (by decide) (fun c_169 => ?_) (fun c_169 => ?_)
            · have hz := rfl (a := 0)
              refine lv_aload_n hx hb dX13_partner_74 rfl (lv_at hl 1 rfl) ?_
              refine va_get (D := D) (ci := 13) (v := .int (nI z3)) (C := RX13) (T := TX13) (N := 20) hx hb hg inG13 hown hK hP 0 rfl rfl 3 (by decide) (hg _ wd_831) (fun _ h9 => h9) rfl dX13_partner_75 ?_
              refine lv_bipush (v := 40) hx hb dX13_partner_78 (by decide) ?_
              refine lv_icmp_ne (tgt := 90) hx hb dX13_partner_80 (by decide) (fun c_170 => ?_) (fun c_170 => ?_)
              · have hz := rfl (a := 0)
                have n_171 : ¬ (z3 = 40) := fun q => c_170 ((iEQ (a := z3) (b := 40) (by omega) (by omega)).mpr q)
                obtain ⟨f172, hM172, hf172⟩ := hW.open_47 i6
                obtain ⟨f173, hM173⟩ := hW.open_48 i7
                have he6 := hM172
                have he7 := hM173
                refine lv_aload_n hx hb dX13_partner_90 rfl (lv_at hl 1 rfl) ?_
                refine va_get (D := D) (ci := 13) (v := .ref z6) (C := RX13) (T := TX13) (N := 20) hx hb hg inG13 hown hK hP 0 rfl rfl 6 (by decide) (hg _ wd_719) (fun _ h9 => h9) rfl dX13_partner_91 ?_
                refine lv_aload_n hx hb dX13_partner_94 rfl (lv_at hl 1 rfl) ?_
                refine va_get (D := D) (ci := 13) (v := .int (nI z3)) (C := RX13) (T := TX13) (N := 20) hx hb hg inG13 hown hK hP 0 rfl rfl 3 (by decide) (hg _ wd_831) (fun _ h9 => h9) rfl dX13_partner_95 ?_
                refine lv_iload_n hx hb dX13_partner_98 rfl (lv_at hl 2 rfl) ?_
                obtain ⟨j_174, hj_175, rfl⟩ := i32nat 6 (by decide) c_147 (leB (b := 6) (c := 5) (by decide) (by decide) (Int32.not_lt.mp c_156))
                refine pg_iast hx hb hK hP hD hS i6.1 0 hM172 rfl (inbN z3 40 (by omega) (by omega)) dX13_partner_99 (fun H_176 locs hP hD hS => ?_)
                obtain ⟨M_177, eM_177⟩ : ∃ M1 : Hp, M1 = va_up M z6 (.inl (cy 14, 40, .inl (upd f172 ((nI z3) : Int32).toNatClampNeg (nI j_174)))) := ⟨_, rfl⟩
                have hP : va_P D vwCl ([(za, (b13_0 0 z1 (nI z2) (nI z3) z4 z5 z6 z7 z8 z9 (nI z10) z11 z12 z13 z14 z15 (nI z16) z17 z18 z19))] ++ va_pl L M_177) H_176 := by rw [eM_177]; exact hP
                have hD : va_D A ([(za, (b13_0 0 z1 (nI z2) (nI z3) z4 z5 z6 z7 z8 z9 (nI z10) z11 z12 z13 z14 z15 (nI z16) z17 z18 z19))] ++ va_pl L M_177) := by rw [eM_177]; exact hD
                have hW : WOM cy K L M_177 := by rw [eM_177]; exact hW.up_47 i6 ⟨_, rfl, (updP (P := fun z => ∃ c : Nat, c < 6 ∧ z = nI c) hf172 ⟨j_174, by omega, rfl⟩)⟩
                have hF : fr K L [47, 48] M M_177 := by rw [eM_177]; exact hF.up i6 (by decide)
                have hM_178 : M_177 z6 = .inl (cy 14, 40, .inl (upd f172 ((nI z3) : Int32).toNatClampNeg (nI j_174))) := by rw [eM_177]; exact va_up_self _ _ _
                have hM_179 : M_177 z7 = .inl (cy 14, 40, .inl (f173)) := by rw [eM_177, va_up_ne _ _ (i7.neT i6 (by decide))]; exact hM173
                have hf_181 : ∀ j, j < 40 → ∃ c : Nat, c < 6 ∧ (upd f172 ((nI z3) : Int32).toNatClampNeg (nI j_174)) j = nI c := (updP (P := fun z => ∃ c : Nat, c < 6 ∧ z = nI c) hf172 ⟨j_174, by omega, rfl⟩)
                obtain ⟨f_180, ef_180⟩ : ∃ f : Nat → Int32, f = upd f172 ((nI z3) : Int32).toNatClampNeg (nI j_174) := ⟨_, rfl⟩
                rw [← ef_180] at hM_178 hf_181
                refine lv_aload_n hx hb dX13_partner_100 rfl (lv_at hl 1 rfl) ?_
                refine va_get (D := D) (ci := 13) (v := .ref z7) (C := RX13) (T := TX13) (N := 20) hx hb hg inG13 hown hK hP 0 rfl rfl 7 (by decide) (hg _ wd_760) (fun _ h9 => h9) rfl dX13_partner_101 ?_
                refine lv_aload_n hx hb dX13_partner_104 rfl (lv_at hl 1 rfl) ?_
                refine va_get (D := D) (ci := 13) (v := .int (nI z3)) (C := RX13) (T := TX13) (N := 20) hx hb hg inG13 hown hK hP 0 rfl rfl 3 (by decide) (hg _ wd_831) (fun _ h9 => h9) rfl dX13_partner_105 ?_
                refine lv_iload_n hx hb dX13_partner_108 rfl (lv_at hl 3 rfl) ?_
                refine pg_iast hx hb hK hP hD hS i7.1 0 hM_179 rfl (inbN z3 40 (by omega) (by omega)) dX13_partner_109 (fun H_182 locs hP hD hS => ?_)
                obtain ⟨M_183, eM_183⟩ : ∃ M1 : Hp, M1 = va_up M_177 z7 (.inl (cy 14, 40, .inl (upd f173 ((nI z3) : Int32).toNatClampNeg k2))) := ⟨_, rfl⟩
                have hP : va_P D vwCl ([(za, (b13_0 0 z1 (nI z2) (nI z3) z4 z5 z6 z7 z8 z9 (nI z10) z11 z12 z13 z14 z15 (nI z16) z17 z18 z19))] ++ va_pl L M_183) H_182 := by rw [eM_183]; exact hP
                have hD : va_D A ([(za, (b13_0 0 z1 (nI z2) (nI z3) z4 z5 z6 z7 z8 z9 (nI z10) z11 z12 z13 z14 z15 (nI z16) z17 z18 z19))] ++ va_pl L M_183) := by rw [eM_183]; exact hD
                have hW : WOM cy K L M_183 := by rw [eM_183]; exact hW.up_48 i7 ⟨_, rfl⟩
                have hF : fr K L [47, 48] M M_183 := by rw [eM_183]; exact hF.up i7 (by decide)
                have hM_184 : M_183 z7 = .inl (cy 14, 40, .inl (upd f173 ((nI z3) : Int32).toNatClampNeg k2)) := by rw [eM_183]; exact va_up_self _ _ _
                have hM_185 : M_183 z6 = .inl (cy 14, 40, .inl (f_180)) := by rw [eM_183, va_up_ne _ _ (i6.neT i7 (by decide))]; exact hM_178
                obtain ⟨f_186, ef_186⟩ : ∃ f : Nat → Int32, f = upd f173 ((nI z3) : Int32).toNatClampNeg k2 := ⟨_, rfl⟩
                rw [← ef_186] at hM_184
                refine lv_aload_n hx hb dX13_partner_110 rfl (lv_at hl 1 rfl) ?_
                refine lv_dup hx hb dX13_partner_111 rfl ?_
                refine va_get (D := D) (ci := 13) (v := .int (nI z3)) (C := RX13) (T := TX13) (N := 20) hx hb hg inG13 hown hK hP 0 rfl rfl 3 (by decide) (hg _ wd_831) (fun _ h9 => h9) rfl dX13_partner_112 ?_
                refine lv_iconst (v := 1) hx hb dX13_partner_115 (by decide) ?_
                refine lv_iadd hx hb dX13_partner_116 ?_
                refine lv_topi (fun f_187 ef_187 => ?_)
                obtain rfl : f_187 = (nI (z3 + 1)) := ef_187.trans (nI_add z3 1)
                refine va_put (D := D) (ci := 13) (v := .int (nI (z3 + 1))) (ty := .int) (C := RX13) (T := TX13) (N := 20) hx hb hg inG13 tyX13 tyX13_ok nmX13 hown hK hP hD hS 0 rfl rfl 3 (by decide) (hg _ wd_831) (fun _ h9 => h9) rfl (by decide +kernel) rfl rfl (Nat.le_of_ble_eq_true rfl) dX13_partner_117 (fun H_188 locs hP hD hS => ?_)
                have hP : va_P D vwCl ([(za, (b13_0 0 z1 (nI z2) (nI (z3 + 1)) z4 z5 z6 z7 z8 z9 (nI z10) z11 z12 z13 z14 z15 (nI z16) z17 z18 z19))] ++ va_pl L M_183) H_188 := hP
                have hD : va_D A ([(za, (b13_0 0 z1 (nI z2) (nI (z3 + 1)) z4 z5 z6 z7 z8 z9 (nI z10) z11 z12 z13 z14 z15 (nI z16) z17 z18 z19))] ++ va_pl L M_183) := hD
                refine lv_aload_n hx hb dX13_partner_120 rfl (lv_at hl 1 rfl) ?_
                refine lv_aload_n hx hb dX13_partner_121 rfl (lv_at hl 1 rfl) ?_
                refine va_get (D := D) (ci := 13) (v := .int (nI (z3 + 1))) (C := RX13) (T := TX13) (N := 20) hx hb hg inG13 hown hK hP 0 rfl rfl 3 (by decide) (hg _ wd_831) (fun _ h9 => h9) rfl dX13_partner_122 ?_
                refine lv_iconst (v := 1) hx hb dX13_partner_125 (by decide) ?_
                refine lv_isub hx hb dX13_partner_126 ?_
                refine lv_topi (fun f_189 ef_189 => ?_)
                obtain rfl : f_189 = (nI ((z3 + 1) - 1)) := ef_189.trans (nI_prd (by omega))
                have hPc := hP.sub (ws' := [(za, (b13_0 0 z1 (nI z2) (nI (z3 + 1)) z4 z5 z6 z7 z8 z9 (nI z10) z11 z12 z13 z14 z15 (nI z16) z17 z18 z19))]) [0] rfl
                have hDc := hD.sub (ws' := [(za, (b13_0 0 z1 (nI z2) (nI (z3 + 1)) z4 z5 z6 z7 z8 z9 (nI z10) z11 z12 z13 z14 z15 (nI z16) z17 z18 z19))]) [0] (by decide) rfl
                have hKc := hK.sub (tys' := []) [] rfl
                have hFc := va_free (wc := [(za, (b13_0 0 z1 (nI z2) (nI (z3 + 1)) z4 z5 z6 z7 z8 z9 (nI z10) z11 z12 z13 z14 z15 (nI z16) z17 z18 z19))]) hD hS hA [0] rfl
                refine va_calli (va_runV (As := [.int (nI ((z3 + 1) - 1))]) (rest := []) ⟨hx, hb, hml, hown, hg⟩ (m_done l D H_188.size za 0 z1 (nI z2) (nI (z3 + 1)) z4 z5 z6 z7 z8 z9 (nI z10) z11 z12 z13 z14 z15 (nI z16) z17 z18 z19 (nI ((z3 + 1) - 1))) (cwV 1 hg (gV wd_730 wd_731 wd_732 wd_717 wd_733) rfl rfl rfl (by decide +kernel) ⟨(Nat.le_trans (Nat.le_of_ble_eq_true rfl) hRf), (Nat.le_trans (Nat.le_of_ble_eq_true rfl) hRl)⟩) ⟨Pr.blind, va_recv hK hP (ci := 13) (q0 := 0) rfl rfl, fun U hU hW => ⟨rfl, Pr.at hPc hKc hDc hN hU hW⟩⟩ rfl rfl hl.1 rfl (lv_room (Nat.le_of_ble_eq_true rfl)) dX13_partner_127 ⟨(Nat.le_trans (Nat.le_of_ble_eq_true rfl) hRc), (Nat.le_trans (Nat.le_of_ble_eq_true rfl) hRs)⟩) hS (fun q _ h => hFc q h) hFc (fun r_191 M_192 t H_190 locs ht hvm hw hB hz1 hk1 hS => ?_)
                have hp_193 := hw
                obtain ⟨hP1, hK1, hD1⟩ := hB
                rw [ht] at hP1
                obtain ⟨hP, hD⟩ := va_joinQ (X := [(za, (b13_0 0 z1 (nI z2) (nI (z3 + 1)) z4 z5 z6 z7 z8 z9 (nI z10) z11 z12 z13 z14 z15 (nI z16) z17 z18 z19))]) (cx := [(za, (b13_0 0 z1 (nI z2) (nI (z3 + 1)) z4 z5 z6 z7 z8 z9 (nI z10) z11 z12 z13 z14 z15 (nI z16) z17 z18 z19))]) (wr := []) (w1 := [(za, (b13_0 0 z1 (nI z2) (nI (z3 + 1)) 0 (-1) z6 z7 z8 z9 (nI z10) z11 z12 z13 z14 z15 (nI z16) z17 z18 z19))]) (pl := va_pl L M_183) hP hD [0] [] rfl rfl (by decide) (by decide) hk1 hFc hP1 hD1
                have hP : va_P D vwCl ([(za, (b13_0 0 z1 (nI z2) (nI (z3 + 1)) 0 (-1) z6 z7 z8 z9 (nI z10) z11 z12 z13 z14 z15 (nI z16) z17 z18 z19))] ++ va_pl L M_183) H_190 := hP
                have hD : va_D A ([(za, (b13_0 0 z1 (nI z2) (nI (z3 + 1)) 0 (-1) z6 z7 z8 z9 (nI z10) z11 z12 z13 z14 z15 (nI z16) z17 z18 z19))] ++ va_pl L M_183) := hD
                have hq := Eq.symm hp_193
                subst hq
                have hI_194 : ((j_174 : Nat) : Int) ≠ (1 : Int) := ineI (nI_toInt (by omega)) rfl c_2
                have hI_195 : ((j_174 : Nat) : Int) ≠ (2 : Int) := ineI (nI_toInt (by omega)) rfl c_72
                have hI_196 : ((j_174 : Nat) : Int) ≠ (4 : Int) := ineI (nI_toInt (by omega)) rfl c_146
                have hI_197 : (0 : Int) ≤ ((j_174 : Nat) : Int) := inltI (nI_toInt (by omega)) rfl c_147
                have hI_198 : ((j_174 : Nat) : Int) ≤ (5 : Int) := inltI rfl (nI_toInt (by omega)) c_156
                have hI_199 : ((j_174 : Nat) : Int) ≠ (5 : Int) := ineI (nI_toInt (by omega)) rfl c_169
                have hI_200 : ((z3 : Nat) : Int) ≠ (40 : Int) := ineI (nI_toInt (by omega)) rfl c_170
                have hn_201 : ((nI j_174) : Int32).toInt = ((j_174 : Nat) : Int) := nI_toInt (by omega)
                have hyes : okPa z2 z3 (nI j_174) k2 := by unfold okPa; refine ⟨?_, ?_, ?_, ?_, ?_⟩ <;> omega
                have hE : cnPa z2 z3 (nI j_174) k2 = (z3 + 1) := by unfold cnPa; rw [if_pos hyes]
                have hP : va_P D vwCl ([(za, (b13_0 0 z1 (nI z2) (nI (cnPa z2 z3 (nI j_174) k2)) 0 (-1) z6 z7 z8 z9 (nI z10) z11 z12 z13 z14 z15 (nI z16) z17 z18 z19))] ++ va_pl L M_183) H_190 := by rw [hE]; exact hP
                have hD : va_D A ([(za, (b13_0 0 z1 (nI z2) (nI (cnPa z2 z3 (nI j_174) k2)) 0 (-1) z6 z7 z8 z9 (nI z10) z11 z12 z13 z14 z15 (nI z16) z17 z18 z19))] ++ va_pl L M_183) := by rw [hE]; exact hD
                have hR9 : R5 z6 z7 M_183 := R5.put hR5 he6 he7 (by rw [hM_185, ef_180]) (by rw [hM_184, ef_186]) (fun q => absurd q c_169)
                rw [hQ]
                exact W.iret (v := (nI ((z3 + 1) - 1))) hx hb hr (fun t ht hW9 => ⟨⟨(nI ((z3 + 1) - 1)), M_183, rfl, ⟨hW, hF, ⟨hR9, by unfold pkPa ptPa; rw [if_pos hyes, if_pos hyes]; exact ⟨by rw [← hZP.1, show IFc (M z6) = f172 from by rw [he6]; rfl, show IFc (M_183 z6) = f_180 from by rw [hM_185]; rfl, ef_180, nI_cl (by omega)], by rw [← hZP.2, show IFc (M z7) = f173 from by rw [he7]; rfl, show IFc (M_183 z7) = f_186 from by rw [hM_184]; rfl, ef_186, nI_cl (by omega)]⟩⟩, (by unfold anPa; rw [if_pos hyes, Nat.add_sub_cancel])⟩, ⟨0, by rw [ht]; exact hP, hD⟩⟩, hS.F ht⟩) hS.2.2 dX13_partner_130
              · have hz := rfl (a := 0)
                have n_202 : z3 = 40 := (iEQ (a := z3) (b := 40) (by omega) (by omega)).mp c_170
                refine lv_aload_n hx hb dX13_partner_83 rfl (lv_at hl 1 rfl) ?_
                refine lv_bipush (v := 9) hx hb dX13_partner_84 (by decide) ?_
                have hPc := hP.sub (ws' := [(za, (b13_0 0 z1 (nI z2) (nI z3) z4 z5 z6 z7 z8 z9 (nI z10) z11 z12 z13 z14 z15 (nI z16) z17 z18 z19))]) [0] rfl
                have hDc := hD.sub (ws' := [(za, (b13_0 0 z1 (nI z2) (nI z3) z4 z5 z6 z7 z8 z9 (nI z10) z11 z12 z13 z14 z15 (nI z16) z17 z18 z19))]) [0] (by decide) rfl
                have hKc := hK.sub (tys' := []) [] rfl
                have hFc := va_free (wc := [(za, (b13_0 0 z1 (nI z2) (nI z3) z4 z5 z6 z7 z8 z9 (nI z10) z11 z12 z13 z14 z15 (nI z16) z17 z18 z19))]) hD hS hA [0] rfl
                refine va_calli (va_runV (As := [.int 9]) (rest := []) ⟨hx, hb, hml, hown, hg⟩ (m_refused l D H_1.size za 0 z1 (nI z2) (nI z3) z4 z5 z6 z7 z8 z9 (nI z10) z11 z12 z13 z14 z15 (nI z16) z17 z18 z19 9) (cwV 1 hg (gV wd_725 wd_726 wd_727 wd_717 wd_728) rfl rfl rfl (by decide +kernel) ⟨(Nat.le_trans (Nat.le_of_ble_eq_true rfl) hRf), (Nat.le_trans (Nat.le_of_ble_eq_true rfl) hRl)⟩) ⟨Pr.blind, va_recv hK hP (ci := 13) (q0 := 0) rfl rfl, fun U hU hW => ⟨rfl, Pr.at hPc hKc hDc hN hU hW⟩⟩ rfl rfl hl.1 rfl (lv_room (Nat.le_of_ble_eq_true rfl)) dX13_partner_86 ⟨(Nat.le_trans (Nat.le_of_ble_eq_true rfl) hRc), (Nat.le_trans (Nat.le_of_ble_eq_true rfl) hRs)⟩) hS (fun q _ h => hFc q h) hFc (fun r_204 M_205 t H_203 locs ht hvm hw hB hz1 hk1 hS => ?_)
                have hp_206 := hw
                obtain ⟨hP1, hK1, hD1⟩ := hB
                rw [ht] at hP1
                obtain ⟨hP, hD⟩ := va_joinQ (X := [(za, (b13_0 0 z1 (nI z2) (nI z3) z4 z5 z6 z7 z8 z9 (nI z10) z11 z12 z13 z14 z15 (nI z16) z17 z18 z19))]) (cx := [(za, (b13_0 0 z1 (nI z2) (nI z3) z4 z5 z6 z7 z8 z9 (nI z10) z11 z12 z13 z14 z15 (nI z16) z17 z18 z19))]) (wr := []) (w1 := [(za, (b13_0 0 z1 (nI z2) (nI z3) 9 (-1) z6 z7 z8 z9 (nI z10) z11 z12 z13 z14 z15 (nI z16) z17 z18 z19))]) (pl := va_pl L M) hP hD [0] [] rfl rfl (by decide) (by decide) hk1 hFc hP1 hD1
                have hP : va_P D vwCl ([(za, (b13_0 0 z1 (nI z2) (nI z3) 9 (-1) z6 z7 z8 z9 (nI z10) z11 z12 z13 z14 z15 (nI z16) z17 z18 z19))] ++ va_pl L M) H_203 := hP
                have hD : va_D A ([(za, (b13_0 0 z1 (nI z2) (nI z3) 9 (-1) z6 z7 z8 z9 (nI z10) z11 z12 z13 z14 z15 (nI z16) z17 z18 z19))] ++ va_pl L M) := hD
                have hq := Eq.symm hp_206
                subst hq
                have hI_207 : (k1 : Int32).toInt ≠ (1 : Int) := ineI rfl rfl c_2
                have hI_208 : (k1 : Int32).toInt ≠ (2 : Int) := ineI rfl rfl c_72
                have hI_209 : (k1 : Int32).toInt ≠ (4 : Int) := ineI rfl rfl c_146
                have hI_210 : (0 : Int) ≤ (k1 : Int32).toInt := inltI rfl rfl c_147
                have hI_211 : (k1 : Int32).toInt ≤ (5 : Int) := inltI rfl rfl c_156
                have hI_212 : (k1 : Int32).toInt ≠ (5 : Int) := ineI rfl rfl c_169
                have hI_213 : ((z3 : Nat) : Int) = (40 : Int) := ieqI (nI_toInt (by omega)) rfl c_170
                have hno : ¬ okPa z2 z3 k1 k2 := fun q9 => by unfold okPa at q9; omega
                have hE : cnPa z2 z3 k1 k2 = z3 := by unfold cnPa; rw [if_neg hno]
                have hP : va_P D vwCl ([(za, (b13_0 0 z1 (nI z2) (nI (cnPa z2 z3 k1 k2)) 9 (-1) z6 z7 z8 z9 (nI z10) z11 z12 z13 z14 z15 (nI z16) z17 z18 z19))] ++ va_pl L M) H_203 := by rw [hE]; exact hP
                have hD : va_D A ([(za, (b13_0 0 z1 (nI z2) (nI (cnPa z2 z3 k1 k2)) 9 (-1) z6 z7 z8 z9 (nI z10) z11 z12 z13 z14 z15 (nI z16) z17 z18 z19))] ++ va_pl L M) := by rw [hE]; exact hD
                rw [hQ]
                exact W.iret (v := (-1)) hx hb hr (fun t ht hW9 => ⟨⟨(-1), M, rfl, ⟨hW, hF, ⟨hR5, by unfold pkPa ptPa; rw [if_neg hno, if_neg hno]; exact hZP⟩, (by unfold anPa; rw [if_neg hno])⟩, ⟨9, by rw [ht]; exact hP, hD⟩⟩, hS.F ht⟩) hS.2.2 dX13_partner_89
            · have hz := rfl (a := 0)
              refine lv_aload_n hx hb dX13_partner_60 rfl (lv_at hl 1 rfl) ?_
              refine lv_iload_n hx hb dX13_partner_61 rfl (lv_at hl 3 rfl) ?_
              have hPc : va_P D vwCl ([(za, (b13_0 0 z1 (nI z2) (nI z3) z4 z5 z6 z7 z8 z9 (nI z10) z11 z12 z13 z14 z15 (nI z16) z17 z18 z19))] ++ va_pl L M) H_1 := hP
              have hDc : va_D A ([(za, (b13_0 0 z1 (nI z2) (nI z3) z4 z5 z6 z7 z8 z9 (nI z10) z11 z12 z13 z14 z15 (nI z16) z17 z18 z19))] ++ va_pl L M) := hD
              have hFc : ∀ q, va_A ([(za, (b13_0 0 z1 (nI z2) (nI z3) z4 z5 z6 z7 z8 z9 (nI z10) z11 z12 z13 z14 z15 (nI z16) z17 z18 z19))] ++ va_pl L M) H_1.size q → A q := pg_free hDc hS hA
              refine va_calli (va_runV (As := [.int k2]) (rest := []) ⟨hx, hb, hml, hown, hg⟩ (f_isHouse l D cy K L M H_1.size za 0 z1 z2 z3 z4 z5 z6 z7 z8 z9 z10 z11 z12 z13 z14 z15 z16 z17 z18 z19 k2  hW i1 b2 b3 i6 i7 i8 i9 b10 i11 i12 i13 i14 i15 b16 i17 i19) (cwV 1 hg (gV wd_714 wd_715 wd_716 wd_717 wd_718) rfl rfl rfl (by decide +kernel) ⟨(Nat.le_trans (Nat.le_of_ble_eq_true rfl) hRf), (Nat.le_trans (Nat.le_of_ble_eq_true rfl) hRl)⟩) ⟨PG.blind, va_recv hK hP (ci := 13) (q0 := 0) rfl rfl, fun U hU hW => ⟨rfl, PG.at hPc hK hDc hN hU hW⟩⟩ rfl rfl hl.1 rfl (lv_room (Nat.le_of_ble_eq_true rfl)) dX13_partner_62 ⟨(Nat.le_trans (Nat.le_of_ble_eq_true rfl) hRc), (Nat.le_trans (Nat.le_of_ble_eq_true rfl) hRs)⟩) hS (fun q _ h => hFc q h) hFc (fun r_215 M_216 t H_214 locs ht hvm hw hB hz1 hk1 hS => ?_)
              have hp_217 := hw
              obtain ⟨hP1, hD1⟩ := hB
              rw [ht] at hP1
              have hP : va_P D vwCl ([(za, (b13_0 0 z1 (nI z2) (nI z3) z4 z5 z6 z7 z8 z9 (nI z10) z11 z12 z13 z14 z15 (nI z16) z17 z18 z19))] ++ va_pl L M) H_214 := hP1
              have hD : va_D A ([(za, (b13_0 0 z1 (nI z2) (nI z3) z4 z5 z6 z7 z8 z9 (nI z10) z11 z12 z13 z14 z15 (nI z16) z17 z18 z19))] ++ va_pl L M) := hD1.mono hFc
              rcases hp_217 with ⟨rfl, c_218, c_219, c_220⟩ | ⟨rfl, c_221⟩
              · have hz := rfl (a := 0)
                refine lv_if_ne (tgt := 74) hx hb dX13_partner_65 (by decide) (fun _ => ?_) (fun c_222 => absurd c_222 (by decide))
                refine lv_aload_n hx hb dX13_partner_74 rfl (lv_at hl 1 rfl) ?_
                refine va_get (D := D) (ci := 13) (v := .int (nI z3)) (C := RX13) (T := TX13) (N := 20) hx hb hg inG13 hown hK hP 0 rfl rfl 3 (by decide) (hg _ wd_831) (fun _ h9 => h9) rfl dX13_partner_75 ?_
                refine lv_bipush (v := 40) hx hb dX13_partner_78 (by decide) ?_
                refine lv_icmp_ne (tgt := 90) hx hb dX13_partner_80 (by decide) (fun c_223 => ?_) (fun c_223 => ?_)
                · have hz := rfl (a := 0)
                  have n_224 : ¬ (z3 = 40) := fun q => c_223 ((iEQ (a := z3) (b := 40) (by omega) (by omega)).mpr q)
                  obtain ⟨f225, hM225, hf225⟩ := hW.open_47 i6
                  obtain ⟨f226, hM226⟩ := hW.open_48 i7
                  have he6 := hM225
                  have he7 := hM226
                  refine lv_aload_n hx hb dX13_partner_90 rfl (lv_at hl 1 rfl) ?_
                  refine va_get (D := D) (ci := 13) (v := .ref z6) (C := RX13) (T := TX13) (N := 20) hx hb hg inG13 hown hK hP 0 rfl rfl 6 (by decide) (hg _ wd_719) (fun _ h9 => h9) rfl dX13_partner_91 ?_
                  refine lv_aload_n hx hb dX13_partner_94 rfl (lv_at hl 1 rfl) ?_
                  refine va_get (D := D) (ci := 13) (v := .int (nI z3)) (C := RX13) (T := TX13) (N := 20) hx hb hg inG13 hown hK hP 0 rfl rfl 3 (by decide) (hg _ wd_831) (fun _ h9 => h9) rfl dX13_partner_95 ?_
                  refine lv_iload_n hx hb dX13_partner_98 rfl (lv_at hl 2 rfl) ?_
                  obtain ⟨j_227, hj_228, rfl⟩ := i32nat 6 (by decide) c_147 (leB (b := 6) (c := 5) (by decide) (by decide) (Int32.not_lt.mp c_156))
                  refine pg_iast hx hb hK hP hD hS i6.1 0 hM225 rfl (inbN z3 40 (by omega) (by omega)) dX13_partner_99 (fun H_229 locs hP hD hS => ?_)
                  obtain ⟨M_230, eM_230⟩ : ∃ M1 : Hp, M1 = va_up M z6 (.inl (cy 14, 40, .inl (upd f225 ((nI z3) : Int32).toNatClampNeg (nI j_227)))) := ⟨_, rfl⟩
                  have hP : va_P D vwCl ([(za, (b13_0 0 z1 (nI z2) (nI z3) z4 z5 z6 z7 z8 z9 (nI z10) z11 z12 z13 z14 z15 (nI z16) z17 z18 z19))] ++ va_pl L M_230) H_229 := by rw [eM_230]; exact hP
                  have hD : va_D A ([(za, (b13_0 0 z1 (nI z2) (nI z3) z4 z5 z6 z7 z8 z9 (nI z10) z11 z12 z13 z14 z15 (nI z16) z17 z18 z19))] ++ va_pl L M_230) := by rw [eM_230]; exact hD
                  have hW : WOM cy K L M_230 := by rw [eM_230]; exact hW.up_47 i6 ⟨_, rfl, (updP (P := fun z => ∃ c : Nat, c < 6 ∧ z = nI c) hf225 ⟨j_227, by omega, rfl⟩)⟩
                  have hF : fr K L [47, 48] M M_230 := by rw [eM_230]; exact hF.up i6 (by decide)
                  have hM_231 : M_230 z6 = .inl (cy 14, 40, .inl (upd f225 ((nI z3) : Int32).toNatClampNeg (nI j_227))) := by rw [eM_230]; exact va_up_self _ _ _
                  have hM_232 : M_230 z7 = .inl (cy 14, 40, .inl (f226)) := by rw [eM_230, va_up_ne _ _ (i7.neT i6 (by decide))]; exact hM226
                  have hf_234 : ∀ j, j < 40 → ∃ c : Nat, c < 6 ∧ (upd f225 ((nI z3) : Int32).toNatClampNeg (nI j_227)) j = nI c := (updP (P := fun z => ∃ c : Nat, c < 6 ∧ z = nI c) hf225 ⟨j_227, by omega, rfl⟩)
                  obtain ⟨f_233, ef_233⟩ : ∃ f : Nat → Int32, f = upd f225 ((nI z3) : Int32).toNatClampNeg (nI j_227) := ⟨_, rfl⟩
                  rw [← ef_233] at hM_231 hf_234
                  refine lv_aload_n hx hb dX13_partner_100 rfl (lv_at hl 1 rfl) ?_
                  refine va_get (D := D) (ci := 13) (v := .ref z7) (C := RX13) (T := TX13) (N := 20) hx hb hg inG13 hown hK hP 0 rfl rfl 7 (by decide) (hg _ wd_760) (fun _ h9 => h9) rfl dX13_partner_101 ?_
                  refine lv_aload_n hx hb dX13_partner_104 rfl (lv_at hl 1 rfl) ?_
                  refine va_get (D := D) (ci := 13) (v := .int (nI z3)) (C := RX13) (T := TX13) (N := 20) hx hb hg inG13 hown hK hP 0 rfl rfl 3 (by decide) (hg _ wd_831) (fun _ h9 => h9) rfl dX13_partner_105 ?_
                  refine lv_iload_n hx hb dX13_partner_108 rfl (lv_at hl 3 rfl) ?_
                  refine pg_iast hx hb hK hP hD hS i7.1 0 hM_232 rfl (inbN z3 40 (by omega) (by omega)) dX13_partner_109 (fun H_235 locs hP hD hS => ?_)
                  obtain ⟨M_236, eM_236⟩ : ∃ M1 : Hp, M1 = va_up M_230 z7 (.inl (cy 14, 40, .inl (upd f226 ((nI z3) : Int32).toNatClampNeg k2))) := ⟨_, rfl⟩
                  have hP : va_P D vwCl ([(za, (b13_0 0 z1 (nI z2) (nI z3) z4 z5 z6 z7 z8 z9 (nI z10) z11 z12 z13 z14 z15 (nI z16) z17 z18 z19))] ++ va_pl L M_236) H_235 := by rw [eM_236]; exact hP
                  have hD : va_D A ([(za, (b13_0 0 z1 (nI z2) (nI z3) z4 z5 z6 z7 z8 z9 (nI z10) z11 z12 z13 z14 z15 (nI z16) z17 z18 z19))] ++ va_pl L M_236) := by rw [eM_236]; exact hD
                  have hW : WOM cy K L M_236 := by rw [eM_236]; exact hW.up_48 i7 ⟨_, rfl⟩
                  have hF : fr K L [47, 48] M M_236 := by rw [eM_236]; exact hF.up i7 (by decide)
                  have hM_237 : M_236 z7 = .inl (cy 14, 40, .inl (upd f226 ((nI z3) : Int32).toNatClampNeg k2)) := by rw [eM_236]; exact va_up_self _ _ _
                  have hM_238 : M_236 z6 = .inl (cy 14, 40, .inl (f_233)) := by rw [eM_236, va_up_ne _ _ (i6.neT i7 (by decide))]; exact hM_231
                  obtain ⟨f_239, ef_239⟩ : ∃ f : Nat → Int32, f = upd f226 ((nI z3) : Int32).toNatClampNeg k2 := ⟨_, rfl⟩
                  rw [← ef_239] at hM_237
                  refine lv_aload_n hx hb dX13_partner_110 rfl (lv_at hl 1 rfl) ?_
                  refine lv_dup hx hb dX13_partner_111 rfl ?_
                  refine va_get (D := D) (ci := 13) (v := .int (nI z3)) (C := RX13) (T := TX13) (N := 20) hx hb hg inG13 hown hK hP 0 rfl rfl 3 (by decide) (hg _ wd_831) (fun _ h9 => h9) rfl dX13_partner_112 ?_
                  refine lv_iconst (v := 1) hx hb dX13_partner_115 (by decide) ?_
                  refine lv_iadd hx hb dX13_partner_116 ?_
                  refine lv_topi (fun f_240 ef_240 => ?_)
                  obtain rfl : f_240 = (nI (z3 + 1)) := ef_240.trans (nI_add z3 1)
                  refine va_put (D := D) (ci := 13) (v := .int (nI (z3 + 1))) (ty := .int) (C := RX13) (T := TX13) (N := 20) hx hb hg inG13 tyX13 tyX13_ok nmX13 hown hK hP hD hS 0 rfl rfl 3 (by decide) (hg _ wd_831) (fun _ h9 => h9) rfl (by decide +kernel) rfl rfl (Nat.le_of_ble_eq_true rfl) dX13_partner_117 (fun H_241 locs hP hD hS => ?_)
                  have hP : va_P D vwCl ([(za, (b13_0 0 z1 (nI z2) (nI (z3 + 1)) z4 z5 z6 z7 z8 z9 (nI z10) z11 z12 z13 z14 z15 (nI z16) z17 z18 z19))] ++ va_pl L M_236) H_241 := hP
                  have hD : va_D A ([(za, (b13_0 0 z1 (nI z2) (nI (z3 + 1)) z4 z5 z6 z7 z8 z9 (nI z10) z11 z12 z13 z14 z15 (nI z16) z17 z18 z19))] ++ va_pl L M_236) := hD
                  refine lv_aload_n hx hb dX13_partner_120 rfl (lv_at hl 1 rfl) ?_
                  refine lv_aload_n hx hb dX13_partner_121 rfl (lv_at hl 1 rfl) ?_
                  refine va_get (D := D) (ci := 13) (v := .int (nI (z3 + 1))) (C := RX13) (T := TX13) (N := 20) hx hb hg inG13 hown hK hP 0 rfl rfl 3 (by decide) (hg _ wd_831) (fun _ h9 => h9) rfl dX13_partner_122 ?_
                  refine lv_iconst (v := 1) hx hb dX13_partner_125 (by decide) ?_
                  refine lv_isub hx hb dX13_partner_126 ?_
                  refine lv_topi (fun f_242 ef_242 => ?_)
                  obtain rfl : f_242 = (nI ((z3 + 1) - 1)) := ef_242.trans (nI_prd (by omega))
                  have hPc := hP.sub (ws' := [(za, (b13_0 0 z1 (nI z2) (nI (z3 + 1)) z4 z5 z6 z7 z8 z9 (nI z10) z11 z12 z13 z14 z15 (nI z16) z17 z18 z19))]) [0] rfl
                  have hDc := hD.sub (ws' := [(za, (b13_0 0 z1 (nI z2) (nI (z3 + 1)) z4 z5 z6 z7 z8 z9 (nI z10) z11 z12 z13 z14 z15 (nI z16) z17 z18 z19))]) [0] (by decide) rfl
                  have hKc := hK.sub (tys' := []) [] rfl
                  have hFc := va_free (wc := [(za, (b13_0 0 z1 (nI z2) (nI (z3 + 1)) z4 z5 z6 z7 z8 z9 (nI z10) z11 z12 z13 z14 z15 (nI z16) z17 z18 z19))]) hD hS hA [0] rfl
                  refine va_calli (va_runV (As := [.int (nI ((z3 + 1) - 1))]) (rest := []) ⟨hx, hb, hml, hown, hg⟩ (m_done l D H_241.size za 0 z1 (nI z2) (nI (z3 + 1)) z4 z5 z6 z7 z8 z9 (nI z10) z11 z12 z13 z14 z15 (nI z16) z17 z18 z19 (nI ((z3 + 1) - 1))) (cwV 1 hg (gV wd_730 wd_731 wd_732 wd_717 wd_733) rfl rfl rfl (by decide +kernel) ⟨(Nat.le_trans (Nat.le_of_ble_eq_true rfl) hRf), (Nat.le_trans (Nat.le_of_ble_eq_true rfl) hRl)⟩) ⟨Pr.blind, va_recv hK hP (ci := 13) (q0 := 0) rfl rfl, fun U hU hW => ⟨rfl, Pr.at hPc hKc hDc hN hU hW⟩⟩ rfl rfl hl.1 rfl (lv_room (Nat.le_of_ble_eq_true rfl)) dX13_partner_127 ⟨(Nat.le_trans (Nat.le_of_ble_eq_true rfl) hRc), (Nat.le_trans (Nat.le_of_ble_eq_true rfl) hRs)⟩) hS (fun q _ h => hFc q h) hFc (fun r_244 M_245 t H_243 locs ht hvm hw hB hz1 hk1 hS => ?_)
                  have hp_246 := hw
                  obtain ⟨hP1, hK1, hD1⟩ := hB
                  rw [ht] at hP1
                  obtain ⟨hP, hD⟩ := va_joinQ (X := [(za, (b13_0 0 z1 (nI z2) (nI (z3 + 1)) z4 z5 z6 z7 z8 z9 (nI z10) z11 z12 z13 z14 z15 (nI z16) z17 z18 z19))]) (cx := [(za, (b13_0 0 z1 (nI z2) (nI (z3 + 1)) z4 z5 z6 z7 z8 z9 (nI z10) z11 z12 z13 z14 z15 (nI z16) z17 z18 z19))]) (wr := []) (w1 := [(za, (b13_0 0 z1 (nI z2) (nI (z3 + 1)) 0 (-1) z6 z7 z8 z9 (nI z10) z11 z12 z13 z14 z15 (nI z16) z17 z18 z19))]) (pl := va_pl L M_236) hP hD [0] [] rfl rfl (by decide) (by decide) hk1 hFc hP1 hD1
                  have hP : va_P D vwCl ([(za, (b13_0 0 z1 (nI z2) (nI (z3 + 1)) 0 (-1) z6 z7 z8 z9 (nI z10) z11 z12 z13 z14 z15 (nI z16) z17 z18 z19))] ++ va_pl L M_236) H_243 := hP
                  have hD : va_D A ([(za, (b13_0 0 z1 (nI z2) (nI (z3 + 1)) 0 (-1) z6 z7 z8 z9 (nI z10) z11 z12 z13 z14 z15 (nI z16) z17 z18 z19))] ++ va_pl L M_236) := hD
                  have hq := Eq.symm hp_246
                  subst hq
                  have hI_247 : ((j_227 : Nat) : Int) ≠ (1 : Int) := ineI (nI_toInt (by omega)) rfl c_2
                  have hI_248 : ((j_227 : Nat) : Int) ≠ (2 : Int) := ineI (nI_toInt (by omega)) rfl c_72
                  have hI_249 : ((j_227 : Nat) : Int) ≠ (4 : Int) := ineI (nI_toInt (by omega)) rfl c_146
                  have hI_250 : (0 : Int) ≤ ((j_227 : Nat) : Int) := inltI (nI_toInt (by omega)) rfl c_147
                  have hI_251 : ((j_227 : Nat) : Int) ≤ (5 : Int) := inltI rfl (nI_toInt (by omega)) c_156
                  have hI_252 : ((j_227 : Nat) : Int) = (5 : Int) := ieqI (nI_toInt (by omega)) rfl c_169
                  have hI_253 : (0 : Int) ≤ (k2 : Int32).toInt := inltI rfl rfl c_219
                  have hI_254 : (k2 : Int32).toInt < ((z2 : Nat) : Int) := inleI (nI_toInt (by omega)) rfl c_220
                  have hI_255 : ((z3 : Nat) : Int) ≠ (40 : Int) := ineI (nI_toInt (by omega)) rfl c_223
                  have hn_256 : ((nI j_227) : Int32).toInt = ((j_227 : Nat) : Int) := nI_toInt (by omega)
                  have hyes : okPa z2 z3 (nI j_227) k2 := by unfold okPa; refine ⟨?_, ?_, ?_, ?_, ?_⟩ <;> omega
                  have hE : cnPa z2 z3 (nI j_227) k2 = (z3 + 1) := by unfold cnPa; rw [if_pos hyes]
                  have hP : va_P D vwCl ([(za, (b13_0 0 z1 (nI z2) (nI (cnPa z2 z3 (nI j_227) k2)) 0 (-1) z6 z7 z8 z9 (nI z10) z11 z12 z13 z14 z15 (nI z16) z17 z18 z19))] ++ va_pl L M_236) H_243 := by rw [hE]; exact hP
                  have hD : va_D A ([(za, (b13_0 0 z1 (nI z2) (nI (cnPa z2 z3 (nI j_227) k2)) 0 (-1) z6 z7 z8 z9 (nI z10) z11 z12 z13 z14 z15 (nI z16) z17 z18 z19))] ++ va_pl L M_236) := by rw [hE]; exact hD
                  have hR9 : R5 z6 z7 M_236 := R5.put hR5 he6 he7 (by rw [hM_238, ef_233]) (by rw [hM_237, ef_239]) (fun _ => i8n b2 c_219 c_220)
                  rw [hQ]
                  exact W.iret (v := (nI ((z3 + 1) - 1))) hx hb hr (fun t ht hW9 => ⟨⟨(nI ((z3 + 1) - 1)), M_236, rfl, ⟨hW, hF, ⟨hR9, by unfold pkPa ptPa; rw [if_pos hyes, if_pos hyes]; exact ⟨by rw [← hZP.1, show IFc (M z6) = f225 from by rw [he6]; rfl, show IFc (M_236 z6) = f_233 from by rw [hM_238]; rfl, ef_233, nI_cl (by omega)], by rw [← hZP.2, show IFc (M z7) = f226 from by rw [he7]; rfl, show IFc (M_236 z7) = f_239 from by rw [hM_237]; rfl, ef_239, nI_cl (by omega)]⟩⟩, (by unfold anPa; rw [if_pos hyes, Nat.add_sub_cancel])⟩, ⟨0, by rw [ht]; exact hP, hD⟩⟩, hS.F ht⟩) hS.2.2 dX13_partner_130
                · have hz := rfl (a := 0)
                  have n_257 : z3 = 40 := (iEQ (a := z3) (b := 40) (by omega) (by omega)).mp c_223
                  refine lv_aload_n hx hb dX13_partner_83 rfl (lv_at hl 1 rfl) ?_
                  refine lv_bipush (v := 9) hx hb dX13_partner_84 (by decide) ?_
                  have hPc := hP.sub (ws' := [(za, (b13_0 0 z1 (nI z2) (nI z3) z4 z5 z6 z7 z8 z9 (nI z10) z11 z12 z13 z14 z15 (nI z16) z17 z18 z19))]) [0] rfl
                  have hDc := hD.sub (ws' := [(za, (b13_0 0 z1 (nI z2) (nI z3) z4 z5 z6 z7 z8 z9 (nI z10) z11 z12 z13 z14 z15 (nI z16) z17 z18 z19))]) [0] (by decide) rfl
                  have hKc := hK.sub (tys' := []) [] rfl
                  have hFc := va_free (wc := [(za, (b13_0 0 z1 (nI z2) (nI z3) z4 z5 z6 z7 z8 z9 (nI z10) z11 z12 z13 z14 z15 (nI z16) z17 z18 z19))]) hD hS hA [0] rfl
                  refine va_calli (va_runV (As := [.int 9]) (rest := []) ⟨hx, hb, hml, hown, hg⟩ (m_refused l D H_214.size za 0 z1 (nI z2) (nI z3) z4 z5 z6 z7 z8 z9 (nI z10) z11 z12 z13 z14 z15 (nI z16) z17 z18 z19 9) (cwV 1 hg (gV wd_725 wd_726 wd_727 wd_717 wd_728) rfl rfl rfl (by decide +kernel) ⟨(Nat.le_trans (Nat.le_of_ble_eq_true rfl) hRf), (Nat.le_trans (Nat.le_of_ble_eq_true rfl) hRl)⟩) ⟨Pr.blind, va_recv hK hP (ci := 13) (q0 := 0) rfl rfl, fun U hU hW => ⟨rfl, Pr.at hPc hKc hDc hN hU hW⟩⟩ rfl rfl hl.1 rfl (lv_room (Nat.le_of_ble_eq_true rfl)) dX13_partner_86 ⟨(Nat.le_trans (Nat.le_of_ble_eq_true rfl) hRc), (Nat.le_trans (Nat.le_of_ble_eq_true rfl) hRs)⟩) hS (fun q _ h => hFc q h) hFc (fun r_259 M_260 t H_258 locs ht hvm hw hB hz1 hk1 hS => ?_)
                  have hp_261 := hw
                  obtain ⟨hP1, hK1, hD1⟩ := hB
                  rw [ht] at hP1
                  obtain ⟨hP, hD⟩ := va_joinQ (X := [(za, (b13_0 0 z1 (nI z2) (nI z3) z4 z5 z6 z7 z8 z9 (nI z10) z11 z12 z13 z14 z15 (nI z16) z17 z18 z19))]) (cx := [(za, (b13_0 0 z1 (nI z2) (nI z3) z4 z5 z6 z7 z8 z9 (nI z10) z11 z12 z13 z14 z15 (nI z16) z17 z18 z19))]) (wr := []) (w1 := [(za, (b13_0 0 z1 (nI z2) (nI z3) 9 (-1) z6 z7 z8 z9 (nI z10) z11 z12 z13 z14 z15 (nI z16) z17 z18 z19))]) (pl := va_pl L M) hP hD [0] [] rfl rfl (by decide) (by decide) hk1 hFc hP1 hD1
                  have hP : va_P D vwCl ([(za, (b13_0 0 z1 (nI z2) (nI z3) 9 (-1) z6 z7 z8 z9 (nI z10) z11 z12 z13 z14 z15 (nI z16) z17 z18 z19))] ++ va_pl L M) H_258 := hP
                  have hD : va_D A ([(za, (b13_0 0 z1 (nI z2) (nI z3) 9 (-1) z6 z7 z8 z9 (nI z10) z11 z12 z13 z14 z15 (nI z16) z17 z18 z19))] ++ va_pl L M) := hD
                  have hq := Eq.symm hp_261
                  subst hq
                  have hI_262 : (k1 : Int32).toInt ≠ (1 : Int) := ineI rfl rfl c_2
                  have hI_263 : (k1 : Int32).toInt ≠ (2 : Int) := ineI rfl rfl c_72
                  have hI_264 : (k1 : Int32).toInt ≠ (4 : Int) := ineI rfl rfl c_146
                  have hI_265 : (0 : Int) ≤ (k1 : Int32).toInt := inltI rfl rfl c_147
                  have hI_266 : (k1 : Int32).toInt ≤ (5 : Int) := inltI rfl rfl c_156
                  have hI_267 : (k1 : Int32).toInt = (5 : Int) := ieqI rfl rfl c_169
                  have hI_268 : (0 : Int) ≤ (k2 : Int32).toInt := inltI rfl rfl c_219
                  have hI_269 : (k2 : Int32).toInt < ((z2 : Nat) : Int) := inleI (nI_toInt (by omega)) rfl c_220
                  have hI_270 : ((z3 : Nat) : Int) = (40 : Int) := ieqI (nI_toInt (by omega)) rfl c_223
                  have hno : ¬ okPa z2 z3 k1 k2 := fun q9 => by unfold okPa at q9; omega
                  have hE : cnPa z2 z3 k1 k2 = z3 := by unfold cnPa; rw [if_neg hno]
                  have hP : va_P D vwCl ([(za, (b13_0 0 z1 (nI z2) (nI (cnPa z2 z3 k1 k2)) 9 (-1) z6 z7 z8 z9 (nI z10) z11 z12 z13 z14 z15 (nI z16) z17 z18 z19))] ++ va_pl L M) H_258 := by rw [hE]; exact hP
                  have hD : va_D A ([(za, (b13_0 0 z1 (nI z2) (nI (cnPa z2 z3 k1 k2)) 9 (-1) z6 z7 z8 z9 (nI z10) z11 z12 z13 z14 z15 (nI z16) z17 z18 z19))] ++ va_pl L M) := by rw [hE]; exact hD
                  rw [hQ]
                  exact W.iret (v := (-1)) hx hb hr (fun t ht hW9 => ⟨⟨(-1), M, rfl, ⟨hW, hF, ⟨hR5, by unfold pkPa ptPa; rw [if_neg hno, if_neg hno]; exact hZP⟩, (by unfold anPa; rw [if_neg hno])⟩, ⟨9, by rw [ht]; exact hP, hD⟩⟩, hS.F ht⟩) hS.2.2 dX13_partner_89
              · have hz := rfl (a := 0)
                refine lv_if_ne (tgt := 74) hx hb dX13_partner_65 (by decide) (fun c_271 => absurd c_271 (by decide)) (fun _ => ?_)
                refine lv_aload_n hx hb dX13_partner_68 rfl (lv_at hl 1 rfl) ?_
                refine lv_iconst (v := 1) hx hb dX13_partner_69 (by decide) ?_
                have hPc := hP.sub (ws' := [(za, (b13_0 0 z1 (nI z2) (nI z3) z4 z5 z6 z7 z8 z9 (nI z10) z11 z12 z13 z14 z15 (nI z16) z17 z18 z19))]) [0] rfl
                have hDc := hD.sub (ws' := [(za, (b13_0 0 z1 (nI z2) (nI z3) z4 z5 z6 z7 z8 z9 (nI z10) z11 z12 z13 z14 z15 (nI z16) z17 z18 z19))]) [0] (by decide) rfl
                have hKc := hK.sub (tys' := []) [] rfl
                have hFc := va_free (wc := [(za, (b13_0 0 z1 (nI z2) (nI z3) z4 z5 z6 z7 z8 z9 (nI z10) z11 z12 z13 z14 z15 (nI z16) z17 z18 z19))]) hD hS hA [0] rfl
                refine va_calli (va_runV (As := [.int 1]) (rest := []) ⟨hx, hb, hml, hown, hg⟩ (m_refused l D H_214.size za 0 z1 (nI z2) (nI z3) z4 z5 z6 z7 z8 z9 (nI z10) z11 z12 z13 z14 z15 (nI z16) z17 z18 z19 1) (cwV 1 hg (gV wd_725 wd_726 wd_727 wd_717 wd_728) rfl rfl rfl (by decide +kernel) ⟨(Nat.le_trans (Nat.le_of_ble_eq_true rfl) hRf), (Nat.le_trans (Nat.le_of_ble_eq_true rfl) hRl)⟩) ⟨Pr.blind, va_recv hK hP (ci := 13) (q0 := 0) rfl rfl, fun U hU hW => ⟨rfl, Pr.at hPc hKc hDc hN hU hW⟩⟩ rfl rfl hl.1 rfl (lv_room (Nat.le_of_ble_eq_true rfl)) dX13_partner_70 ⟨(Nat.le_trans (Nat.le_of_ble_eq_true rfl) hRc), (Nat.le_trans (Nat.le_of_ble_eq_true rfl) hRs)⟩) hS (fun q _ h => hFc q h) hFc (fun r_273 M_274 t H_272 locs ht hvm hw hB hz1 hk1 hS => ?_)
                have hp_275 := hw
                obtain ⟨hP1, hK1, hD1⟩ := hB
                rw [ht] at hP1
                obtain ⟨hP, hD⟩ := va_joinQ (X := [(za, (b13_0 0 z1 (nI z2) (nI z3) z4 z5 z6 z7 z8 z9 (nI z10) z11 z12 z13 z14 z15 (nI z16) z17 z18 z19))]) (cx := [(za, (b13_0 0 z1 (nI z2) (nI z3) z4 z5 z6 z7 z8 z9 (nI z10) z11 z12 z13 z14 z15 (nI z16) z17 z18 z19))]) (wr := []) (w1 := [(za, (b13_0 0 z1 (nI z2) (nI z3) 1 (-1) z6 z7 z8 z9 (nI z10) z11 z12 z13 z14 z15 (nI z16) z17 z18 z19))]) (pl := va_pl L M) hP hD [0] [] rfl rfl (by decide) (by decide) hk1 hFc hP1 hD1
                have hP : va_P D vwCl ([(za, (b13_0 0 z1 (nI z2) (nI z3) 1 (-1) z6 z7 z8 z9 (nI z10) z11 z12 z13 z14 z15 (nI z16) z17 z18 z19))] ++ va_pl L M) H_272 := hP
                have hD : va_D A ([(za, (b13_0 0 z1 (nI z2) (nI z3) 1 (-1) z6 z7 z8 z9 (nI z10) z11 z12 z13 z14 z15 (nI z16) z17 z18 z19))] ++ va_pl L M) := hD
                have hq := Eq.symm hp_275
                subst hq
                have hI_276 : (k1 : Int32).toInt ≠ (1 : Int) := ineI rfl rfl c_2
                have hI_277 : (k1 : Int32).toInt ≠ (2 : Int) := ineI rfl rfl c_72
                have hI_278 : (k1 : Int32).toInt ≠ (4 : Int) := ineI rfl rfl c_146
                have hI_279 : (0 : Int) ≤ (k1 : Int32).toInt := inltI rfl rfl c_147
                have hI_280 : (k1 : Int32).toInt ≤ (5 : Int) := inltI rfl rfl c_156
                have hI_281 : (k1 : Int32).toInt = (5 : Int) := ieqI rfl rfl c_169
                have hno : ¬ okPa z2 z3 k1 k2 := fun q9 => by unfold okPa at q9; omega
                have hE : cnPa z2 z3 k1 k2 = z3 := by unfold cnPa; rw [if_neg hno]
                have hP : va_P D vwCl ([(za, (b13_0 0 z1 (nI z2) (nI (cnPa z2 z3 k1 k2)) 1 (-1) z6 z7 z8 z9 (nI z10) z11 z12 z13 z14 z15 (nI z16) z17 z18 z19))] ++ va_pl L M) H_272 := by rw [hE]; exact hP
                have hD : va_D A ([(za, (b13_0 0 z1 (nI z2) (nI (cnPa z2 z3 k1 k2)) 1 (-1) z6 z7 z8 z9 (nI z10) z11 z12 z13 z14 z15 (nI z16) z17 z18 z19))] ++ va_pl L M) := by rw [hE]; exact hD
                rw [hQ]
                exact W.iret (v := (-1)) hx hb hr (fun t ht hW9 => ⟨⟨(-1), M, rfl, ⟨hW, hF, ⟨hR5, by unfold pkPa ptPa; rw [if_neg hno, if_neg hno]; exact hZP⟩, (by unfold anPa; rw [if_neg hno])⟩, ⟨1, by rw [ht]; exact hP, hD⟩⟩, hS.F ht⟩) hS.2.2 dX13_partner_73
      · have hz := rfl (a := 0)
        refine lv_iconst (v := 1) hx hb dX13_partner_20 (by decide) ?_
        refine lv_goto (tgt := 25) hx hb dX13_partner_21 (by decide) ?_
        refine lv_istore_n (lv' := [(3, .int 1), (0, .ref za), (1, .int k1), (2, .int k2)]) hx hb dX13_partner_25 rfl hl (by decide) rfl (fun ls hl => ?_)
        refine lv_iload_n hx hb dX13_partner_26 rfl (lv_at hl 2 rfl) ?_
        refine lv_if_lt (tgt := 49) hx hb dX13_partner_27 (by decide) (fun c_282 => absurd c_282 (by rw [c_146]; decide)) (fun c_282 => ?_)
        refine lv_iload_n hx hb dX13_partner_30 rfl (lv_at hl 2 rfl) ?_
        refine lv_iconst (v := 5) hx hb dX13_partner_31 (by decide) ?_
        refine lv_icmp_gt (tgt := 49) hx hb dX13_partner_32 (by decide) (fun c_283 => absurd c_283 (by rw [c_146]; decide)) (fun c_283 => ?_)
        refine lv_iload_n hx hb dX13_partner_35 rfl (lv_at hl 0 rfl) ?_
        refine lv_if_eq (tgt := 55) hx hb dX13_partner_36 (by decide) (fun c_284 => absurd c_284 (by decide)) (fun _ => ?_)
        refine lv_iload_n hx hb dX13_partner_39 rfl (lv_at hl 3 rfl) ?_
        refine lv_if_lt (tgt := 49) hx hb dX13_partner_40 (by decide) (fun c_285 => ?_) (fun c_285 => ?_)
        · have hz := rfl (a := 0)
          refine lv_aload_n hx hb dX13_partner_49 rfl (lv_at hl 1 rfl) ?_
          refine lv_iconst (v := 2) hx hb dX13_partner_50 (by decide) ?_
          have hPc := hP.sub (ws' := [(za, (b13_0 0 z1 (nI z2) (nI z3) z4 z5 z6 z7 z8 z9 (nI z10) z11 z12 z13 z14 z15 (nI z16) z17 z18 z19))]) [0] rfl
          have hDc := hD.sub (ws' := [(za, (b13_0 0 z1 (nI z2) (nI z3) z4 z5 z6 z7 z8 z9 (nI z10) z11 z12 z13 z14 z15 (nI z16) z17 z18 z19))]) [0] (by decide) rfl
          have hKc := hK.sub (tys' := []) [] rfl
          have hFc := va_free (wc := [(za, (b13_0 0 z1 (nI z2) (nI z3) z4 z5 z6 z7 z8 z9 (nI z10) z11 z12 z13 z14 z15 (nI z16) z17 z18 z19))]) hD hS hA [0] rfl
          refine va_calli (va_runV (As := [.int 2]) (rest := []) ⟨hx, hb, hml, hown, hg⟩ (m_refused l D H_1.size za 0 z1 (nI z2) (nI z3) z4 z5 z6 z7 z8 z9 (nI z10) z11 z12 z13 z14 z15 (nI z16) z17 z18 z19 2) (cwV 1 hg (gV wd_725 wd_726 wd_727 wd_717 wd_728) rfl rfl rfl (by decide +kernel) ⟨(Nat.le_trans (Nat.le_of_ble_eq_true rfl) hRf), (Nat.le_trans (Nat.le_of_ble_eq_true rfl) hRl)⟩) ⟨Pr.blind, va_recv hK hP (ci := 13) (q0 := 0) rfl rfl, fun U hU hW => ⟨rfl, Pr.at hPc hKc hDc hN hU hW⟩⟩ rfl rfl hl.1 rfl (lv_room (Nat.le_of_ble_eq_true rfl)) dX13_partner_51 ⟨(Nat.le_trans (Nat.le_of_ble_eq_true rfl) hRc), (Nat.le_trans (Nat.le_of_ble_eq_true rfl) hRs)⟩) hS (fun q _ h => hFc q h) hFc (fun r_287 M_288 t H_286 locs ht hvm hw hB hz1 hk1 hS => ?_)
          have hp_289 := hw
          obtain ⟨hP1, hK1, hD1⟩ := hB
          rw [ht] at hP1
          obtain ⟨hP, hD⟩ := va_joinQ (X := [(za, (b13_0 0 z1 (nI z2) (nI z3) z4 z5 z6 z7 z8 z9 (nI z10) z11 z12 z13 z14 z15 (nI z16) z17 z18 z19))]) (cx := [(za, (b13_0 0 z1 (nI z2) (nI z3) z4 z5 z6 z7 z8 z9 (nI z10) z11 z12 z13 z14 z15 (nI z16) z17 z18 z19))]) (wr := []) (w1 := [(za, (b13_0 0 z1 (nI z2) (nI z3) 2 (-1) z6 z7 z8 z9 (nI z10) z11 z12 z13 z14 z15 (nI z16) z17 z18 z19))]) (pl := va_pl L M) hP hD [0] [] rfl rfl (by decide) (by decide) hk1 hFc hP1 hD1
          have hP : va_P D vwCl ([(za, (b13_0 0 z1 (nI z2) (nI z3) 2 (-1) z6 z7 z8 z9 (nI z10) z11 z12 z13 z14 z15 (nI z16) z17 z18 z19))] ++ va_pl L M) H_286 := hP
          have hD : va_D A ([(za, (b13_0 0 z1 (nI z2) (nI z3) 2 (-1) z6 z7 z8 z9 (nI z10) z11 z12 z13 z14 z15 (nI z16) z17 z18 z19))] ++ va_pl L M) := hD
          have hq := Eq.symm hp_289
          subst hq
          have hI_290 : (k1 : Int32).toInt ≠ (1 : Int) := ineI rfl rfl c_2
          have hI_291 : (k1 : Int32).toInt ≠ (2 : Int) := ineI rfl rfl c_72
          have hI_292 : (k1 : Int32).toInt = (4 : Int) := ieqI rfl rfl c_146
          have hI_293 : (0 : Int) ≤ (k1 : Int32).toInt := inltI rfl rfl c_282
          have hI_294 : (k1 : Int32).toInt ≤ (5 : Int) := inltI rfl rfl c_283
          have hI_295 : (k2 : Int32).toInt < (0 : Int) := iltI rfl rfl c_285
          have hno : ¬ okPa z2 z3 k1 k2 := fun q9 => by unfold okPa at q9; omega
          have hE : cnPa z2 z3 k1 k2 = z3 := by unfold cnPa; rw [if_neg hno]
          have hP : va_P D vwCl ([(za, (b13_0 0 z1 (nI z2) (nI (cnPa z2 z3 k1 k2)) 2 (-1) z6 z7 z8 z9 (nI z10) z11 z12 z13 z14 z15 (nI z16) z17 z18 z19))] ++ va_pl L M) H_286 := by rw [hE]; exact hP
          have hD : va_D A ([(za, (b13_0 0 z1 (nI z2) (nI (cnPa z2 z3 k1 k2)) 2 (-1) z6 z7 z8 z9 (nI z10) z11 z12 z13 z14 z15 (nI z16) z17 z18 z19))] ++ va_pl L M) := by rw [hE]; exact hD
          rw [hQ]
          exact W.iret (v := (-1)) hx hb hr (fun t ht hW9 => ⟨⟨(-1), M, rfl, ⟨hW, hF, ⟨hR5, by unfold pkPa ptPa; rw [if_neg hno, if_neg hno]; exact hZP⟩, (by unfold anPa; rw [if_neg hno])⟩, ⟨2, by rw [ht]; exact hP, hD⟩⟩, hS.F ht⟩) hS.2.2 dX13_partner_54
        · have hz := rfl (a := 0)
          refine lv_iload_n hx hb dX13_partner_43 rfl (lv_at hl 3 rfl) ?_
          refine lv_ldc (v := 1000000000) hx hb hown (hg _ wd_712) dX13_partner_44 ?_
          refine lv_icmp_le (tgt := 55) hx hb dX13_partner_46 (by decide) (fun c_296 => ?_) (fun c_296 => ?_)
          · have hz := rfl (a := 0)
            refine lv_iload_n hx hb dX13_partner_55 rfl (lv_at hl 2 rfl) ?_
            refine lv_iconst (v := 5) hx hb dX13_partner_56 (by decide) ?_
            refine lv_icmp_ne (tgt := 74) hx hb dX13_partner_57 (by decide) (fun c_297 => ?_) (fun c_297 => absurd c_297 (by rw [c_146]; decide))
            refine lv_aload_n hx hb dX13_partner_74 rfl (lv_at hl 1 rfl) ?_
            refine va_get (D := D) (ci := 13) (v := .int (nI z3)) (C := RX13) (T := TX13) (N := 20) hx hb hg inG13 hown hK hP 0 rfl rfl 3 (by decide) (hg _ wd_831) (fun _ h9 => h9) rfl dX13_partner_75 ?_
            refine lv_bipush (v := 40) hx hb dX13_partner_78 (by decide) ?_
            refine lv_icmp_ne (tgt := 90) hx hb dX13_partner_80 (by decide) (fun c_298 => ?_) (fun c_298 => ?_)
            · have hz := rfl (a := 0)
              have n_299 : ¬ (z3 = 40) := fun q => c_298 ((iEQ (a := z3) (b := 40) (by omega) (by omega)).mpr q)
              obtain ⟨f300, hM300, hf300⟩ := hW.open_47 i6
              obtain ⟨f301, hM301⟩ := hW.open_48 i7
              have he6 := hM300
              have he7 := hM301
              refine lv_aload_n hx hb dX13_partner_90 rfl (lv_at hl 1 rfl) ?_
              refine va_get (D := D) (ci := 13) (v := .ref z6) (C := RX13) (T := TX13) (N := 20) hx hb hg inG13 hown hK hP 0 rfl rfl 6 (by decide) (hg _ wd_719) (fun _ h9 => h9) rfl dX13_partner_91 ?_
              refine lv_aload_n hx hb dX13_partner_94 rfl (lv_at hl 1 rfl) ?_
              refine va_get (D := D) (ci := 13) (v := .int (nI z3)) (C := RX13) (T := TX13) (N := 20) hx hb hg inG13 hown hK hP 0 rfl rfl 3 (by decide) (hg _ wd_831) (fun _ h9 => h9) rfl dX13_partner_95 ?_
              refine lv_iload_n hx hb dX13_partner_98 rfl (lv_at hl 2 rfl) ?_
              obtain ⟨j_302, hj_303, rfl⟩ := i32nat 6 (by decide) c_282 (leB (b := 6) (c := 5) (by decide) (by decide) (Int32.not_lt.mp c_283))
              refine pg_iast hx hb hK hP hD hS i6.1 0 hM300 rfl (inbN z3 40 (by omega) (by omega)) dX13_partner_99 (fun H_304 locs hP hD hS => ?_)
              obtain ⟨M_305, eM_305⟩ : ∃ M1 : Hp, M1 = va_up M z6 (.inl (cy 14, 40, .inl (upd f300 ((nI z3) : Int32).toNatClampNeg (nI j_302)))) := ⟨_, rfl⟩
              have hP : va_P D vwCl ([(za, (b13_0 0 z1 (nI z2) (nI z3) z4 z5 z6 z7 z8 z9 (nI z10) z11 z12 z13 z14 z15 (nI z16) z17 z18 z19))] ++ va_pl L M_305) H_304 := by rw [eM_305]; exact hP
              have hD : va_D A ([(za, (b13_0 0 z1 (nI z2) (nI z3) z4 z5 z6 z7 z8 z9 (nI z10) z11 z12 z13 z14 z15 (nI z16) z17 z18 z19))] ++ va_pl L M_305) := by rw [eM_305]; exact hD
              have hW : WOM cy K L M_305 := by rw [eM_305]; exact hW.up_47 i6 ⟨_, rfl, (updP (P := fun z => ∃ c : Nat, c < 6 ∧ z = nI c) hf300 ⟨j_302, by omega, rfl⟩)⟩
              have hF : fr K L [47, 48] M M_305 := by rw [eM_305]; exact hF.up i6 (by decide)
              have hM_306 : M_305 z6 = .inl (cy 14, 40, .inl (upd f300 ((nI z3) : Int32).toNatClampNeg (nI j_302))) := by rw [eM_305]; exact va_up_self _ _ _
              have hM_307 : M_305 z7 = .inl (cy 14, 40, .inl (f301)) := by rw [eM_305, va_up_ne _ _ (i7.neT i6 (by decide))]; exact hM301
              have hf_309 : ∀ j, j < 40 → ∃ c : Nat, c < 6 ∧ (upd f300 ((nI z3) : Int32).toNatClampNeg (nI j_302)) j = nI c := (updP (P := fun z => ∃ c : Nat, c < 6 ∧ z = nI c) hf300 ⟨j_302, by omega, rfl⟩)
              obtain ⟨f_308, ef_308⟩ : ∃ f : Nat → Int32, f = upd f300 ((nI z3) : Int32).toNatClampNeg (nI j_302) := ⟨_, rfl⟩
              rw [← ef_308] at hM_306 hf_309
              refine lv_aload_n hx hb dX13_partner_100 rfl (lv_at hl 1 rfl) ?_
              refine va_get (D := D) (ci := 13) (v := .ref z7) (C := RX13) (T := TX13) (N := 20) hx hb hg inG13 hown hK hP 0 rfl rfl 7 (by decide) (hg _ wd_760) (fun _ h9 => h9) rfl dX13_partner_101 ?_
              refine lv_aload_n hx hb dX13_partner_104 rfl (lv_at hl 1 rfl) ?_
              refine va_get (D := D) (ci := 13) (v := .int (nI z3)) (C := RX13) (T := TX13) (N := 20) hx hb hg inG13 hown hK hP 0 rfl rfl 3 (by decide) (hg _ wd_831) (fun _ h9 => h9) rfl dX13_partner_105 ?_
              refine lv_iload_n hx hb dX13_partner_108 rfl (lv_at hl 3 rfl) ?_
              refine pg_iast hx hb hK hP hD hS i7.1 0 hM_307 rfl (inbN z3 40 (by omega) (by omega)) dX13_partner_109 (fun H_310 locs hP hD hS => ?_)
              obtain ⟨M_311, eM_311⟩ : ∃ M1 : Hp, M1 = va_up M_305 z7 (.inl (cy 14, 40, .inl (upd f301 ((nI z3) : Int32).toNatClampNeg k2))) := ⟨_, rfl⟩
              have hP : va_P D vwCl ([(za, (b13_0 0 z1 (nI z2) (nI z3) z4 z5 z6 z7 z8 z9 (nI z10) z11 z12 z13 z14 z15 (nI z16) z17 z18 z19))] ++ va_pl L M_311) H_310 := by rw [eM_311]; exact hP
              have hD : va_D A ([(za, (b13_0 0 z1 (nI z2) (nI z3) z4 z5 z6 z7 z8 z9 (nI z10) z11 z12 z13 z14 z15 (nI z16) z17 z18 z19))] ++ va_pl L M_311) := by rw [eM_311]; exact hD
              have hW : WOM cy K L M_311 := by rw [eM_311]; exact hW.up_48 i7 ⟨_, rfl⟩
              have hF : fr K L [47, 48] M M_311 := by rw [eM_311]; exact hF.up i7 (by decide)
              have hM_312 : M_311 z7 = .inl (cy 14, 40, .inl (upd f301 ((nI z3) : Int32).toNatClampNeg k2)) := by rw [eM_311]; exact va_up_self _ _ _
              have hM_313 : M_311 z6 = .inl (cy 14, 40, .inl (f_308)) := by rw [eM_311, va_up_ne _ _ (i6.neT i7 (by decide))]; exact hM_306
              obtain ⟨f_314, ef_314⟩ : ∃ f : Nat → Int32, f = upd f301 ((nI z3) : Int32).toNatClampNeg k2 := ⟨_, rfl⟩
              rw [← ef_314] at hM_312
              refine lv_aload_n hx hb dX13_partner_110 rfl (lv_at hl 1 rfl) ?_
              refine lv_dup hx hb dX13_partner_111 rfl ?_
              refine va_get (D := D) (ci := 13) (v := .int (nI z3)) (C := RX13) (T := TX13) (N := 20) hx hb hg inG13 hown hK hP 0 rfl rfl 3 (by decide) (hg _ wd_831) (fun _ h9 => h9) rfl dX13_partner_112 ?_
              refine lv_iconst (v := 1) hx hb dX13_partner_115 (by decide) ?_
              refine lv_iadd hx hb dX13_partner_116 ?_
              refine lv_topi (fun f_315 ef_315 => ?_)
              obtain rfl : f_315 = (nI (z3 + 1)) := ef_315.trans (nI_add z3 1)
              refine va_put (D := D) (ci := 13) (v := .int (nI (z3 + 1))) (ty := .int) (C := RX13) (T := TX13) (N := 20) hx hb hg inG13 tyX13 tyX13_ok nmX13 hown hK hP hD hS 0 rfl rfl 3 (by decide) (hg _ wd_831) (fun _ h9 => h9) rfl (by decide +kernel) rfl rfl (Nat.le_of_ble_eq_true rfl) dX13_partner_117 (fun H_316 locs hP hD hS => ?_)
              have hP : va_P D vwCl ([(za, (b13_0 0 z1 (nI z2) (nI (z3 + 1)) z4 z5 z6 z7 z8 z9 (nI z10) z11 z12 z13 z14 z15 (nI z16) z17 z18 z19))] ++ va_pl L M_311) H_316 := hP
              have hD : va_D A ([(za, (b13_0 0 z1 (nI z2) (nI (z3 + 1)) z4 z5 z6 z7 z8 z9 (nI z10) z11 z12 z13 z14 z15 (nI z16) z17 z18 z19))] ++ va_pl L M_311) := hD
              refine lv_aload_n hx hb dX13_partner_120 rfl (lv_at hl 1 rfl) ?_
              refine lv_aload_n hx hb dX13_partner_121 rfl (lv_at hl 1 rfl) ?_
              refine va_get (D := D) (ci := 13) (v := .int (nI (z3 + 1))) (C := RX13) (T := TX13) (N := 20) hx hb hg inG13 hown hK hP 0 rfl rfl 3 (by decide) (hg _ wd_831) (fun _ h9 => h9) rfl dX13_partner_122 ?_
              refine lv_iconst (v := 1) hx hb dX13_partner_125 (by decide) ?_
              refine lv_isub hx hb dX13_partner_126 ?_
              refine lv_topi (fun f_317 ef_317 => ?_)
              obtain rfl : f_317 = (nI ((z3 + 1) - 1)) := ef_317.trans (nI_prd (by omega))
              have hPc := hP.sub (ws' := [(za, (b13_0 0 z1 (nI z2) (nI (z3 + 1)) z4 z5 z6 z7 z8 z9 (nI z10) z11 z12 z13 z14 z15 (nI z16) z17 z18 z19))]) [0] rfl
              have hDc := hD.sub (ws' := [(za, (b13_0 0 z1 (nI z2) (nI (z3 + 1)) z4 z5 z6 z7 z8 z9 (nI z10) z11 z12 z13 z14 z15 (nI z16) z17 z18 z19))]) [0] (by decide) rfl
              have hKc := hK.sub (tys' := []) [] rfl
              have hFc := va_free (wc := [(za, (b13_0 0 z1 (nI z2) (nI (z3 + 1)) z4 z5 z6 z7 z8 z9 (nI z10) z11 z12 z13 z14 z15 (nI z16) z17 z18 z19))]) hD hS hA [0] rfl
              refine va_calli (va_runV (As := [.int (nI ((z3 + 1) - 1))]) (rest := []) ⟨hx, hb, hml, hown, hg⟩ (m_done l D H_316.size za 0 z1 (nI z2) (nI (z3 + 1)) z4 z5 z6 z7 z8 z9 (nI z10) z11 z12 z13 z14 z15 (nI z16) z17 z18 z19 (nI ((z3 + 1) - 1))) (cwV 1 hg (gV wd_730 wd_731 wd_732 wd_717 wd_733) rfl rfl rfl (by decide +kernel) ⟨(Nat.le_trans (Nat.le_of_ble_eq_true rfl) hRf), (Nat.le_trans (Nat.le_of_ble_eq_true rfl) hRl)⟩) ⟨Pr.blind, va_recv hK hP (ci := 13) (q0 := 0) rfl rfl, fun U hU hW => ⟨rfl, Pr.at hPc hKc hDc hN hU hW⟩⟩ rfl rfl hl.1 rfl (lv_room (Nat.le_of_ble_eq_true rfl)) dX13_partner_127 ⟨(Nat.le_trans (Nat.le_of_ble_eq_true rfl) hRc), (Nat.le_trans (Nat.le_of_ble_eq_true rfl) hRs)⟩) hS (fun q _ h => hFc q h) hFc (fun r_319 M_320 t H_318 locs ht hvm hw hB hz1 hk1 hS => ?_)
              have hp_321 := hw
              obtain ⟨hP1, hK1, hD1⟩ := hB
              rw [ht] at hP1
              obtain ⟨hP, hD⟩ := va_joinQ (X := [(za, (b13_0 0 z1 (nI z2) (nI (z3 + 1)) z4 z5 z6 z7 z8 z9 (nI z10) z11 z12 z13 z14 z15 (nI z16) z17 z18 z19))]) (cx := [(za, (b13_0 0 z1 (nI z2) (nI (z3 + 1)) z4 z5 z6 z7 z8 z9 (nI z10) z11 z12 z13 z14 z15 (nI z16) z17 z18 z19))]) (wr := []) (w1 := [(za, (b13_0 0 z1 (nI z2) (nI (z3 + 1)) 0 (-1) z6 z7 z8 z9 (nI z10) z11 z12 z13 z14 z15 (nI z16) z17 z18 z19))]) (pl := va_pl L M_311) hP hD [0] [] rfl rfl (by decide) (by decide) hk1 hFc hP1 hD1
              have hP : va_P D vwCl ([(za, (b13_0 0 z1 (nI z2) (nI (z3 + 1)) 0 (-1) z6 z7 z8 z9 (nI z10) z11 z12 z13 z14 z15 (nI z16) z17 z18 z19))] ++ va_pl L M_311) H_318 := hP
              have hD : va_D A ([(za, (b13_0 0 z1 (nI z2) (nI (z3 + 1)) 0 (-1) z6 z7 z8 z9 (nI z10) z11 z12 z13 z14 z15 (nI z16) z17 z18 z19))] ++ va_pl L M_311) := hD
              have hq := Eq.symm hp_321
              subst hq
              have hI_322 : ((j_302 : Nat) : Int) ≠ (1 : Int) := ineI (nI_toInt (by omega)) rfl c_2
              have hI_323 : ((j_302 : Nat) : Int) ≠ (2 : Int) := ineI (nI_toInt (by omega)) rfl c_72
              have hI_324 : ((j_302 : Nat) : Int) = (4 : Int) := ieqI (nI_toInt (by omega)) rfl c_146
              have hI_325 : (0 : Int) ≤ ((j_302 : Nat) : Int) := inltI (nI_toInt (by omega)) rfl c_282
              have hI_326 : ((j_302 : Nat) : Int) ≤ (5 : Int) := inltI rfl (nI_toInt (by omega)) c_283
              have hI_327 : (0 : Int) ≤ (k2 : Int32).toInt := inltI rfl rfl c_285
              have hI_328 : (k2 : Int32).toInt ≤ (1000000000 : Int) := ileI rfl rfl c_296
              have hI_329 : ((j_302 : Nat) : Int) ≠ (5 : Int) := ineI (nI_toInt (by omega)) rfl c_297
              have hI_330 : ((z3 : Nat) : Int) ≠ (40 : Int) := ineI (nI_toInt (by omega)) rfl c_298
              have hn_331 : ((nI j_302) : Int32).toInt = ((j_302 : Nat) : Int) := nI_toInt (by omega)
              have hyes : okPa z2 z3 (nI j_302) k2 := by unfold okPa; refine ⟨?_, ?_, ?_, ?_, ?_⟩ <;> omega
              have hE : cnPa z2 z3 (nI j_302) k2 = (z3 + 1) := by unfold cnPa; rw [if_pos hyes]
              have hP : va_P D vwCl ([(za, (b13_0 0 z1 (nI z2) (nI (cnPa z2 z3 (nI j_302) k2)) 0 (-1) z6 z7 z8 z9 (nI z10) z11 z12 z13 z14 z15 (nI z16) z17 z18 z19))] ++ va_pl L M_311) H_318 := by rw [hE]; exact hP
              have hD : va_D A ([(za, (b13_0 0 z1 (nI z2) (nI (cnPa z2 z3 (nI j_302) k2)) 0 (-1) z6 z7 z8 z9 (nI z10) z11 z12 z13 z14 z15 (nI z16) z17 z18 z19))] ++ va_pl L M_311) := by rw [hE]; exact hD
              have hR9 : R5 z6 z7 M_311 := R5.put hR5 he6 he7 (by rw [hM_313, ef_308]) (by rw [hM_312, ef_314]) (fun q => absurd q c_297)
              rw [hQ]
              exact W.iret (v := (nI ((z3 + 1) - 1))) hx hb hr (fun t ht hW9 => ⟨⟨(nI ((z3 + 1) - 1)), M_311, rfl, ⟨hW, hF, ⟨hR9, by unfold pkPa ptPa; rw [if_pos hyes, if_pos hyes]; exact ⟨by rw [← hZP.1, show IFc (M z6) = f300 from by rw [he6]; rfl, show IFc (M_311 z6) = f_308 from by rw [hM_313]; rfl, ef_308, nI_cl (by omega)], by rw [← hZP.2, show IFc (M z7) = f301 from by rw [he7]; rfl, show IFc (M_311 z7) = f_314 from by rw [hM_312]; rfl, ef_314, nI_cl (by omega)]⟩⟩, (by unfold anPa; rw [if_pos hyes, Nat.add_sub_cancel])⟩, ⟨0, by rw [ht]; exact hP, hD⟩⟩, hS.F ht⟩) hS.2.2 dX13_partner_130
            · have hz := rfl (a := 0)
              have n_332 : z3 = 40 := (iEQ (a := z3) (b := 40) (by omega) (by omega)).mp c_298
              refine lv_aload_n hx hb dX13_partner_83 rfl (lv_at hl 1 rfl) ?_
              refine lv_bipush (v := 9) hx hb dX13_partner_84 (by decide) ?_
              have hPc := hP.sub (ws' := [(za, (b13_0 0 z1 (nI z2) (nI z3) z4 z5 z6 z7 z8 z9 (nI z10) z11 z12 z13 z14 z15 (nI z16) z17 z18 z19))]) [0] rfl
              have hDc := hD.sub (ws' := [(za, (b13_0 0 z1 (nI z2) (nI z3) z4 z5 z6 z7 z8 z9 (nI z10) z11 z12 z13 z14 z15 (nI z16) z17 z18 z19))]) [0] (by decide) rfl
              have hKc := hK.sub (tys' := []) [] rfl
              have hFc := va_free (wc := [(za, (b13_0 0 z1 (nI z2) (nI z3) z4 z5 z6 z7 z8 z9 (nI z10) z11 z12 z13 z14 z15 (nI z16) z17 z18 z19))]) hD hS hA [0] rfl
              refine va_calli (va_runV (As := [.int 9]) (rest := []) ⟨hx, hb, hml, hown, hg⟩ (m_refused l D H_1.size za 0 z1 (nI z2) (nI z3) z4 z5 z6 z7 z8 z9 (nI z10) z11 z12 z13 z14 z15 (nI z16) z17 z18 z19 9) (cwV 1 hg (gV wd_725 wd_726 wd_727 wd_717 wd_728) rfl rfl rfl (by decide +kernel) ⟨(Nat.le_trans (Nat.le_of_ble_eq_true rfl) hRf), (Nat.le_trans (Nat.le_of_ble_eq_true rfl) hRl)⟩) ⟨Pr.blind, va_recv hK hP (ci := 13) (q0 := 0) rfl rfl, fun U hU hW => ⟨rfl, Pr.at hPc hKc hDc hN hU hW⟩⟩ rfl rfl hl.1 rfl (lv_room (Nat.le_of_ble_eq_true rfl)) dX13_partner_86 ⟨(Nat.le_trans (Nat.le_of_ble_eq_true rfl) hRc), (Nat.le_trans (Nat.le_of_ble_eq_true rfl) hRs)⟩) hS (fun q _ h => hFc q h) hFc (fun r_334 M_335 t H_333 locs ht hvm hw hB hz1 hk1 hS => ?_)
              have hp_336 := hw
              obtain ⟨hP1, hK1, hD1⟩ := hB
              rw [ht] at hP1
              obtain ⟨hP, hD⟩ := va_joinQ (X := [(za, (b13_0 0 z1 (nI z2) (nI z3) z4 z5 z6 z7 z8 z9 (nI z10) z11 z12 z13 z14 z15 (nI z16) z17 z18 z19))]) (cx := [(za, (b13_0 0 z1 (nI z2) (nI z3) z4 z5 z6 z7 z8 z9 (nI z10) z11 z12 z13 z14 z15 (nI z16) z17 z18 z19))]) (wr := []) (w1 := [(za, (b13_0 0 z1 (nI z2) (nI z3) 9 (-1) z6 z7 z8 z9 (nI z10) z11 z12 z13 z14 z15 (nI z16) z17 z18 z19))]) (pl := va_pl L M) hP hD [0] [] rfl rfl (by decide) (by decide) hk1 hFc hP1 hD1
              have hP : va_P D vwCl ([(za, (b13_0 0 z1 (nI z2) (nI z3) 9 (-1) z6 z7 z8 z9 (nI z10) z11 z12 z13 z14 z15 (nI z16) z17 z18 z19))] ++ va_pl L M) H_333 := hP
              have hD : va_D A ([(za, (b13_0 0 z1 (nI z2) (nI z3) 9 (-1) z6 z7 z8 z9 (nI z10) z11 z12 z13 z14 z15 (nI z16) z17 z18 z19))] ++ va_pl L M) := hD
              have hq := Eq.symm hp_336
              subst hq
              have hI_337 : (k1 : Int32).toInt ≠ (1 : Int) := ineI rfl rfl c_2
              have hI_338 : (k1 : Int32).toInt ≠ (2 : Int) := ineI rfl rfl c_72
              have hI_339 : (k1 : Int32).toInt = (4 : Int) := ieqI rfl rfl c_146
              have hI_340 : (0 : Int) ≤ (k1 : Int32).toInt := inltI rfl rfl c_282
              have hI_341 : (k1 : Int32).toInt ≤ (5 : Int) := inltI rfl rfl c_283
              have hI_342 : (0 : Int) ≤ (k2 : Int32).toInt := inltI rfl rfl c_285
              have hI_343 : (k2 : Int32).toInt ≤ (1000000000 : Int) := ileI rfl rfl c_296
              have hI_344 : (k1 : Int32).toInt ≠ (5 : Int) := ineI rfl rfl c_297
              have hI_345 : ((z3 : Nat) : Int) = (40 : Int) := ieqI (nI_toInt (by omega)) rfl c_298
              have hno : ¬ okPa z2 z3 k1 k2 := fun q9 => by unfold okPa at q9; omega
              have hE : cnPa z2 z3 k1 k2 = z3 := by unfold cnPa; rw [if_neg hno]
              have hP : va_P D vwCl ([(za, (b13_0 0 z1 (nI z2) (nI (cnPa z2 z3 k1 k2)) 9 (-1) z6 z7 z8 z9 (nI z10) z11 z12 z13 z14 z15 (nI z16) z17 z18 z19))] ++ va_pl L M) H_333 := by rw [hE]; exact hP
              have hD : va_D A ([(za, (b13_0 0 z1 (nI z2) (nI (cnPa z2 z3 k1 k2)) 9 (-1) z6 z7 z8 z9 (nI z10) z11 z12 z13 z14 z15 (nI z16) z17 z18 z19))] ++ va_pl L M) := by rw [hE]; exact hD
              rw [hQ]
              exact W.iret (v := (-1)) hx hb hr (fun t ht hW9 => ⟨⟨(-1), M, rfl, ⟨hW, hF, ⟨hR5, by unfold pkPa ptPa; rw [if_neg hno, if_neg hno]; exact hZP⟩, (by unfold anPa; rw [if_neg hno])⟩, ⟨9, by rw [ht]; exact hP, hD⟩⟩, hS.F ht⟩) hS.2.2 dX13_partner_89
          · have hz := rfl (a := 0)
            have n_346 : ¬ k2 < 0 := gtN (c := 1000000000) (by omega) (Int32.not_le.mp c_296)
            refine lv_aload_n hx hb dX13_partner_49 rfl (lv_at hl 1 rfl) ?_
            refine lv_iconst (v := 2) hx hb dX13_partner_50 (by decide) ?_
            have hPc := hP.sub (ws' := [(za, (b13_0 0 z1 (nI z2) (nI z3) z4 z5 z6 z7 z8 z9 (nI z10) z11 z12 z13 z14 z15 (nI z16) z17 z18 z19))]) [0] rfl
            have hDc := hD.sub (ws' := [(za, (b13_0 0 z1 (nI z2) (nI z3) z4 z5 z6 z7 z8 z9 (nI z10) z11 z12 z13 z14 z15 (nI z16) z17 z18 z19))]) [0] (by decide) rfl
            have hKc := hK.sub (tys' := []) [] rfl
            have hFc := va_free (wc := [(za, (b13_0 0 z1 (nI z2) (nI z3) z4 z5 z6 z7 z8 z9 (nI z10) z11 z12 z13 z14 z15 (nI z16) z17 z18 z19))]) hD hS hA [0] rfl
            refine va_calli (va_runV (As := [.int 2]) (rest := []) ⟨hx, hb, hml, hown, hg⟩ (m_refused l D H_1.size za 0 z1 (nI z2) (nI z3) z4 z5 z6 z7 z8 z9 (nI z10) z11 z12 z13 z14 z15 (nI z16) z17 z18 z19 2) (cwV 1 hg (gV wd_725 wd_726 wd_727 wd_717 wd_728) rfl rfl rfl (by decide +kernel) ⟨(Nat.le_trans (Nat.le_of_ble_eq_true rfl) hRf), (Nat.le_trans (Nat.le_of_ble_eq_true rfl) hRl)⟩) ⟨Pr.blind, va_recv hK hP (ci := 13) (q0 := 0) rfl rfl, fun U hU hW => ⟨rfl, Pr.at hPc hKc hDc hN hU hW⟩⟩ rfl rfl hl.1 rfl (lv_room (Nat.le_of_ble_eq_true rfl)) dX13_partner_51 ⟨(Nat.le_trans (Nat.le_of_ble_eq_true rfl) hRc), (Nat.le_trans (Nat.le_of_ble_eq_true rfl) hRs)⟩) hS (fun q _ h => hFc q h) hFc (fun r_348 M_349 t H_347 locs ht hvm hw hB hz1 hk1 hS => ?_)
            have hp_350 := hw
            obtain ⟨hP1, hK1, hD1⟩ := hB
            rw [ht] at hP1
            obtain ⟨hP, hD⟩ := va_joinQ (X := [(za, (b13_0 0 z1 (nI z2) (nI z3) z4 z5 z6 z7 z8 z9 (nI z10) z11 z12 z13 z14 z15 (nI z16) z17 z18 z19))]) (cx := [(za, (b13_0 0 z1 (nI z2) (nI z3) z4 z5 z6 z7 z8 z9 (nI z10) z11 z12 z13 z14 z15 (nI z16) z17 z18 z19))]) (wr := []) (w1 := [(za, (b13_0 0 z1 (nI z2) (nI z3) 2 (-1) z6 z7 z8 z9 (nI z10) z11 z12 z13 z14 z15 (nI z16) z17 z18 z19))]) (pl := va_pl L M) hP hD [0] [] rfl rfl (by decide) (by decide) hk1 hFc hP1 hD1
            have hP : va_P D vwCl ([(za, (b13_0 0 z1 (nI z2) (nI z3) 2 (-1) z6 z7 z8 z9 (nI z10) z11 z12 z13 z14 z15 (nI z16) z17 z18 z19))] ++ va_pl L M) H_347 := hP
            have hD : va_D A ([(za, (b13_0 0 z1 (nI z2) (nI z3) 2 (-1) z6 z7 z8 z9 (nI z10) z11 z12 z13 z14 z15 (nI z16) z17 z18 z19))] ++ va_pl L M) := hD
            have hq := Eq.symm hp_350
            subst hq
            have hI_351 : (k1 : Int32).toInt ≠ (1 : Int) := ineI rfl rfl c_2
            have hI_352 : (k1 : Int32).toInt ≠ (2 : Int) := ineI rfl rfl c_72
            have hI_353 : (k1 : Int32).toInt = (4 : Int) := ieqI rfl rfl c_146
            have hI_354 : (0 : Int) ≤ (k1 : Int32).toInt := inltI rfl rfl c_282
            have hI_355 : (k1 : Int32).toInt ≤ (5 : Int) := inltI rfl rfl c_283
            have hI_356 : (0 : Int) ≤ (k2 : Int32).toInt := inltI rfl rfl c_285
            have hI_357 : (1000000000 : Int) < (k2 : Int32).toInt := inleI rfl rfl c_296
            have hI_358 : (0 : Int) ≤ (k2 : Int32).toInt := inltI rfl rfl n_346
            have hno : ¬ okPa z2 z3 k1 k2 := fun q9 => by unfold okPa at q9; omega
            have hE : cnPa z2 z3 k1 k2 = z3 := by unfold cnPa; rw [if_neg hno]
            have hP : va_P D vwCl ([(za, (b13_0 0 z1 (nI z2) (nI (cnPa z2 z3 k1 k2)) 2 (-1) z6 z7 z8 z9 (nI z10) z11 z12 z13 z14 z15 (nI z16) z17 z18 z19))] ++ va_pl L M) H_347 := by rw [hE]; exact hP
            have hD : va_D A ([(za, (b13_0 0 z1 (nI z2) (nI (cnPa z2 z3 k1 k2)) 2 (-1) z6 z7 z8 z9 (nI z10) z11 z12 z13 z14 z15 (nI z16) z17 z18 z19))] ++ va_pl L M) := by rw [hE]; exact hD
            rw [hQ]
            exact W.iret (v := (-1)) hx hb hr (fun t ht hW9 => ⟨⟨(-1), M, rfl, ⟨hW, hF, ⟨hR5, by unfold pkPa ptPa; rw [if_neg hno, if_neg hno]; exact hZP⟩, (by unfold anPa; rw [if_neg hno])⟩, ⟨2, by rw [ht]; exact hP, hD⟩⟩, hS.F ht⟩) hS.2.2 dX13_partner_54
