

/-- what a tenure tells -/
def tfa (M : Hp) (t : Nat) (w : Int32) : Int32 := if w.toInt = 0 then cV 4 M (rA 9 M t 1) 0 else if w.toInt = 1 then cV 9 M t 2 else if w.toInt = 2 then cV 9 M t 3 else if w.toInt = 3 then cV 9 M t 5 else if w.toInt = 4 then cV 9 M t 4 else if w.toInt = 5 then cV 9 M t 6 else if w.toInt = 6 then hrN M (cR 9 M t 8) else if w.toInt = 7 then (if (cV 4 M (rA 9 M t 1) 1).toInt = 2 ∨ (cV 4 M (rA 9 M t 1) 1).toInt = 4 then -1 else cV 4 M (rA 9 M t 1) 1) else -1
def tfS (PK : Nat → Int32) (Y : Nat → Nat → Int32) (i : Nat) (w : Int32) : Int32 := if w.toInt = 0 then Y 19 i else if w.toInt = 1 then Y 20 i else if w.toInt = 2 then Y 21 i else if w.toInt = 3 then Y 22 i else if w.toInt = 4 then Y 26 i else if w.toInt = 5 then (if Y 22 i = -1 then 0 else Y 23 i) else if w.toInt = 6 then Y 25 i else if w.toInt = 7 then (if (PK (Y 19 i).toNatClampNeg).toInt = 2 ∨ (PK (Y 19 i).toNatClampNeg).toInt = 4 then -1 else PK (Y 19 i).toNatClampNeg) else -1
theorem tfa_S {k : Nat} {T : Int} {np : Nat} {PK PT : Nat → Int32} {M : Hp} {b : Nat} {X : Nat → Int} {Y : Nat → Nat → Int32} {t i : Nat} {w : Int32} (h : SIM k T np PK PT (cfx M b) (cax M b) X Y) (hs : RFc (M (rA 2 M b 8)) i = some t) (hi : i < 24) (hX : (i : Int) < X 10) : tfa M t w = tfS PK Y i w := by
  have lk := lk_te hs hi
  have l29 : cax M b 29 i = cV 4 M (rA 9 M t 1) 1 := by
    show vKd M b i = _
    unfold vKd
    rw [if_pos hi, hs]
  have te := h.te i hX
  have ex := h.ex.tw i hX
  unfold tfa tfS
  by_cases z0 : w.toInt = 0
  · rw [if_pos z0, if_pos z0]
    exact lk.1.symm.trans te.1
  rw [if_neg z0, if_neg z0]
  by_cases z1 : w.toInt = 1
  · rw [if_pos z1, if_pos z1]
    exact lk.2.1.symm.trans te.2.1
  rw [if_neg z1, if_neg z1]
  by_cases z2 : w.toInt = 2
  · rw [if_pos z2, if_pos z2]
    exact lk.2.2.1.symm.trans te.2.2.1
  rw [if_neg z2, if_neg z2]
  by_cases z3 : w.toInt = 3
  · rw [if_pos z3, if_pos z3]
    exact lk.2.2.2.1.symm.trans te.2.2.2.1
  rw [if_neg z3, if_neg z3]
  by_cases z4 : w.toInt = 4
  · rw [if_pos z4, if_pos z4]
    exact lk.2.2.2.2.2.2.2.1.symm.trans ex.1
  rw [if_neg z4, if_neg z4]
  by_cases z5 : w.toInt = 5
  · rw [if_pos z5, if_pos z5, ← lk.2.2.2.2.1, te.2.2.2.2.1]
    by_cases q : Y 22 i = -1
    · rw [if_pos q]
      exact h.ex.iz i hX q
    · rw [if_neg q]
  rw [if_neg z5, if_neg z5]
  by_cases z6 : w.toInt = 6
  · rw [if_pos z6, if_pos z6]
    exact lk.2.2.2.2.2.2.1.symm.trans te.2.2.2.2.2.2.1
  rw [if_neg z6, if_neg z6, ← l29, ex.2]
def okTn (n : Nat) (SX : Nat → Nat → Int) (h t : Int32) : Prop := okH n h ∧ 0 ≤ t.toInt ∧ t.toInt < SX h.toNatClampNeg 10
noncomputable def anTn (n : Nat) (PK : Nat → Int32) (SX : Nat → Nat → Int) (SY : Nat → Nat → Nat → Int32) (h t w : Int32) : Int32 := @ite _ (okTn n SX h t) (Classical.propDecidable _) (tfS PK (SY h.toNatClampNeg) t.toNatClampNeg w) (-1)
set_option maxHeartbeats 4000000 in
set_option maxRecDepth 100000 in
theorem e_isSilent (l : Launch) (D : va_G) (cy : Nat → ClassId) (K : Kp) (L : List Nat) (M : Hp) (sz : Nat) (oa : Nat) (hW : WOK cy K L M) (ia : isk K L oa 4 0) : Met l yX4_isSilent (wsM yX4_isSilent cX4_isSilent 1 (some .boolean)) ({ frames := 0, cells := 0, slots := 0, locals := 0 }) (va_Pc [.ref oa] (PG D cy [] L M sz)) (va_Qi (fun (r : Int32) (_ : Unit) => (r = 1 ∧ ((cV 4 M oa 1).toInt = 2 ∨ (cV 4 M oa 1).toInt = 4)) ∨ (r = 0 ∧ ¬ ((cV 4 M oa 1).toInt = 2 ∨ (cV 4 M oa 1).toInt = 4))) (fun _ t => PQ D [] L M (va_A ([] ++ va_pl L M) sz) t) (va_A ([] ++ va_pl L M) sz)) 0 0 (va_A ([] ++ va_pl L M) sz) := by
  refine Met.ofW (cc := cX4_isSilent) (maxL := 1) (ret := (some .boolean)) (by decide) rfl ?_
  intro p e s m args below meth c s₁ B hml hv
  obtain ⟨rfl, hsz, hP, hK, hD0, hN⟩ := hv
  have hx := B.exec
  have hb := B.bytes
  have hr := B.returns
  have hts := atoms_spec (ws := (wsM yX4_isSilent cX4_isSilent 1 (some .boolean))) B.pre
  have hg : ∀ w ∈ lw_good, w.before _ s = true := fun w h => hts w (List.mem_cons_of_mem _ h)
  have hown : s.vm.findClass RX4 = some m.cls := findClass_of_methodNamed B.named
  have hlocks := B.notSynchronized
  subst hsz
  have hD := hD0.self (sz := s.heap.size)
  generalize hAe : va_A ([] ++ va_pl L M) s.heap.size = A at hD ⊢
  have hA : ∀ q : Nat, s.heap.size ≤ q → A q := fun q h => by rw [← hAe]; exact Or.inr h
  have hS : va_S A s.heap s.heap [] := va_S.rf
  have hl := lv_entry ([.ref oa]) (n := 1) (Nat.le_of_ble_eq_true rfl)
  rw [lg_entry_eq]
  generalize (lg_sl ([.ref oa]) ++ List.replicate (1 - (lg_sl ([.ref oa])).length) Slot.unset).toArray = ls at hl ⊢
  refine W.nameQ (fun Q hQ => ?_)
  refine W.nameR (fun R hR => ?_)
  have hRf : 0 ≤ R.frames := by rw [hR]; exact Nat.le_of_ble_eq_true rfl
  have hRl : 0 ≤ R.locals := by rw [hR]; exact Nat.le_of_ble_eq_true rfl
  have hRc : 0 ≤ R.cells := by rw [hR]; exact Nat.le_of_ble_eq_true rfl
  have hRs : 0 ≤ R.slots := by rw [hR]; exact Nat.le_of_ble_eq_true rfl
  have hl : lv_has ls 1 [(0, .ref oa)] := hl
  refine lv_aload_n hx hb dX4_isSilent_0 rfl (lv_at hl 0 rfl) ?_
  obtain ⟨v1_0, v1_1, v1_2, v1_3, hM1, h1_3⟩ := hW.open_4 ia
  refine pg_get (D := D) (ci := 4) (v := .int v1_1) (C := RX4) (T := TX4) (N := 4) hx hb hg inG4 hown hK hP ia.1 hM1 rfl 1 (by decide) (hg _ wd_1) (fun _ h9 => h9) rfl dX4_isSilent_1 ?_
  refine lv_iconst (v := 2) hx hb dX4_isSilent_4 (by decide) ?_
  refine lv_icmp_eq (tgt := 16) hx hb dX4_isSilent_5 (by decide) (fun c_2 => ?_) (fun c_2 => ?_)
  · have hz := rfl (a := 0)
    refine lv_iconst (v := 1) hx hb dX4_isSilent_16 (by decide) ?_
    refine lv_goto (tgt := 21) hx hb dX4_isSilent_17 (by decide) ?_
    have hI_3 : (v1_1 : Int32).toInt = (2 : Int) := ieqI rfl rfl c_2
    have hA_4 : (cV 4 M oa 0).toInt = (v1_0 : Int32).toInt := by rw [cV_of hM1 rfl]
    have hA_5 : (cV 4 M oa 1).toInt = (v1_1 : Int32).toInt := by rw [cV_of hM1 rfl]
    have hA_6 : (cV 4 M oa 2).toInt = (v1_2 : Int32).toInt := by rw [cV_of hM1 rfl]
    rw [hQ]
    exact W.zret (v := 1) hx hb hr rfl (fun t ht hW9 => ⟨⟨1, (), rfl, (Or.inl ⟨rfl, by omega⟩), ⟨by rw [ht]; exact hP, hD⟩⟩, hS.F ht⟩) hS.2.2 dX4_isSilent_21
  · have hz := rfl (a := 0)
    refine lv_aload_n hx hb dX4_isSilent_8 rfl (lv_at hl 0 rfl) ?_
    refine pg_get (D := D) (ci := 4) (v := .int v1_1) (C := RX4) (T := TX4) (N := 4) hx hb hg inG4 hown hK hP ia.1 hM1 rfl 1 (by decide) (hg _ wd_1) (fun _ h9 => h9) rfl dX4_isSilent_9 ?_
    refine lv_iconst (v := 4) hx hb dX4_isSilent_12 (by decide) ?_
    refine lv_icmp_ne (tgt := 20) hx hb dX4_isSilent_13 (by decide) (fun c_7 => ?_) (fun c_7 => ?_)
    · have hz := rfl (a := 0)
      refine lv_iconst (v := 0) hx hb dX4_isSilent_20 (by decide) ?_
      have hI_8 : (v1_1 : Int32).toInt ≠ (2 : Int) := ineI rfl rfl c_2
      have hI_9 : (v1_1 : Int32).toInt ≠ (4 : Int) := ineI rfl rfl c_7
      have hA_10 : (cV 4 M oa 0).toInt = (v1_0 : Int32).toInt := by rw [cV_of hM1 rfl]
      have hA_11 : (cV 4 M oa 1).toInt = (v1_1 : Int32).toInt := by rw [cV_of hM1 rfl]
      have hA_12 : (cV 4 M oa 2).toInt = (v1_2 : Int32).toInt := by rw [cV_of hM1 rfl]
      rw [hQ]
      exact W.zret (v := 0) hx hb hr rfl (fun t ht hW9 => ⟨⟨0, (), rfl, (Or.inr ⟨rfl, by omega⟩), ⟨by rw [ht]; exact hP, hD⟩⟩, hS.F ht⟩) hS.2.2 dX4_isSilent_21
    · have hz := rfl (a := 0)
      refine lv_iconst (v := 1) hx hb dX4_isSilent_16 (by decide) ?_
      refine lv_goto (tgt := 21) hx hb dX4_isSilent_17 (by decide) ?_
      have hI_13 : (v1_1 : Int32).toInt ≠ (2 : Int) := ineI rfl rfl c_2
      have hI_14 : (v1_1 : Int32).toInt = (4 : Int) := ieqI rfl rfl c_7
      have hA_15 : (cV 4 M oa 0).toInt = (v1_0 : Int32).toInt := by rw [cV_of hM1 rfl]
      have hA_16 : (cV 4 M oa 1).toInt = (v1_1 : Int32).toInt := by rw [cV_of hM1 rfl]
      have hA_17 : (cV 4 M oa 2).toInt = (v1_2 : Int32).toInt := by rw [cV_of hM1 rfl]
      rw [hQ]
      exact W.zret (v := 1) hx hb hr rfl (fun t ht hW9 => ⟨⟨1, (), rfl, (Or.inl ⟨rfl, by omega⟩), ⟨by rw [ht]; exact hP, hD⟩⟩, hS.F ht⟩) hS.2.2 dX4_isSilent_21
set_option maxHeartbeats 4000000 in
set_option maxRecDepth 100000 in
theorem e_factOf (l : Launch) (D : va_G) (cy : Nat → ClassId) (K : Kp) (L : List Nat) (M : Hp) (sz : Nat) (oa : Nat) (k1 : Int32) (hW : WOK cy K L M) (ia : isk K L oa 9 0) : Met l yX9_factOf (wsM yX9_factOf cX9_factOf 2 (some .int)) ({ frames := 1, cells := 0, slots := 0, locals := 20 }) (va_Pc [.ref oa, .int k1] (PG D cy [] L M sz)) (va_Qi (fun (r : Int32) (_ : Unit) => (r = (tfa M oa k1))) (fun _ t => PQ D [] L M (va_A ([] ++ va_pl L M) sz) t) (va_A ([] ++ va_pl L M) sz)) 0 0 (va_A ([] ++ va_pl L M) sz) := by
  refine Met.ofW (cc := cX9_factOf) (maxL := 2) (ret := (some .int)) (by decide) rfl ?_
  intro p e s m args below meth c s₁ B hml hv
  obtain ⟨rfl, hsz, hP, hK, hD0, hN⟩ := hv
  have hx := B.exec
  have hb := B.bytes
  have hr := B.returns
  have hts := atoms_spec (ws := (wsM yX9_factOf cX9_factOf 2 (some .int))) B.pre
  have hg : ∀ w ∈ lw_good, w.before _ s = true := fun w h => hts w (List.mem_cons_of_mem _ h)
  have hown : s.vm.findClass RX9 = some m.cls := findClass_of_methodNamed B.named
  have hlocks := B.notSynchronized
  subst hsz
  have hD := hD0.self (sz := s.heap.size)
  generalize hAe : va_A ([] ++ va_pl L M) s.heap.size = A at hD ⊢
  have hA : ∀ q : Nat, s.heap.size ≤ q → A q := fun q h => by rw [← hAe]; exact Or.inr h
  have hS : va_S A s.heap s.heap [] := va_S.rf
  have hl := lv_entry ([.ref oa, .int k1]) (n := 2) (Nat.le_of_ble_eq_true rfl)
  rw [lg_entry_eq]
  generalize (lg_sl ([.ref oa, .int k1]) ++ List.replicate (2 - (lg_sl ([.ref oa, .int k1])).length) Slot.unset).toArray = ls at hl ⊢
  refine W.nameQ (fun Q hQ => ?_)
  refine W.nameR (fun R hR => ?_)
  have hRf : 1 ≤ R.frames := by rw [hR]; exact Nat.le_of_ble_eq_true rfl
  have hRl : 20 ≤ R.locals := by rw [hR]; exact Nat.le_of_ble_eq_true rfl
  have hRc : 0 ≤ R.cells := by rw [hR]; exact Nat.le_of_ble_eq_true rfl
  have hRs : 0 ≤ R.slots := by rw [hR]; exact Nat.le_of_ble_eq_true rfl
  have hl : lv_has ls 2 [(0, .ref oa), (1, .int k1)] := hl
  refine lv_iload_n hx hb dX9_factOf_0 rfl (lv_at hl 1 rfl) ?_
  by_cases hout : (k1 : Int32).toInt < 0 ∨ 7 < (k1 : Int32).toInt
  · refine lv_tableOut (tgt := 130) hx hb dX9_factOf_1 hout (by decide) ?_
    refine lv_iconst (v := (-1)) hx hb dX9_factOf_130 (by decide) ?_
    rw [hQ]
    exact W.iret (v := (-1)) hx hb hr (fun t ht hW9 => ⟨⟨(-1), (), rfl, (by unfold tfa; rw [if_neg (by omega), if_neg (by omega), if_neg (by omega), if_neg (by omega), if_neg (by omega), if_neg (by omega), if_neg (by omega), if_neg (by omega)]), ⟨by rw [ht]; exact hP, hD⟩⟩, hS.F ht⟩) hS.2.2 dX9_factOf_131
  · obtain ⟨j_1, hj, hj2⟩ : ∃ j : Nat, j ≤ 7 ∧ (k1 : Int32).toInt = (j : Int) := ⟨(k1 : Int32).toInt.toNat, by omega, by omega⟩
    rcases (show j_1 = 0 ∨ j_1 = 1 ∨ j_1 = 2 ∨ j_1 = 3 ∨ j_1 = 4 ∨ j_1 = 5 ∨ j_1 = 6 ∨ j_1 = 7 by omega) with rfl | rfl | rfl | rfl | rfl | rfl | rfl | rfl
    · refine lv_tableIn (tgt := 48) hx hb dX9_factOf_1 (by omega) (by omega) (by rw [hj2]; rfl) (by decide) ?_
      refine lv_aload_n hx hb dX9_factOf_48 rfl (lv_at hl 0 rfl) ?_
      obtain ⟨v2_0, v2_1, v2_2, v2_3, v2_4, v2_5, v2_6, v2_7, v2_8, v2_9, v2_10, v2_11, v2_12, v2_13, v2_14, v2_15, hM2, h2_0, h2_1, h2_4, h2_8⟩ := hW.open_9 ia
      refine pg_get (D := D) (ci := 9) (v := .ref v2_1) (C := RX9) (T := TX9) (N := 16) hx hb hg inG9 hown hK hP ia.1 hM2 rfl 1 (by decide) (hg _ wd_7) (fun _ h9 => h9) rfl dX9_factOf_49 ?_
      obtain ⟨v3_0, v3_1, v3_2, v3_3, hM3, h3_3⟩ := hW.open_4 h2_1
      refine pg_get (D := D) (ci := 4) (v := .int v3_0) (C := RX4) (T := TX4) (N := 4) hx hb hg inG4 hown hK hP h2_1.1 hM3 rfl 0 (by decide) (hg _ wd_22) (fun _ h9 => h9) rfl dX9_factOf_52 ?_
      rw [hQ]
      exact W.iret (v := v3_0) hx hb hr (fun t ht hW9 => ⟨⟨v3_0, (), rfl, (by unfold tfa; rw [if_pos (by omega)]; rw [rA_of (j := 1) hM2 rfl]; exact (cV_of (j := 0) hM3 rfl).symm), ⟨by rw [ht]; exact hP, hD⟩⟩, hS.F ht⟩) hS.2.2 dX9_factOf_55
    · refine lv_tableIn (tgt := 56) hx hb dX9_factOf_1 (by omega) (by omega) (by rw [hj2]; rfl) (by decide) ?_
      refine lv_aload_n hx hb dX9_factOf_56 rfl (lv_at hl 0 rfl) ?_
      obtain ⟨v4_0, v4_1, v4_2, v4_3, v4_4, v4_5, v4_6, v4_7, v4_8, v4_9, v4_10, v4_11, v4_12, v4_13, v4_14, v4_15, hM4, h4_0, h4_1, h4_4, h4_8⟩ := hW.open_9 ia
      refine pg_get (D := D) (ci := 9) (v := .int v4_2) (C := RX9) (T := TX9) (N := 16) hx hb hg inG9 hown hK hP ia.1 hM4 rfl 2 (by decide) (hg _ wd_23) (fun _ h9 => h9) rfl dX9_factOf_57 ?_
      rw [hQ]
      exact W.iret (v := v4_2) hx hb hr (fun t ht hW9 => ⟨⟨v4_2, (), rfl, (by unfold tfa; rw [if_neg (by omega), if_pos (by omega)]; exact (cV_of (j := 2) hM4 rfl).symm), ⟨by rw [ht]; exact hP, hD⟩⟩, hS.F ht⟩) hS.2.2 dX9_factOf_60
    · refine lv_tableIn (tgt := 61) hx hb dX9_factOf_1 (by omega) (by omega) (by rw [hj2]; rfl) (by decide) ?_
      refine lv_aload_n hx hb dX9_factOf_61 rfl (lv_at hl 0 rfl) ?_
      obtain ⟨v5_0, v5_1, v5_2, v5_3, v5_4, v5_5, v5_6, v5_7, v5_8, v5_9, v5_10, v5_11, v5_12, v5_13, v5_14, v5_15, hM5, h5_0, h5_1, h5_4, h5_8⟩ := hW.open_9 ia
      refine pg_get (D := D) (ci := 9) (v := .int v5_3) (C := RX9) (T := TX9) (N := 16) hx hb hg inG9 hown hK hP ia.1 hM5 rfl 3 (by decide) (hg _ wd_6) (fun _ h9 => h9) rfl dX9_factOf_62 ?_
      rw [hQ]
      exact W.iret (v := v5_3) hx hb hr (fun t ht hW9 => ⟨⟨v5_3, (), rfl, (by unfold tfa; rw [if_neg (by omega), if_neg (by omega), if_pos (by omega)]; exact (cV_of (j := 3) hM5 rfl).symm), ⟨by rw [ht]; exact hP, hD⟩⟩, hS.F ht⟩) hS.2.2 dX9_factOf_65
    · refine lv_tableIn (tgt := 66) hx hb dX9_factOf_1 (by omega) (by omega) (by rw [hj2]; rfl) (by decide) ?_
      refine lv_aload_n hx hb dX9_factOf_66 rfl (lv_at hl 0 rfl) ?_
      obtain ⟨v6_0, v6_1, v6_2, v6_3, v6_4, v6_5, v6_6, v6_7, v6_8, v6_9, v6_10, v6_11, v6_12, v6_13, v6_14, v6_15, hM6, h6_0, h6_1, h6_4, h6_8⟩ := hW.open_9 ia
      refine pg_get (D := D) (ci := 9) (v := .int v6_5) (C := RX9) (T := TX9) (N := 16) hx hb hg inG9 hown hK hP ia.1 hM6 rfl 5 (by decide) (hg _ wd_5) (fun _ h9 => h9) rfl dX9_factOf_67 ?_
      rw [hQ]
      exact W.iret (v := v6_5) hx hb hr (fun t ht hW9 => ⟨⟨v6_5, (), rfl, (by unfold tfa; rw [if_neg (by omega), if_neg (by omega), if_neg (by omega), if_pos (by omega)]; exact (cV_of (j := 5) hM6 rfl).symm), ⟨by rw [ht]; exact hP, hD⟩⟩, hS.F ht⟩) hS.2.2 dX9_factOf_70
    · refine lv_tableIn (tgt := 71) hx hb dX9_factOf_1 (by omega) (by omega) (by rw [hj2]; rfl) (by decide) ?_
      refine lv_aload_n hx hb dX9_factOf_71 rfl (lv_at hl 0 rfl) ?_
      obtain ⟨v7_0, v7_1, v7_2, v7_3, v7_4, v7_5, v7_6, v7_7, v7_8, v7_9, v7_10, v7_11, v7_12, v7_13, v7_14, v7_15, hM7, h7_0, h7_1, h7_4, h7_8⟩ := hW.open_9 ia
      refine pg_get (D := D) (ci := 9) (v := .int v7_4) (C := RX9) (T := TX9) (N := 16) hx hb hg inG9 hown hK hP ia.1 hM7 rfl 4 (by decide) (hg _ wd_24) (fun _ h9 => h9) rfl dX9_factOf_72 ?_
      refine lv_if_eq (tgt := 82) hx hb dX9_factOf_75 (by decide) (fun c_8 => ?_) (fun c_8 => ?_)
      · have hz := rfl (a := 0)
        refine lv_iconst (v := 0) hx hb dX9_factOf_82 (by decide) ?_
        rw [hQ]
        exact W.iret (v := 0) hx hb hr (fun t ht hW9 => ⟨⟨0, (), rfl, (by unfold tfa; rw [if_neg (by omega), if_neg (by omega), if_neg (by omega), if_neg (by omega), if_pos (by omega)]; rw [cV_of (j := 4) hM7 rfl]; exact c_8.symm), ⟨by rw [ht]; exact hP, hD⟩⟩, hS.F ht⟩) hS.2.2 dX9_factOf_83
      · have hz := rfl (a := 0)
        refine lv_iconst (v := 1) hx hb dX9_factOf_78 (by decide) ?_
        refine lv_goto (tgt := 83) hx hb dX9_factOf_79 (by decide) ?_
        rw [hQ]
        exact W.iret (v := 1) hx hb hr (fun t ht hW9 => ⟨⟨1, (), rfl, (by unfold tfa; rw [if_neg (by omega), if_neg (by omega), if_neg (by omega), if_neg (by omega), if_pos (by omega)]; rw [cV_of (j := 4) hM7 rfl]; exact (h7_4.resolve_left c_8).symm), ⟨by rw [ht]; exact hP, hD⟩⟩, hS.F ht⟩) hS.2.2 dX9_factOf_83
    · refine lv_tableIn (tgt := 84) hx hb dX9_factOf_1 (by omega) (by omega) (by rw [hj2]; rfl) (by decide) ?_
      refine lv_aload_n hx hb dX9_factOf_84 rfl (lv_at hl 0 rfl) ?_
      obtain ⟨v9_0, v9_1, v9_2, v9_3, v9_4, v9_5, v9_6, v9_7, v9_8, v9_9, v9_10, v9_11, v9_12, v9_13, v9_14, v9_15, hM9, h9_0, h9_1, h9_4, h9_8⟩ := hW.open_9 ia
      refine pg_get (D := D) (ci := 9) (v := .int v9_6) (C := RX9) (T := TX9) (N := 16) hx hb hg inG9 hown hK hP ia.1 hM9 rfl 6 (by decide) (hg _ wd_14) (fun _ h9 => h9) rfl dX9_factOf_85 ?_
      rw [hQ]
      exact W.iret (v := v9_6) hx hb hr (fun t ht hW9 => ⟨⟨v9_6, (), rfl, (by unfold tfa; rw [if_neg (by omega), if_neg (by omega), if_neg (by omega), if_neg (by omega), if_neg (by omega), if_pos (by omega)]; exact (cV_of (j := 6) hM9 rfl).symm), ⟨by rw [ht]; exact hP, hD⟩⟩, hS.F ht⟩) hS.2.2 dX9_factOf_88
    · refine lv_tableIn (tgt := 89) hx hb dX9_factOf_1 (by omega) (by omega) (by rw [hj2]; rfl) (by decide) ?_
      refine lv_aload_n hx hb dX9_factOf_89 rfl (lv_at hl 0 rfl) ?_
      obtain ⟨v10_0, v10_1, v10_2, v10_3, v10_4, v10_5, v10_6, v10_7, v10_8, v10_9, v10_10, v10_11, v10_12, v10_13, v10_14, v10_15, hM10, h10_0, h10_1, h10_4, h10_8⟩ := hW.open_9 ia
      refine pg_get (D := D) (ci := 9) (v := va_rf v10_8) (C := RX9) (T := TX9) (N := 16) hx hb hg inG9 hown hK hP ia.1 hM10 rfl 8 (by decide) (hg _ wd_25) (fun _ h9 => h9) rfl dX9_factOf_90 ?_
      rcases v10_8 with _ | b_11
      · have hz := rfl (a := 0)
        refine lv_ifnonnullN hx hb dX9_factOf_93 ?_
        refine lv_iconst (v := (-1)) hx hb dX9_factOf_96 (by decide) ?_
        refine lv_goto (tgt := 107) hx hb dX9_factOf_97 (by decide) ?_
        rw [hQ]
        exact W.iret (v := (-1)) hx hb hr (fun t ht hW9 => ⟨⟨(-1), (), rfl, (by unfold tfa; rw [if_neg (by omega), if_neg (by omega), if_neg (by omega), if_neg (by omega), if_neg (by omega), if_neg (by omega), if_pos (by omega)]; rw [cR_q (q := none) hM10 rfl]; rfl), ⟨by rw [ht]; exact hP, hD⟩⟩, hS.F ht⟩) hS.2.2 dX9_factOf_107
      · have hb_12 := h10_8 b_11 rfl
        refine lv_ifnonnull (tgt := 100) hx hb dX9_factOf_93 (by decide) ?_
        refine lv_aload_n hx hb dX9_factOf_100 rfl (lv_at hl 0 rfl) ?_
        refine pg_get (D := D) (ci := 9) (v := va_rf (some b_11)) (C := RX9) (T := TX9) (N := 16) hx hb hg inG9 hown hK hP ia.1 hM10 rfl 8 (by decide) (hg _ wd_25) (fun _ h9 => h9) rfl dX9_factOf_101 ?_
        obtain ⟨v13_0, v13_1, v13_2, v13_3, v13_4, v13_5, v13_6, v13_7, v13_8, v13_9, v13_10, v13_11, v13_12, v13_13, v13_14, v13_15, hM13, h13_0, h13_1, h13_4, h13_8⟩ := hW.open_9 hb_12
        refine pg_get (D := D) (ci := 9) (v := .int (nI v13_0)) (C := RX9) (T := TX9) (N := 16) hx hb hg inG9 hown hK hP hb_12.1 hM13 rfl 0 (by decide) (hg _ wd_26) (fun _ h9 => h9) rfl dX9_factOf_104 ?_
        rw [hQ]
        exact W.iret (v := (nI v13_0)) hx hb hr (fun t ht hW9 => ⟨⟨(nI v13_0), (), rfl, (by unfold tfa; rw [if_neg (by omega), if_neg (by omega), if_neg (by omega), if_neg (by omega), if_neg (by omega), if_neg (by omega), if_pos (by omega)]; rw [cR_q (q := (some b_11)) hM10 rfl]; exact (cV_of (j := 0) hM13 rfl).symm), ⟨by rw [ht]; exact hP, hD⟩⟩, hS.F ht⟩) hS.2.2 dX9_factOf_107
    · refine lv_tableIn (tgt := 108) hx hb dX9_factOf_1 (by omega) (by omega) (by rw [hj2]; rfl) (by decide) ?_
      refine lv_aload_n hx hb dX9_factOf_108 rfl (lv_at hl 0 rfl) ?_
      obtain ⟨v14_0, v14_1, v14_2, v14_3, v14_4, v14_5, v14_6, v14_7, v14_8, v14_9, v14_10, v14_11, v14_12, v14_13, v14_14, v14_15, hM14, h14_0, h14_1, h14_4, h14_8⟩ := hW.open_9 ia
      refine pg_get (D := D) (ci := 9) (v := .ref v14_1) (C := RX9) (T := TX9) (N := 16) hx hb hg inG9 hown hK hP ia.1 hM14 rfl 1 (by decide) (hg _ wd_7) (fun _ h9 => h9) rfl dX9_factOf_109 ?_
      obtain ⟨v15_0, v15_1, v15_2, v15_3, hM15, h15_3⟩ := hW.open_4 h14_1
      have hPc : va_P D vwCl ([] ++ va_pl L M) s.heap := hP
      have hDc : va_D A ([] ++ va_pl L M) := hD
      have hFc : ∀ q, va_A ([] ++ va_pl L M) s.heap.size q → A q := pg_free hDc hS hA
      refine va_calli (va_runV (As := []) (rest := []) ⟨hx, hb, hml, hown, hg⟩ (e_isSilent l D cy K L M s.heap.size v14_1  hW h14_1) (cwV 0 hg (gV wd_27 wd_28 wd_29 wd_30 wd_31) rfl rfl rfl (by decide +kernel) ⟨(Nat.le_trans (Nat.le_of_ble_eq_true rfl) hRf), (Nat.le_trans (Nat.le_of_ble_eq_true rfl) hRl)⟩) ⟨PG.blind, pg_recv hK hP h14_1.1 hM15 rfl, fun U hU hW => ⟨rfl, PG.at hPc hK hDc hN hU hW⟩⟩ rfl rfl hl.1 rfl (lv_room (Nat.le_of_ble_eq_true rfl)) dX9_factOf_112 ⟨(Nat.le_trans (Nat.le_of_ble_eq_true rfl) hRc), (Nat.le_trans (Nat.le_of_ble_eq_true rfl) hRs)⟩) hS (fun q _ h => hFc q h) hFc (fun r_17 M_18 t H_16 locs ht hvm hw hB hz1 hk1 hS => ?_)
      have hp_19 := hw
      obtain ⟨hP1, hD1⟩ := hB
      rw [ht] at hP1
      have hP : va_P D vwCl ([] ++ va_pl L M) H_16 := hP1
      have hD : va_D A ([] ++ va_pl L M) := hD1.mono hFc
      rcases hp_19 with ⟨rfl, c_20⟩ | ⟨rfl, c_21⟩
      · have hz := rfl (a := 0)
        refine lv_if_eq (tgt := 122) hx hb dX9_factOf_115 (by decide) (fun c_22 => absurd c_22 (by decide)) (fun _ => ?_)
        refine lv_iconst (v := (-1)) hx hb dX9_factOf_118 (by decide) ?_
        refine lv_goto (tgt := 129) hx hb dX9_factOf_119 (by decide) ?_
        rw [hQ]
        exact W.iret (v := (-1)) hx hb hr (fun t ht hW9 => ⟨⟨(-1), (), rfl, (by unfold tfa; rw [if_neg (by omega), if_neg (by omega), if_neg (by omega), if_neg (by omega), if_neg (by omega), if_neg (by omega), if_neg (by omega), if_pos (by omega)]; rw [rA_of (j := 1) hM14 rfl, if_pos c_20]), ⟨by rw [ht]; exact hP, hD⟩⟩, hS.F ht⟩) hS.2.2 dX9_factOf_129
      · have hz := rfl (a := 0)
        refine lv_if_eq (tgt := 122) hx hb dX9_factOf_115 (by decide) (fun _ => ?_) (fun c_23 => absurd c_23 (by decide))
        refine lv_aload_n hx hb dX9_factOf_122 rfl (lv_at hl 0 rfl) ?_
        refine pg_get (D := D) (ci := 9) (v := .ref v14_1) (C := RX9) (T := TX9) (N := 16) hx hb hg inG9 hown hK hP ia.1 hM14 rfl 1 (by decide) (hg _ wd_7) (fun _ h9 => h9) rfl dX9_factOf_123 ?_
        refine pg_get (D := D) (ci := 4) (v := .int v15_1) (C := RX4) (T := TX4) (N := 4) hx hb hg inG4 hown hK hP h14_1.1 hM15 rfl 1 (by decide) (hg _ wd_32) (fun _ h9 => h9) rfl dX9_factOf_126 ?_
        rw [hQ]
        exact W.iret (v := v15_1) hx hb hr (fun t ht hW9 => ⟨⟨v15_1, (), rfl, (by unfold tfa; rw [if_neg (by omega), if_neg (by omega), if_neg (by omega), if_neg (by omega), if_neg (by omega), if_neg (by omega), if_neg (by omega), if_pos (by omega)]; rw [rA_of (j := 1) hM14 rfl, if_neg c_21]; exact (cV_of (j := 1) hM15 rfl).symm), ⟨by rw [ht]; exact hP, hD⟩⟩, hS.F ht⟩) hS.2.2 dX9_factOf_129
set_option maxHeartbeats 4000000 in
set_option maxRecDepth 100000 in
theorem x_tenure (l : Launch) (D : va_G) (cy : Nat → ClassId) (K : Kp) (L : List Nat) (M : Hp) (sz : Nat) (xa : Nat) (x0 : Nat) (x1 : Nat) (x2 : Nat) (x3 : Nat) (x4 : Nat) (x5 : Nat) (x6 : Nat) (x7 : Int32) (x8 : Nat) (x9 : Int32) (x10 : Int32) (k1 : Int32) (k2 : Int32) (k3 : Int32) (Bo : Nat → Nat × Nat) (T : Int) (PK : Nat → Int32) (PT : Nat → Int32) (SX : Nat → Nat → Int) (SY : Nat → Nat → Nat → Int32) (hW : WOK cy K L M) (i0 : isk K L x0 17 8) (b1 : x1 ≤ 8) (i2 : isk K L x2 19 40) (b3 : x3 ≤ 40) (i4 : isk K L x4 7 0) (i5 : isk K L x5 5 0) (i6 : isk K L x6 60 24) (i8 : isk K L x8 73 25) (hC : CX Bo K L x0 x1 T x3 PK PT SX SY M) (hSV : ∀ k, k < x1 → SV (SX k) (SY k)) (hHI : ∀ k, k < x1 → HI (SX k) (SY k)) (hT : (0 ≤ T ∧ T ≤ 900000)) : Met l yX11_tenure (wsM yX11_tenure cX11_tenure 6 (some .int)) ({ frames := 2, cells := 0, slots := 0, locals := 41 }) (va_Pc [.ref xa, .int k1, .int k2, .int k3] (PG D cy [(xa, (b11_1 x0 (nI x1) x2 (nI x3) x4 x5 x6 x7 x8 x9 x10))] L M sz)) (va_Qi (fun (r : Int32) (_ : Unit) => (r = anTn x1 PK SX SY k1 k2 k3)) (fun _ t => PQ D [(xa, (b11_1 x0 (nI x1) x2 (nI x3) x4 x5 x6 x7 x8 x9 x10))] L M (va_A ([(xa, (b11_1 x0 (nI x1) x2 (nI x3) x4 x5 x6 x7 x8 x9 x10))] ++ va_pl L M) sz) t) (va_A ([(xa, (b11_1 x0 (nI x1) x2 (nI x3) x4 x5 x6 x7 x8 x9 x10))] ++ va_pl L M) sz)) 0 0 (va_A ([(xa, (b11_1 x0 (nI x1) x2 (nI x3) x4 x5 x6 x7 x8 x9 x10))] ++ va_pl L M) sz) := by
  refine Met.ofW (cc := cX11_tenure) (maxL := 6) (ret := (some .int)) (by decide) rfl ?_
  intro p e s m args below meth c s₁ B hml hv
  obtain ⟨rfl, hsz, hP, hK, hD0, hN⟩ := hv
  have hx := B.exec
  have hb := B.bytes
  have hr := B.returns
  have hts := atoms_spec (ws := (wsM yX11_tenure cX11_tenure 6 (some .int))) B.pre
  have hg : ∀ w ∈ lw_good, w.before _ s = true := fun w h => hts w (List.mem_cons_of_mem _ h)
  have hown : s.vm.findClass RX11 = some m.cls := findClass_of_methodNamed B.named
  have hlocks := B.notSynchronized
  subst hsz
  have hD := hD0.self (sz := s.heap.size)
  generalize hAe : va_A ([(xa, (b11_1 x0 (nI x1) x2 (nI x3) x4 x5 x6 x7 x8 x9 x10))] ++ va_pl L M) s.heap.size = A at hD ⊢
  have hA : ∀ q : Nat, s.heap.size ≤ q → A q := fun q h => by rw [← hAe]; exact Or.inr h
  have hS : va_S A s.heap s.heap [] := va_S.rf
  have hl := lv_entry ([.ref xa, .int k1, .int k2, .int k3]) (n := 6) (Nat.le_of_ble_eq_true rfl)
  rw [lg_entry_eq]
  generalize (lg_sl ([.ref xa, .int k1, .int k2, .int k3]) ++ List.replicate (6 - (lg_sl ([.ref xa, .int k1, .int k2, .int k3])).length) Slot.unset).toArray = ls at hl ⊢
  refine W.nameQ (fun Q hQ => ?_)
  refine W.nameR (fun R hR => ?_)
  have hRf : 2 ≤ R.frames := by rw [hR]; exact Nat.le_of_ble_eq_true rfl
  have hRl : 41 ≤ R.locals := by rw [hR]; exact Nat.le_of_ble_eq_true rfl
  have hRc : 0 ≤ R.cells := by rw [hR]; exact Nat.le_of_ble_eq_true rfl
  have hRs : 0 ≤ R.slots := by rw [hR]; exact Nat.le_of_ble_eq_true rfl
  have hl : lv_has ls 6 [(0, .ref xa), (1, .int k1), (2, .int k2), (3, .int k3)] := hl
  have hW0 := hW
  refine lv_aload_n hx hb dX11_tenure_0 rfl (lv_at hl 0 rfl) ?_
  refine lv_iload_n hx hb dX11_tenure_1 rfl (lv_at hl 1 rfl) ?_
  have hPc : va_P D vwCl ([(xa, (b11_1 x0 (nI x1) x2 (nI x3) x4 x5 x6 x7 x8 x9 x10))] ++ va_pl L M) s.heap := hP
  have hDc : va_D A ([(xa, (b11_1 x0 (nI x1) x2 (nI x3) x4 x5 x6 x7 x8 x9 x10))] ++ va_pl L M) := hD
  have hFc : ∀ q, va_A ([(xa, (b11_1 x0 (nI x1) x2 (nI x3) x4 x5 x6 x7 x8 x9 x10))] ++ va_pl L M) s.heap.size q → A q := pg_free hDc hS hA
  refine va_callq (va_runV (As := [.int k1]) (rest := []) ⟨hx, hb, hml, hown, hg⟩ (e_houseAt l D cy K L M s.heap.size xa x0 x1 x2 x3 x4 x5 x6 x7 x8 x9 x10 k1 Bo T PK PT SX SY  hW i0 b1 i2 b3 i4 i5 i6 i8 hC) (cwV 1 hg (gV wd_340 wd_341 wd_342 wd_3 wd_343) rfl rfl rfl (by decide +kernel) ⟨(Nat.le_trans (Nat.le_of_ble_eq_true rfl) hRf), (Nat.le_trans (Nat.le_of_ble_eq_true rfl) hRl)⟩) ⟨PG.blind, va_recv hK hP (ci := 11) (q0 := 0) rfl rfl, fun U hU hW => ⟨rfl, PG.at hPc hK hDc hN hU hW⟩⟩ rfl rfl hl.1 rfl (lv_room (Nat.le_of_ble_eq_true rfl)) dX11_tenure_2 ⟨(Nat.le_trans (Nat.le_of_ble_eq_true rfl) hRc), (Nat.le_trans (Nat.le_of_ble_eq_true rfl) hRs)⟩) hS (fun q _ h => hFc q h) hFc (fun r_2 M_3 t H_1 locs ht hvm hw hB hz1 hk1 hS => ?_)
  have hp_4 := hw
  obtain ⟨hP1, hD1⟩ := hB
  rw [ht] at hP1
  have hP : va_P D vwCl ([(xa, (b11_1 x0 (nI x1) x2 (nI x3) x4 x5 x6 x7 x8 x9 x10))] ++ va_pl L M) H_1 := hP1
  have hD : va_D A ([(xa, (b11_1 x0 (nI x1) x2 (nI x3) x4 x5 x6 x7 x8 x9 x10))] ++ va_pl L M) := hD1.mono hFc
  obtain ⟨hp_4, hqx⟩ := hp_4
  rcases r_2 with _ | b_5
  · have hz := rfl (a := 0)
    refine lv_astoreN (lv' := [(4, .null), (0, .ref xa), (1, .int k1), (2, .int k2), (3, .int k3)]) hx hb dX11_tenure_5 hl (by decide) rfl (fun ls hl => ?_)
    refine lv_aloadN hx hb dX11_tenure_7 (lv_at hl 0 rfl) ?_
    refine lv_ifnonnullN hx hb dX11_tenure_9 ?_
    refine lv_null hx hb dX11_tenure_12 ?_
    refine lv_goto (tgt := 22) hx hb dX11_tenure_13 (by decide) ?_
    refine lv_astoreN (lv' := [(5, .null), (4, .null), (0, .ref xa), (1, .int k1), (2, .int k2), (3, .int k3)]) hx hb dX11_tenure_22 hl (by decide) rfl (fun ls hl => ?_)
    refine lv_aloadN hx hb dX11_tenure_24 (lv_at hl 0 rfl) ?_
    refine lv_ifnonnullN hx hb dX11_tenure_26 ?_
    refine lv_iconst (v := (-1)) hx hb dX11_tenure_29 (by decide) ?_
    refine lv_goto (tgt := 39) hx hb dX11_tenure_30 (by decide) ?_
    have hnh := hqx.2 rfl
    have hno : ¬ okTn x1 SX k1 k2 := fun q9 => by unfold okTn okH at q9; first | omega | (obtain ⟨⟨_, _⟩, _, _⟩ := q9; first | omega | contradiction)
    rw [hQ]
    exact W.iret (v := (-1)) hx hb hr (fun t ht hW9 => ⟨⟨(-1), (), rfl, (by unfold anTn; rw [if_neg hno]), ⟨by rw [ht]; exact hP, hD⟩⟩, hS.F ht⟩) hS.2.2 dX11_tenure_39
  · have hb_6 := hp_4 b_5 rfl
    refine lv_astore (lv' := [(4, .ref b_5), (0, .ref xa), (1, .int k1), (2, .int k2), (3, .int k3)]) hx hb dX11_tenure_5 hl (by decide) rfl (fun ls hl => ?_)
    obtain ⟨hr9, hb9⟩ := hqx.1 b_5 rfl
    have hck : ((k1 : Int32).toNatClampNeg : Int) = (k1 : Int32).toInt := clT (by omega)
    have hkn : (k1 : Int32).toNatClampNeg < x1 := by omega
    have hSM := hC.at hkn hb9
    have hSVk := hSV (k1 : Int32).toNatClampNeg hkn
    have hHIk := hHI (k1 : Int32).toNatClampNeg hkn
    have hV : VC Bo K L M M b_5 (cfx M b_5) (cax M b_5) := VC.rf b_5 hC.oc
    obtain ⟨v7_0, v7_1, v7_2, v7_3, v7_4, v7_5, v7_6, v7_7, v7_8, v7_9, v7_10, v7_11, v7_12, v7_13, v7_14, v7_15, v7_16, v7_17, v7_18, v7_19, hM7, h7_3, h7_4, h7_5, h7_6, h7_7, h7_8, h7_9, h7_10, h7_11, h7_12, h7_13, h7_16, h7_17, h7_18, h7_19⟩ := hW.open_2 hb_6
    have hA_8 : (cV 2 M b_5 0).toInt = (v7_0 : Int32).toInt := by rw [cV_of hM7 rfl]
    have hA_9 : (cV 2 M b_5 1).toInt = (v7_1 : Int32).toInt := by rw [cV_of hM7 rfl]
    have hA_10 : (cV 2 M b_5 2).toInt = (v7_2 : Int32).toInt := by rw [cV_of hM7 rfl]
    have hA_11 : (cV 2 M b_5 4).toInt = ((v7_4 : Nat) : Int) := by rw [cV_of hM7 rfl]; exact nI_toInt (by omega)
    have hA_12 : (cV 2 M b_5 5).toInt = ((v7_5 : Nat) : Int) := by rw [cV_of hM7 rfl]; exact nI_toInt (by omega)
    have hA_13 : (cV 2 M b_5 9).toInt = ((v7_9 : Nat) : Int) := by rw [cV_of hM7 rfl]; exact nI_toInt (by omega)
    have hA_14 : (cV 2 M b_5 11).toInt = ((v7_11 : Nat) : Int) := by rw [cV_of hM7 rfl]; exact nI_toInt (by omega)
    have hA_15 : (cV 2 M b_5 15).toInt = (v7_15 : Int32).toInt := by rw [cV_of hM7 rfl]
    have hq0 : (cV 2 M b_5 1).toInt = SX (k1 : Int32).toNatClampNeg 0 := hSM.x0
    have hq1 : (cV 2 M b_5 2).toInt = SX (k1 : Int32).toNatClampNeg 1 := hSM.x1
    have hq10 : (cV 2 M b_5 9).toInt = SX (k1 : Int32).toNatClampNeg 10 := hSM.x10
    have hq11 : (cV 2 M b_5 11).toInt = SX (k1 : Int32).toNatClampNeg 11 := hSM.x11
    have hq12 : (cV 2 M b_5 4).toInt = SX (k1 : Int32).toNatClampNeg 12 := hSM.x12
    have hq13 : (cV 2 M b_5 5).toInt = SX (k1 : Int32).toNatClampNeg 13 := hSM.x13
    have hq14 : (cV 1 M v7_16 3).toInt = SX (k1 : Int32).toNatClampNeg 14 := by have h9 := hSM.x14; rw [← h9]; show _ = (cV 1 M (rA 2 M b_5 16) 3).toInt; rw [rA_of (j := 16) hM7 rfl]
    have hq15 : (cV 1 M v7_17 3).toInt = SX (k1 : Int32).toNatClampNeg 15 := by have h9 := hSM.x15; rw [← h9]; show _ = (cV 1 M (rA 2 M b_5 17) 3).toInt; rw [rA_of (j := 17) hM7 rfl]
    have hq16 : (cV 10 M v7_18 2).toInt = SX (k1 : Int32).toNatClampNeg 16 := by have h9 := hSM.x16; rw [← h9]; show _ = (cV 10 M (rA 2 M b_5 18) 2).toInt; rw [rA_of (j := 18) hM7 rfl]
    have hq19 : (cV 10 M v7_18 1).toInt = cfx M b_5 19 := by show _ = (cV 10 M (rA 2 M b_5 18) 1).toInt; rw [rA_of (j := 18) hM7 rfl]
    have hun := hSM.un
    have hl16 : (ALc (M (rA 1 M v7_16 1)) : Int) = 120 := by have h9 := hC.oc.l16 hW hb_6; rw [rA_of (j := 16) hM7 rfl] at h9; omega
    have hl17 : (ALc (M (rA 1 M v7_17 1)) : Int) = 20 := by have h9 := hC.oc.l17 hW hb_6; rw [rA_of (j := 17) hM7 rfl] at h9; omega
    have hbd0 := hSVk.b0
    have hbd1 := hSVk.b1
    have hbd10 := hSVk.b10
    have hbd11 := hSVk.b11
    have hbd12 := hSVk.b12
    have hbd13 := hSVk.b13
    have hbd14 := hSVk.b14
    have hbd15 := hSVk.b15
    have hbd16 := hSVk.b16
    have hqx14 : cfx M b_5 14 = SX (k1 : Int32).toNatClampNeg 14 := hSM.x14
    have hqx15 : cfx M b_5 15 = SX (k1 : Int32).toNatClampNeg 15 := hSM.x15
    have hqx16 : cfx M b_5 16 = SX (k1 : Int32).toNatClampNeg 16 := hSM.x16
    refine lv_aload hx hb dX11_tenure_7 (lv_at hl 0 rfl) ?_
    refine lv_ifnonnull (tgt := 16) hx hb dX11_tenure_9 (by decide) ?_
    refine lv_aload hx hb dX11_tenure_16 (lv_at hl 0 rfl) ?_
    refine lv_iload_n hx hb dX11_tenure_18 rfl (lv_at hl 3 rfl) ?_
    have hPc : va_P D vwCl ([] ++ va_pl L M) H_1 := hP.part (cx := []) [] rfl
    have hDc : va_D A ([] ++ va_pl L M) := hD.part (cx := []) [] (by decide) rfl
    have hFc : ∀ q, va_A ([] ++ va_pl L M) H_1.size q → A q := pg_free hDc hS hA
    refine va_callq (va_runV (As := [.int k2]) (rest := []) ⟨hx, hb, hml, hown, hg⟩ (e_X2_tenureAt l D cy K L M H_1.size b_5 k2  hW hb_6) (cwV 1 hg (gV wd_405 wd_55 wd_56 wd_57 wd_58) rfl rfl rfl (by decide +kernel) ⟨(Nat.le_trans (Nat.le_of_ble_eq_true rfl) hRf), (Nat.le_trans (Nat.le_of_ble_eq_true rfl) hRl)⟩) ⟨PG.blind, pg_recv hK hP hb_6.1 hM7 rfl, fun U hU hW => ⟨rfl, PG.at hPc hK hDc hN hU hW⟩⟩ rfl rfl hl.1 rfl (lv_room (Nat.le_of_ble_eq_true rfl)) dX11_tenure_19 ⟨(Nat.le_trans (Nat.le_of_ble_eq_true rfl) hRc), (Nat.le_trans (Nat.le_of_ble_eq_true rfl) hRs)⟩) hS (fun q _ h => hFc q h) hFc (fun r_17 M_18 t H_16 locs ht hvm hw hB hz1 hk1 hS => ?_)
    have hp_19 := hw
    obtain ⟨hP1, hD1⟩ := hB
    rw [ht] at hP1
    obtain ⟨hP, hD⟩ := va_joinP (X := [(xa, (b11_1 x0 (nI x1) x2 (nI x3) x4 x5 x6 x7 x8 x9 x10))]) (cx := []) (wr := [(xa, (b11_1 x0 (nI x1) x2 (nI x3) x4 x5 x6 x7 x8 x9 x10))]) (rx := []) (pl := va_pl L M) (pl1 := va_pl L M) hP hD [] [0] rfl rfl (by decide) (by decide) hk1 hFc hP1 hD1
    have hP : va_P D vwCl ([(xa, (b11_1 x0 (nI x1) x2 (nI x3) x4 x5 x6 x7 x8 x9 x10))] ++ va_pl L M) H_16 := hP
    have hD : va_D A ([(xa, (b11_1 x0 (nI x1) x2 (nI x3) x4 x5 x6 x7 x8 x9 x10))] ++ va_pl L M) := hD
    obtain ⟨hp_19, hqx⟩ := hp_19
    rcases r_17 with _ | b_20
    · have hz := rfl (a := 0)
      have hnt : ¬ (0 ≤ (k2 : Int32).toInt ∧ (k2 : Int32).toInt < SX (k1 : Int32).toNatClampNeg 10) := fun w9 => by
        have hct : ((k2 : Int32).toNatClampNeg : Int) = (k2 : Int32).toInt := clT w9.1
        rcases hqx.2 rfl with q9 | q9
        · exact q9 (by omega)
        · have h9 := (hSM.tn (k2 : Int32).toNatClampNeg (by omega)).mpr (by omega)
          rw [tn0 q9 (by omega)] at h9
          exact absurd h9 (by decide)
      refine lv_astoreN (lv' := [(5, .null), (4, .ref b_5), (0, .ref xa), (1, .int k1), (2, .int k2), (3, .int k3)]) hx hb dX11_tenure_22 hl (by decide) rfl (fun ls hl => ?_)
      refine lv_aloadN hx hb dX11_tenure_24 (lv_at hl 0 rfl) ?_
      refine lv_ifnonnullN hx hb dX11_tenure_26 ?_
      refine lv_iconst (v := (-1)) hx hb dX11_tenure_29 (by decide) ?_
      refine lv_goto (tgt := 39) hx hb dX11_tenure_30 (by decide) ?_
      have hno : ¬ okTn x1 SX k1 k2 := fun q9 => by unfold okTn okH at q9; first | omega | (obtain ⟨⟨_, _⟩, _, _⟩ := q9; first | omega | contradiction)
      rw [hQ]
      exact W.iret (v := (-1)) hx hb hr (fun t ht hW9 => ⟨⟨(-1), (), rfl, (by unfold anTn; rw [if_neg hno]), ⟨by rw [ht]; exact hP, hD⟩⟩, hS.F ht⟩) hS.2.2 dX11_tenure_39
    · have hb_21 := hp_19 b_20 rfl
      obtain ⟨htc, hst⟩ := hqx.1 _ rfl
      have hct : ((k2 : Int32).toNatClampNeg : Int) = (k2 : Int32).toInt := clT (by omega)
      have htn : (k2 : Int32).toNatClampNeg < 24 := by omega
      have hlt := lk_te hst htn
      have hte := hSM.te (k2 : Int32).toNatClampNeg (by omega)
      have ht21 : (SY (k1 : Int32).toNatClampNeg 21 (k2 : Int32).toNatClampNeg).toInt = (cV 9 M b_20 3).toInt := by rw [← hte.2.2.1, hlt.2.2.1]
      have ht22 : (SY (k1 : Int32).toNatClampNeg 22 (k2 : Int32).toNatClampNeg).toInt = (cV 9 M b_20 5).toInt := by rw [← hte.2.2.2.1, hlt.2.2.2.1]
      have htm : cV 9 M b_20 0 = k2 := by rw [hC.oc.nm b_5 hb_6 _ b_20 htn hst]; exact (i32_of (by omega) (by omega)).symm
      refine lv_astore (lv' := [(5, .ref b_20), (4, .ref b_5), (0, .ref xa), (1, .int k1), (2, .int k2), (3, .int k3)]) hx hb dX11_tenure_22 hl (by decide) rfl (fun ls hl => ?_)
      refine lv_aload hx hb dX11_tenure_24 (lv_at hl 0 rfl) ?_
      refine lv_ifnonnull (tgt := 33) hx hb dX11_tenure_26 (by decide) ?_
      refine lv_aload hx hb dX11_tenure_33 (lv_at hl 0 rfl) ?_
      refine lv_iload_n hx hb dX11_tenure_35 rfl (lv_at hl 5 rfl) ?_
      obtain ⟨v22_0, v22_1, v22_2, v22_3, v22_4, v22_5, v22_6, v22_7, v22_8, v22_9, v22_10, v22_11, v22_12, v22_13, v22_14, v22_15, hM22, h22_0, h22_1, h22_4, h22_8⟩ := hW.open_9 hb_21
      have hPc : va_P D vwCl ([] ++ va_pl L M) H_16 := hP.part (cx := []) [] rfl
      have hDc : va_D A ([] ++ va_pl L M) := hD.part (cx := []) [] (by decide) rfl
      have hFc : ∀ q, va_A ([] ++ va_pl L M) H_16.size q → A q := pg_free hDc hS hA
      refine va_calli (va_runV (As := [.int k3]) (rest := []) ⟨hx, hb, hml, hown, hg⟩ (e_factOf l D cy K L M H_16.size b_20 k3  hW hb_21) (cwV 1 hg (gV wd_491 wd_492 wd_493 wd_52 wd_494) rfl rfl rfl (by decide +kernel) ⟨(Nat.le_trans (Nat.le_of_ble_eq_true rfl) hRf), (Nat.le_trans (Nat.le_of_ble_eq_true rfl) hRl)⟩) ⟨PG.blind, pg_recv hK hP hb_21.1 hM22 rfl, fun U hU hW => ⟨rfl, PG.at hPc hK hDc hN hU hW⟩⟩ rfl rfl hl.1 rfl (lv_room (Nat.le_of_ble_eq_true rfl)) dX11_tenure_36 ⟨(Nat.le_trans (Nat.le_of_ble_eq_true rfl) hRc), (Nat.le_trans (Nat.le_of_ble_eq_true rfl) hRs)⟩) hS (fun q _ h => hFc q h) hFc (fun r_24 M_25 t H_23 locs ht hvm hw hB hz1 hk1 hS => ?_)
      have hp_26 := hw
      obtain ⟨hP1, hD1⟩ := hB
      rw [ht] at hP1
      obtain ⟨hP, hD⟩ := va_joinP (X := [(xa, (b11_1 x0 (nI x1) x2 (nI x3) x4 x5 x6 x7 x8 x9 x10))]) (cx := []) (wr := [(xa, (b11_1 x0 (nI x1) x2 (nI x3) x4 x5 x6 x7 x8 x9 x10))]) (rx := []) (pl := va_pl L M) (pl1 := va_pl L M) hP hD [] [0] rfl rfl (by decide) (by decide) hk1 hFc hP1 hD1
      have hP : va_P D vwCl ([(xa, (b11_1 x0 (nI x1) x2 (nI x3) x4 x5 x6 x7 x8 x9 x10))] ++ va_pl L M) H_23 := hP
      have hD : va_D A ([(xa, (b11_1 x0 (nI x1) x2 (nI x3) x4 x5 x6 x7 x8 x9 x10))] ++ va_pl L M) := hD
      obtain rfl := hp_26
      have hA_27 : (cV 9 M b_20 0).toInt = ((v22_0 : Nat) : Int) := by rw [cV_of hM22 rfl]; exact nI_toInt (by omega)
      have hA_28 : (cV 9 M b_20 2).toInt = (v22_2 : Int32).toInt := by rw [cV_of hM22 rfl]
      have hA_29 : (cV 9 M b_20 3).toInt = (v22_3 : Int32).toInt := by rw [cV_of hM22 rfl]
      have hA_30 : (cV 9 M b_20 4).toInt = (v22_4 : Int32).toInt := by rw [cV_of hM22 rfl]
      have hA_31 : (cV 9 M b_20 5).toInt = (v22_5 : Int32).toInt := by rw [cV_of hM22 rfl]
      have hA_32 : (cV 9 M b_20 6).toInt = (v22_6 : Int32).toInt := by rw [cV_of hM22 rfl]
      have hA_33 : (cV 9 M b_20 7).toInt = (v22_7 : Int32).toInt := by rw [cV_of hM22 rfl]
      have hyes : okTn x1 SX k1 k2 := by unfold okTn okH; refine ⟨⟨?_, ?_⟩, ?_, ?_⟩ <;> first | omega | assumption
      rw [hQ]
      exact W.iret (v := (tfa M b_20 k3)) hx hb hr (fun t ht hW9 => ⟨⟨(tfa M b_20 k3), (), rfl, (by unfold anTn; rw [if_pos hyes]; exact tfa_S hSM hst htn (by omega)), ⟨by rw [ht]; exact hP, hD⟩⟩, hS.F ht⟩) hS.2.2 dX11_tenure_39
set_option maxHeartbeats 4000000 in
set_option maxRecDepth 100000 in
theorem z_tenure (l : Launch) (D : va_G) (cy : Nat → ClassId) (K : Kp) (L : List Nat) (M : Hp) (sz : Nat) (za : Nat) (z0 : Int32) (z1 : Nat) (z2 : Nat) (z3 : Nat) (z4 : Int32) (z5 : Int32) (z6 : Nat) (z7 : Nat) (z8 : Nat) (z9 : Nat) (z10 : Nat) (z11 : Nat) (z12 : Nat) (z13 : Nat) (z14 : Nat) (z15 : Nat) (z16 : Nat) (z17 : Nat) (z18 : Int32) (z19 : Nat) (k1 : Int32) (k2 : Int32) (k3 : Int32) (SX : Nat → Nat → Int) (SY : Nat → Nat → Nat → Int32) (PK : Nat → Int32) (PT : Nat → Int32) (hW : WOM cy K L M) (i1 : isk K L z1 23 8) (b2 : z2 ≤ 8) (b3 : z3 ≤ 40) (i6 : isk K L z6 47 40) (i7 : isk K L z7 48 40) (i8 : isk K L z8 49 8) (i9 : isk K L z9 50 8) (b10 : z10 ≤ 8) (i11 : isk K L z11 32 24) (i12 : isk K L z12 14 24) (i13 : isk K L z13 97 24) (i14 : isk K L z14 98 24) (i15 : isk K L z15 99 24) (b16 : z16 ≤ 24) (i17 : isk K L z17 14 24) (i19 : isk K L z19 15 25) (hGI : GI K L z1 z2 M) (hZS : ZSx z1 z2 SX SY M) (hZP : ZP z6 z7 PK PT M) : Met l yX13_tenure (wsM yX13_tenure cX13_tenure 6 (some .int)) ({ frames := 2, cells := 0, slots := 0, locals := 43 }) (va_Pc [.ref za, .int k1, .int k2, .int k3] (PG D cy [(za, (b13_0 z0 z1 (nI z2) (nI z3) z4 z5 z6 z7 z8 z9 (nI z10) z11 z12 z13 z14 z15 (nI z16) z17 z18 z19))] L M sz)) (va_Qi (fun (r : Int32) (_ : Unit) => (r = anTn z2 PK SX SY k1 k2 k3)) (fun _ t => PQ D [(za, (b13_0 0 z1 (nI z2) (nI z3) z4 z5 z6 z7 z8 z9 (nI z10) z11 z12 z13 z14 z15 (nI z16) z17 z18 z19))] L M (va_A ([(za, (b13_0 z0 z1 (nI z2) (nI z3) z4 z5 z6 z7 z8 z9 (nI z10) z11 z12 z13 z14 z15 (nI z16) z17 z18 z19))] ++ va_pl L M) sz) t) (va_A ([(za, (b13_0 z0 z1 (nI z2) (nI z3) z4 z5 z6 z7 z8 z9 (nI z10) z11 z12 z13 z14 z15 (nI z16) z17 z18 z19))] ++ va_pl L M) sz)) 0 0 (va_A ([(za, (b13_0 z0 z1 (nI z2) (nI z3) z4 z5 z6 z7 z8 z9 (nI z10) z11 z12 z13 z14 z15 (nI z16) z17 z18 z19))] ++ va_pl L M) sz) := by
  refine Met.ofW (cc := cX13_tenure) (maxL := 6) (ret := (some .int)) (by decide) rfl ?_
  intro p e s m args below meth c s₁ B hml hv
  obtain ⟨rfl, hsz, hP, hK, hD0, hN⟩ := hv
  have hx := B.exec
  have hb := B.bytes
  have hr := B.returns
  have hts := atoms_spec (ws := (wsM yX13_tenure cX13_tenure 6 (some .int))) B.pre
  have hg : ∀ w ∈ lw_good, w.before _ s = true := fun w h => hts w (List.mem_cons_of_mem _ h)
  have hown : s.vm.findClass RX13 = some m.cls := findClass_of_methodNamed B.named
  have hlocks := B.notSynchronized
  subst hsz
  have hD := hD0.self (sz := s.heap.size)
  generalize hAe : va_A ([(za, (b13_0 z0 z1 (nI z2) (nI z3) z4 z5 z6 z7 z8 z9 (nI z10) z11 z12 z13 z14 z15 (nI z16) z17 z18 z19))] ++ va_pl L M) s.heap.size = A at hD ⊢
  have hA : ∀ q : Nat, s.heap.size ≤ q → A q := fun q h => by rw [← hAe]; exact Or.inr h
  have hS : va_S A s.heap s.heap [] := va_S.rf
  have hl := lv_entry ([.ref za, .int k1, .int k2, .int k3]) (n := 6) (Nat.le_of_ble_eq_true rfl)
  rw [lg_entry_eq]
  generalize (lg_sl ([.ref za, .int k1, .int k2, .int k3]) ++ List.replicate (6 - (lg_sl ([.ref za, .int k1, .int k2, .int k3])).length) Slot.unset).toArray = ls at hl ⊢
  refine W.nameQ (fun Q hQ => ?_)
  refine W.nameR (fun R hR => ?_)
  have hRf : 2 ≤ R.frames := by rw [hR]; exact Nat.le_of_ble_eq_true rfl
  have hRl : 43 ≤ R.locals := by rw [hR]; exact Nat.le_of_ble_eq_true rfl
  have hRc : 0 ≤ R.cells := by rw [hR]; exact Nat.le_of_ble_eq_true rfl
  have hRs : 0 ≤ R.slots := by rw [hR]; exact Nat.le_of_ble_eq_true rfl
  have hl : lv_has ls 6 [(0, .ref za), (1, .int k1), (2, .int k2), (3, .int k3)] := hl
  have hW0 := hW
  refine lv_aload_n hx hb dX13_tenure_0 rfl (lv_at hl 0 rfl) ?_
  refine lv_iconst (v := 0) hx hb dX13_tenure_1 (by decide) ?_
  refine va_put (D := D) (ci := 13) (v := .int 0) (ty := .int) (C := RX13) (T := TX13) (N := 20) hx hb hg inG13 tyX13 tyX13_ok nmX13 hown hK hP hD hS 0 rfl rfl 0 (by decide) (hg _ wd_720) (fun _ h9 => h9) rfl (by decide +kernel) rfl rfl (Nat.le_of_ble_eq_true rfl) dX13_tenure_2 (fun H_1 locs hP hD hS => ?_)
  have hP : va_P D vwCl ([(za, (b13_0 0 z1 (nI z2) (nI z3) z4 z5 z6 z7 z8 z9 (nI z10) z11 z12 z13 z14 z15 (nI z16) z17 z18 z19))] ++ va_pl L M) H_1 := hP
  have hD : va_D A ([(za, (b13_0 0 z1 (nI z2) (nI z3) z4 z5 z6 z7 z8 z9 (nI z10) z11 z12 z13 z14 z15 (nI z16) z17 z18 z19))] ++ va_pl L M) := hD
  refine lv_aload_n hx hb dX13_tenure_5 rfl (lv_at hl 0 rfl) ?_
  refine lv_iload_n hx hb dX13_tenure_6 rfl (lv_at hl 1 rfl) ?_
  refine lv_iload_n hx hb dX13_tenure_7 rfl (lv_at hl 2 rfl) ?_
  have hPc : va_P D vwCl ([(za, (b13_0 0 z1 (nI z2) (nI z3) z4 z5 z6 z7 z8 z9 (nI z10) z11 z12 z13 z14 z15 (nI z16) z17 z18 z19))] ++ va_pl L M) H_1 := hP
  have hDc : va_D A ([(za, (b13_0 0 z1 (nI z2) (nI z3) z4 z5 z6 z7 z8 z9 (nI z10) z11 z12 z13 z14 z15 (nI z16) z17 z18 z19))] ++ va_pl L M) := hD
  have hFc : ∀ q, va_A ([(za, (b13_0 0 z1 (nI z2) (nI z3) z4 z5 z6 z7 z8 z9 (nI z10) z11 z12 z13 z14 z15 (nI z16) z17 z18 z19))] ++ va_pl L M) H_1.size q → A q := pg_free hDc hS hA
  refine va_calli (va_runV (As := [.int k1, .int k2]) (rest := []) ⟨hx, hb, hml, hown, hg⟩ (f_isTenure l D cy K L M H_1.size za 0 z1 z2 z3 z4 z5 z6 z7 z8 z9 z10 z11 z12 z13 z14 z15 z16 z17 z18 z19 k1 k2 SX SY  hW i1 b2 b3 i6 i7 i8 i9 b10 i11 i12 i13 i14 i15 b16 i17 i19 hZS) (cwV 2 hg (gV wd_740 wd_741 wd_742 wd_717 wd_743) rfl rfl rfl (by decide +kernel) ⟨(Nat.le_trans (Nat.le_of_ble_eq_true rfl) hRf), (Nat.le_trans (Nat.le_of_ble_eq_true rfl) hRl)⟩) ⟨PG.blind, va_recv hK hP (ci := 13) (q0 := 0) rfl rfl, fun U hU hW => ⟨rfl, PG.at hPc hK hDc hN hU hW⟩⟩ rfl rfl hl.1 rfl (lv_room (Nat.le_of_ble_eq_true rfl)) dX13_tenure_8 ⟨(Nat.le_trans (Nat.le_of_ble_eq_true rfl) hRc), (Nat.le_trans (Nat.le_of_ble_eq_true rfl) hRs)⟩) hS (fun q _ h => hFc q h) hFc (fun r_3 M_4 t H_2 locs ht hvm hw hB hz1 hk1 hS => ?_)
  have hp_5 := hw
  obtain ⟨hP1, hD1⟩ := hB
  rw [ht] at hP1
  have hP : va_P D vwCl ([(za, (b13_0 0 z1 (nI z2) (nI z3) z4 z5 z6 z7 z8 z9 (nI z10) z11 z12 z13 z14 z15 (nI z16) z17 z18 z19))] ++ va_pl L M) H_2 := hP1
  have hD : va_D A ([(za, (b13_0 0 z1 (nI z2) (nI z3) z4 z5 z6 z7 z8 z9 (nI z10) z11 z12 z13 z14 z15 (nI z16) z17 z18 z19))] ++ va_pl L M) := hD1.mono hFc
  rcases hp_5 with ⟨rfl, c_6, c_7, c_8, c_9, c_10⟩ | ⟨rfl, c_11⟩
  · have hz := rfl (a := 0)
    refine lv_if_ne (tgt := 16) hx hb dX13_tenure_11 (by decide) (fun _ => ?_) (fun c_12 => absurd c_12 (by decide))
    refine lv_aload_n hx hb dX13_tenure_16 rfl (lv_at hl 0 rfl) ?_
    refine va_get (D := D) (ci := 13) (v := .ref z1) (C := RX13) (T := TX13) (N := 20) hx hb hg inG13 hown hK hP 0 rfl rfl 1 (by decide) (hg _ wd_739) (fun _ h9 => h9) rfl dX13_tenure_17 ?_
    refine lv_iload_n hx hb dX13_tenure_20 rfl (lv_at hl 1 rfl) ?_
    obtain ⟨f13, hM13, hf13⟩ := hW.open_23 i1
    have hi_14 : vp_in k1 8 := (inbW (a := z2) (by omega) (inb k1 z2 (by omega) c_7 c_8))
    refine pg_aldq hx hb hK hP i1.1 9 hM13 rfl hi_14 dX13_tenure_21 ?_
    obtain ⟨b15, eb_16, hb_17⟩ := hf13 _ (vp_lt hi_14)
    rw [eb_16]
    have hact : ACT z1 z2 b15 M := ⟨(k1 : Int32).toNatClampNeg, vp_lt (inb k1 z2 (by omega) c_7 c_8), by rw [show RFc (M z1) = f13 from by rw [hM13]; rfl]; exact eb_16⟩
    have hAT := GI.at hGI hact
    have hV : VW K L M M b15 (fx M b15) (ax M b15) := VW.rf b15 hGI.2.2.2
    refine lv_astore (lv' := [(4, .ref b15), (0, .ref za), (1, .int k1), (2, .int k2), (3, .int k3)]) hx hb dX13_tenure_22 hl (by decide) rfl (fun ls hl => ?_)
    have hb9 : RFc (M z1) (k1 : Int32).toNatClampNeg = some b15 := by rw [show RFc (M z1) = f13 from by rw [hM13]; rfl]; exact eb_16
    have hkn : (k1 : Int32).toNatClampNeg < z2 := vp_lt (inb k1 z2 (by omega) c_7 c_8)
    have hZk := hZS _ b15 hkn hb9
    have hz0 : fx M b15 0 = SX (k1 : Int32).toNatClampNeg 0 := congrFun hZk.1 0
    have hz1 : fx M b15 1 = SX (k1 : Int32).toNatClampNeg 1 := congrFun hZk.1 1
    have hz10 : fx M b15 10 = SX (k1 : Int32).toNatClampNeg 10 := congrFun hZk.1 10
    have hz11 : fx M b15 11 = SX (k1 : Int32).toNatClampNeg 11 := congrFun hZk.1 11
    have hz12 : fx M b15 12 = SX (k1 : Int32).toNatClampNeg 12 := congrFun hZk.1 12
    have hz13 : fx M b15 13 = SX (k1 : Int32).toNatClampNeg 13 := congrFun hZk.1 13
    have hz14 : fx M b15 14 = SX (k1 : Int32).toNatClampNeg 14 := congrFun hZk.1 14
    have hz15 : fx M b15 15 = SX (k1 : Int32).toNatClampNeg 15 := congrFun hZk.1 15
    have hz16 : fx M b15 16 = SX (k1 : Int32).toNatClampNeg 16 := congrFun hZk.1 16
    obtain ⟨fs18, hM18, hn18, hl18⟩ := hW.open_12 hb_17
    obtain ⟨v19, hv19, hc19⟩ : ∃ v : Nat, fs18[10]? = some (.int (nI v) : Value) ∧ v ≤ 24 := hl18 10 (by decide)
    have hx10 : (fx M b15 10) = ((v19 : Nat) : Int) := (congrFun hV.2.1 10).symm.trans ((fx_of hM18 rfl hv19).trans (nI_toInt (by omega)))
    refine lv_aload_n hx hb dX13_tenure_24 rfl (lv_at hl 1 rfl) ?_
    refine va_get (D := D) (ci := 13) (v := .ref z6) (C := RX13) (T := TX13) (N := 20) hx hb hg inG13 hown hK hP 0 rfl rfl 6 (by decide) (hg _ wd_719) (fun _ h9 => h9) rfl dX13_tenure_25 ?_
    refine lv_aload hx hb dX13_tenure_28 (lv_at hl 0 rfl) ?_
    obtain ⟨v20, hv20, hc20⟩ : ∃ v : Nat, fs18[19]? = some (.ref v : Value) ∧ isk K L v 30 24 := hl18 19 (by decide)
    refine pg_getN (D := D) (ci := 12) (v := .ref v20) (C := RX12) (T := TX12) (N := 51) hx hb hg inG12 hown hK hP hb_17.1 hM18 rfl 19 (by decide) (hN.use (Cond.fieldLinkNest RX13 72 RX12 "who" "[I" RX13) 28 rfl rfl) (fun _ h9 => h9) hv20 dX13_tenure_30 ?_
    refine lv_iload_n hx hb dX13_tenure_33 rfl (lv_at hl 3 rfl) ?_
    obtain ⟨f21, hM21, hf21⟩ := hW.open_30 hc20
    have hi_22 : vp_in k2 24 := (inb k2 24 (by omega) c_9 c_10)
    refine pg_iald hx hb hK hP hc20.1 0 hM21 rfl hi_22 dX13_tenure_34 ?_
    have hp_23 := hf21 _ (vp_lt hi_22)
    obtain ⟨c_24, hc_25, ec_26⟩ := hp_23
    rw [ec_26]
    have t19e : SY (k1 : Int32).toNatClampNeg 19 (k2 : Int32).toNatClampNeg = (nI c_24) := by rw [← hZk.2, ax_of hM18 (by decide) hv20 hM21]; exact ec_26
    have t19 : (SY (k1 : Int32).toNatClampNeg 19 (k2 : Int32).toNatClampNeg).toInt = ((c_24 : Nat) : Int) := by rw [t19e]; exact (nI_toInt (by omega))
    obtain ⟨f27, hM27, hf27⟩ := hW.open_47 i6
    have hi_28 : vp_in (nI c_24) 40 := (inbN c_24 40 (by omega) (by omega))
    refine pg_iald hx hb hK hP i6.1 0 hM27 rfl hi_28 dX13_tenure_35 ?_
    have hp_29 := hf27 _ (vp_lt hi_28)
    obtain ⟨c_30, hc_31, ec_32⟩ := hp_29
    rw [ec_32]
    have hPk : PK ((nI c_24) : Int32).toNatClampNeg = (nI c_30) := by
      have h9 := ec_32
      rw [← hZP.1, show IFc (M z6) = f27 from by rw [hM27]; rfl]
      exact h9
    refine lv_istore (lv' := [(5, .int (nI c_30)), (4, .ref b15), (0, .ref za), (1, .int k1), (2, .int k2), (3, .int k3)]) hx hb dX13_tenure_36 hl (by decide) rfl (fun ls hl => ?_)
    refine lv_iload_n hx hb dX13_tenure_38 rfl (lv_at hl 5 rfl) ?_
    by_cases hout : (k3 : Int32).toInt < 0 ∨ 7 < (k3 : Int32).toInt
    · refine lv_tableOut (tgt := 182) hx hb dX13_tenure_39 hout (by decide) ?_
      refine lv_iconst (v := (-1)) hx hb dX13_tenure_182 (by decide) ?_
      have hI_34 : (0 : Int) ≤ (k1 : Int32).toInt := inltI rfl rfl c_7
      have hI_35 : (k1 : Int32).toInt < ((z2 : Nat) : Int) := inleI (nI_toInt (by omega)) rfl c_8
      have hI_36 : (0 : Int) ≤ (k2 : Int32).toInt := inltI rfl rfl c_9
      have hI_37 : (k2 : Int32).toInt < (24 : Int) := inleI rfl rfl c_10
      have hyes : okTn z2 SX k1 k2 := by unfold okTn okH; refine ⟨⟨?_, ?_⟩, ?_, ?_⟩ <;> first | omega | assumption
      rw [hQ]
      exact W.iret (v := (-1)) hx hb hr (fun t ht hW9 => ⟨⟨(-1), (), rfl, (by unfold anTn; rw [if_pos hyes]; unfold tfS; rw [if_neg (by omega), if_neg (by omega), if_neg (by omega), if_neg (by omega), if_neg (by omega), if_neg (by omega), if_neg (by omega), if_neg (by omega)]), ⟨by rw [ht]; exact hP, hD⟩⟩, hS.F ht⟩) hS.2.2 dX13_tenure_183
    · obtain ⟨j_33, hj, hj2⟩ : ∃ j : Nat, j ≤ 7 ∧ (k3 : Int32).toInt = (j : Int) := ⟨(k3 : Int32).toInt.toNat, by omega, by omega⟩
      rcases (show j_33 = 0 ∨ j_33 = 1 ∨ j_33 = 2 ∨ j_33 = 3 ∨ j_33 = 4 ∨ j_33 = 5 ∨ j_33 = 6 ∨ j_33 = 7 by omega) with rfl | rfl | rfl | rfl | rfl | rfl | rfl | rfl
      · refine lv_tableIn (tgt := 84) hx hb dX13_tenure_39 (by omega) (by omega) (by rw [hj2]; rfl) (by decide) ?_
        refine lv_aload hx hb dX13_tenure_84 (lv_at hl 1 rfl) ?_
        refine pg_getN (D := D) (ci := 12) (v := .ref v20) (C := RX12) (T := TX12) (N := 51) hx hb hg inG12 hown hK hP hb_17.1 hM18 rfl 19 (by decide) (hN.use (Cond.fieldLinkNest RX13 72 RX12 "who" "[I" RX13) 28 rfl rfl) (fun _ h9 => h9) hv20 dX13_tenure_86 ?_
        refine lv_iload_n hx hb dX13_tenure_89 rfl (lv_at hl 4 rfl) ?_
        refine pg_iald hx hb hK hP hc20.1 0 hM21 rfl (inb k2 24 (by omega) c_9 c_10) dX13_tenure_90 ?_
        rw [ec_26]
        have q19e : SY (k1 : Int32).toNatClampNeg 19 (k2 : Int32).toNatClampNeg = (nI c_24) := by rw [← hZk.2, ax_of hM18 (by decide) hv20 hM21]; exact ec_26
        have q19 : (SY (k1 : Int32).toNatClampNeg 19 (k2 : Int32).toNatClampNeg).toInt = ((c_24 : Nat) : Int) := by rw [q19e]; exact (nI_toInt (by omega))
        have hI_38 : (0 : Int) ≤ (k1 : Int32).toInt := inltI rfl rfl c_7
        have hI_39 : (k1 : Int32).toInt < ((z2 : Nat) : Int) := inleI (nI_toInt (by omega)) rfl c_8
        have hI_40 : (0 : Int) ≤ (k2 : Int32).toInt := inltI rfl rfl c_9
        have hI_41 : (k2 : Int32).toInt < (24 : Int) := inleI rfl rfl c_10
        have hyes : okTn z2 SX k1 k2 := by unfold okTn okH; refine ⟨⟨?_, ?_⟩, ?_, ?_⟩ <;> first | omega | assumption
        rw [hQ]
        exact W.iret (v := (nI c_24)) hx hb hr (fun t ht hW9 => ⟨⟨(nI c_24), (), rfl, (by unfold anTn; rw [if_pos hyes]; unfold tfS; rw [if_pos (by omega)]; exact q19e.symm), ⟨by rw [ht]; exact hP, hD⟩⟩, hS.F ht⟩) hS.2.2 dX13_tenure_91
      · refine lv_tableIn (tgt := 92) hx hb dX13_tenure_39 (by omega) (by omega) (by rw [hj2]; rfl) (by decide) ?_
        refine lv_aload hx hb dX13_tenure_92 (lv_at hl 1 rfl) ?_
        obtain ⟨v42, hv42, hc42⟩ : ∃ v : Nat, fs18[20]? = some (.ref v : Value) ∧ isk K L v 31 24 := hl18 20 (by decide)
        refine pg_getN (D := D) (ci := 12) (v := .ref v42) (C := RX12) (T := TX12) (N := 51) hx hb hg inG12 hown hK hP hb_17.1 hM18 rfl 20 (by decide) (hN.use (Cond.fieldLinkNest RX13 110 RX12 "where" "[I" RX13) 29 rfl rfl) (fun _ h9 => h9) hv42 dX13_tenure_94 ?_
        refine lv_iload_n hx hb dX13_tenure_97 rfl (lv_at hl 4 rfl) ?_
        obtain ⟨f43, hM43, hf43⟩ := hW.open_31 hc42
        have hi_44 : vp_in k2 24 := (inb k2 24 (by omega) c_9 c_10)
        refine pg_iald hx hb hK hP hc42.1 0 hM43 rfl hi_44 dX13_tenure_98 ?_
        have hp_45 := hf43 _ (vp_lt hi_44)
        obtain ⟨c_46, hc_47, ec_48⟩ := hp_45
        rw [ec_48]
        have q20e : SY (k1 : Int32).toNatClampNeg 20 (k2 : Int32).toNatClampNeg = (nI c_46) := by rw [← hZk.2, ax_of hM18 (by decide) hv42 hM43]; exact ec_48
        have q20 : (SY (k1 : Int32).toNatClampNeg 20 (k2 : Int32).toNatClampNeg).toInt = ((c_46 : Nat) : Int) := by rw [q20e]; exact (nI_toInt (by omega))
        have hI_49 : (0 : Int) ≤ (k1 : Int32).toInt := inltI rfl rfl c_7
        have hI_50 : (k1 : Int32).toInt < ((z2 : Nat) : Int) := inleI (nI_toInt (by omega)) rfl c_8
        have hI_51 : (0 : Int) ≤ (k2 : Int32).toInt := inltI rfl rfl c_9
        have hI_52 : (k2 : Int32).toInt < (24 : Int) := inleI rfl rfl c_10
        have hyes : okTn z2 SX k1 k2 := by unfold okTn okH; refine ⟨⟨?_, ?_⟩, ?_, ?_⟩ <;> first | omega | assumption
        rw [hQ]
        exact W.iret (v := (nI c_46)) hx hb hr (fun t ht hW9 => ⟨⟨(nI c_46), (), rfl, (by unfold anTn; rw [if_pos hyes]; unfold tfS; rw [if_neg (by omega), if_pos (by omega)]; exact q20e.symm), ⟨by rw [ht]; exact hP, hD⟩⟩, hS.F ht⟩) hS.2.2 dX13_tenure_99
      · refine lv_tableIn (tgt := 100) hx hb dX13_tenure_39 (by omega) (by omega) (by rw [hj2]; rfl) (by decide) ?_
        refine lv_aload hx hb dX13_tenure_100 (lv_at hl 1 rfl) ?_
        obtain ⟨v53, hv53, hc53⟩ : ∃ v : Nat, fs18[21]? = some (.ref v : Value) ∧ isk K L v 75 24 := hl18 21 (by decide)
        refine pg_getN (D := D) (ci := 12) (v := .ref v53) (C := RX12) (T := TX12) (N := 51) hx hb hg inG12 hown hK hP hb_17.1 hM18 rfl 21 (by decide) (hN.use (Cond.fieldLinkNest RX13 112 RX12 "begin" "[I" RX13) 30 rfl rfl) (fun _ h9 => h9) hv53 dX13_tenure_102 ?_
        refine lv_iload_n hx hb dX13_tenure_105 rfl (lv_at hl 4 rfl) ?_
        obtain ⟨f54, hM54⟩ := hW.open_75 hc53
        refine pg_iald hx hb hK hP hc53.1 0 hM54 rfl (inb k2 24 (by omega) c_9 c_10) dX13_tenure_106 ?_
        refine lv_topi (fun f_55 ef_55 => ?_)
        have q21e : SY (k1 : Int32).toNatClampNeg 21 (k2 : Int32).toNatClampNeg = f_55 := by rw [← hZk.2, ax_of hM18 (by decide) hv53 hM54]; exact ef_55.symm
        have q21 : (SY (k1 : Int32).toNatClampNeg 21 (k2 : Int32).toNatClampNeg).toInt = (f_55 : Int32).toInt := congrArg Int32.toInt q21e
        have hI_56 : (0 : Int) ≤ (k1 : Int32).toInt := inltI rfl rfl c_7
        have hI_57 : (k1 : Int32).toInt < ((z2 : Nat) : Int) := inleI (nI_toInt (by omega)) rfl c_8
        have hI_58 : (0 : Int) ≤ (k2 : Int32).toInt := inltI rfl rfl c_9
        have hI_59 : (k2 : Int32).toInt < (24 : Int) := inleI rfl rfl c_10
        have hyes : okTn z2 SX k1 k2 := by unfold okTn okH; refine ⟨⟨?_, ?_⟩, ?_, ?_⟩ <;> first | omega | assumption
        rw [hQ]
        exact W.iret (v := f_55) hx hb hr (fun t ht hW9 => ⟨⟨f_55, (), rfl, (by unfold anTn; rw [if_pos hyes]; unfold tfS; rw [if_neg (by omega), if_neg (by omega), if_pos (by omega)]; exact q21e.symm), ⟨by rw [ht]; exact hP, hD⟩⟩, hS.F ht⟩) hS.2.2 dX13_tenure_107
      · refine lv_tableIn (tgt := 108) hx hb dX13_tenure_39 (by omega) (by omega) (by rw [hj2]; rfl) (by decide) ?_
        refine lv_aload hx hb dX13_tenure_108 (lv_at hl 1 rfl) ?_
        obtain ⟨v60, hv60, hc60⟩ : ∃ v : Nat, fs18[22]? = some (.ref v : Value) ∧ isk K L v 41 24 := hl18 22 (by decide)
        refine pg_getN (D := D) (ci := 12) (v := .ref v60) (C := RX12) (T := TX12) (N := 51) hx hb hg inG12 hown hK hP hb_17.1 hM18 rfl 22 (by decide) (hN.use (Cond.fieldLinkNest RX13 95 RX12 "ended" "[I" RX13) 31 rfl rfl) (fun _ h9 => h9) hv60 dX13_tenure_110 ?_
        refine lv_iload_n hx hb dX13_tenure_113 rfl (lv_at hl 4 rfl) ?_
        obtain ⟨f61, hM61⟩ := hW.open_41 hc60
        refine pg_iald hx hb hK hP hc60.1 0 hM61 rfl (inb k2 24 (by omega) c_9 c_10) dX13_tenure_114 ?_
        refine lv_topi (fun f_62 ef_62 => ?_)
        have q22e : SY (k1 : Int32).toNatClampNeg 22 (k2 : Int32).toNatClampNeg = f_62 := by rw [← hZk.2, ax_of hM18 (by decide) hv60 hM61]; exact ef_62.symm
        have q22 : (SY (k1 : Int32).toNatClampNeg 22 (k2 : Int32).toNatClampNeg).toInt = (f_62 : Int32).toInt := congrArg Int32.toInt q22e
        have hI_63 : (0 : Int) ≤ (k1 : Int32).toInt := inltI rfl rfl c_7
        have hI_64 : (k1 : Int32).toInt < ((z2 : Nat) : Int) := inleI (nI_toInt (by omega)) rfl c_8
        have hI_65 : (0 : Int) ≤ (k2 : Int32).toInt := inltI rfl rfl c_9
        have hI_66 : (k2 : Int32).toInt < (24 : Int) := inleI rfl rfl c_10
        have hyes : okTn z2 SX k1 k2 := by unfold okTn okH; refine ⟨⟨?_, ?_⟩, ?_, ?_⟩ <;> first | omega | assumption
        rw [hQ]
        exact W.iret (v := f_62) hx hb hr (fun t ht hW9 => ⟨⟨f_62, (), rfl, (by unfold anTn; rw [if_pos hyes]; unfold tfS; rw [if_neg (by omega), if_neg (by omega), if_neg (by omega), if_pos (by omega)]; exact q22e.symm), ⟨by rw [ht]; exact hP, hD⟩⟩, hS.F ht⟩) hS.2.2 dX13_tenure_115
      · refine lv_tableIn (tgt := 116) hx hb dX13_tenure_39 (by omega) (by omega) (by rw [hj2]; rfl) (by decide) ?_
        refine lv_aload hx hb dX13_tenure_116 (lv_at hl 1 rfl) ?_
        obtain ⟨v67, hv67, hc67⟩ : ∃ v : Nat, fs18[26]? = some (.ref v : Value) ∧ isk K L v 16 24 := hl18 26 (by decide)
        refine pg_getN (D := D) (ci := 12) (v := .ref v67) (C := RX12) (T := TX12) (N := 51) hx hb hg inG12 hown hK hP hb_17.1 hM18 rfl 26 (by decide) (hN.use (Cond.fieldLinkNest RX13 124 RX12 "word" "[Z" RX13) 35 rfl rfl) (fun _ h9 => h9) hv67 dX13_tenure_118 ?_
        refine lv_iload_n hx hb dX13_tenure_121 rfl (lv_at hl 4 rfl) ?_
        obtain ⟨f68, hM68, hf68⟩ := hW.open_16 hc67
        have hi_69 : vp_in k2 24 := (inb k2 24 (by omega) c_9 c_10)
        refine pg_zald hx hb hK hP hc67.1 2 hM68 rfl hi_69 dX13_tenure_122 ?_
        rcases hf68 _ (vp_lt hi_69) with ec_70 | ec_70
        · rw [ec_70]
          have q26e : SY (k1 : Int32).toNatClampNeg 26 (k2 : Int32).toNatClampNeg = 0 := by rw [← hZk.2, ax_of hM18 (by decide) hv67 hM68]; exact ec_70
          have q26 : (SY (k1 : Int32).toNatClampNeg 26 (k2 : Int32).toNatClampNeg).toInt = (0 : Int) := by rw [q26e]; exact rfl
          refine lv_if_eq (tgt := 130) hx hb dX13_tenure_123 (by decide) (fun _ => ?_) (fun c_71 => absurd c_71 (by decide))
          refine lv_iconst (v := 0) hx hb dX13_tenure_130 (by decide) ?_
          have hI_72 : (0 : Int) ≤ (k1 : Int32).toInt := inltI rfl rfl c_7
          have hI_73 : (k1 : Int32).toInt < ((z2 : Nat) : Int) := inleI (nI_toInt (by omega)) rfl c_8
          have hI_74 : (0 : Int) ≤ (k2 : Int32).toInt := inltI rfl rfl c_9
          have hI_75 : (k2 : Int32).toInt < (24 : Int) := inleI rfl rfl c_10
          have hyes : okTn z2 SX k1 k2 := by unfold okTn okH; refine ⟨⟨?_, ?_⟩, ?_, ?_⟩ <;> first | omega | assumption
          rw [hQ]
          exact W.iret (v := 0) hx hb hr (fun t ht hW9 => ⟨⟨0, (), rfl, (by unfold anTn; rw [if_pos hyes]; unfold tfS; rw [if_neg (by omega), if_neg (by omega), if_neg (by omega), if_neg (by omega), if_pos (by omega)]; exact q26e.symm), ⟨by rw [ht]; exact hP, hD⟩⟩, hS.F ht⟩) hS.2.2 dX13_tenure_131
        · rw [ec_70]
          have q26e : SY (k1 : Int32).toNatClampNeg 26 (k2 : Int32).toNatClampNeg = 1 := by rw [← hZk.2, ax_of hM18 (by decide) hv67 hM68]; exact ec_70
          have q26 : (SY (k1 : Int32).toNatClampNeg 26 (k2 : Int32).toNatClampNeg).toInt = (1 : Int) := by rw [q26e]; exact rfl
          refine lv_if_eq (tgt := 130) hx hb dX13_tenure_123 (by decide) (fun c_76 => absurd c_76 (by decide)) (fun _ => ?_)
          refine lv_iconst (v := 1) hx hb dX13_tenure_126 (by decide) ?_
          refine lv_goto (tgt := 131) hx hb dX13_tenure_127 (by decide) ?_
          have hI_77 : (0 : Int) ≤ (k1 : Int32).toInt := inltI rfl rfl c_7
          have hI_78 : (k1 : Int32).toInt < ((z2 : Nat) : Int) := inleI (nI_toInt (by omega)) rfl c_8
          have hI_79 : (0 : Int) ≤ (k2 : Int32).toInt := inltI rfl rfl c_9
          have hI_80 : (k2 : Int32).toInt < (24 : Int) := inleI rfl rfl c_10
          have hyes : okTn z2 SX k1 k2 := by unfold okTn okH; refine ⟨⟨?_, ?_⟩, ?_, ?_⟩ <;> first | omega | assumption
          rw [hQ]
          exact W.iret (v := 1) hx hb hr (fun t ht hW9 => ⟨⟨1, (), rfl, (by unfold anTn; rw [if_pos hyes]; unfold tfS; rw [if_neg (by omega), if_neg (by omega), if_neg (by omega), if_neg (by omega), if_pos (by omega)]; exact q26e.symm), ⟨by rw [ht]; exact hP, hD⟩⟩, hS.F ht⟩) hS.2.2 dX13_tenure_131
      · refine lv_tableIn (tgt := 132) hx hb dX13_tenure_39 (by omega) (by omega) (by rw [hj2]; rfl) (by decide) ?_
        refine lv_aload hx hb dX13_tenure_132 (lv_at hl 1 rfl) ?_
        obtain ⟨v81, hv81, hc81⟩ : ∃ v : Nat, fs18[22]? = some (.ref v : Value) ∧ isk K L v 41 24 := hl18 22 (by decide)
        refine pg_getN (D := D) (ci := 12) (v := .ref v81) (C := RX12) (T := TX12) (N := 51) hx hb hg inG12 hown hK hP hb_17.1 hM18 rfl 22 (by decide) (hN.use (Cond.fieldLinkNest RX13 95 RX12 "ended" "[I" RX13) 31 rfl rfl) (fun _ h9 => h9) hv81 dX13_tenure_134 ?_
        refine lv_iload_n hx hb dX13_tenure_137 rfl (lv_at hl 4 rfl) ?_
        obtain ⟨f82, hM82⟩ := hW.open_41 hc81
        refine pg_iald hx hb hK hP hc81.1 0 hM82 rfl (inb k2 24 (by omega) c_9 c_10) dX13_tenure_138 ?_
        refine lv_topi (fun f_83 ef_83 => ?_)
        have q22e : SY (k1 : Int32).toNatClampNeg 22 (k2 : Int32).toNatClampNeg = f_83 := by rw [← hZk.2, ax_of hM18 (by decide) hv81 hM82]; exact ef_83.symm
        have q22 : (SY (k1 : Int32).toNatClampNeg 22 (k2 : Int32).toNatClampNeg).toInt = (f_83 : Int32).toInt := congrArg Int32.toInt q22e
        refine lv_iconst (v := (-1)) hx hb dX13_tenure_139 (by decide) ?_
        refine lv_icmp_ne (tgt := 147) hx hb dX13_tenure_140 (by decide) (fun c_84 => ?_) (fun c_84 => ?_)
        · have hz := rfl (a := 0)
          refine lv_aload hx hb dX13_tenure_147 (lv_at hl 1 rfl) ?_
          obtain ⟨v85, hv85, hc85⟩ : ∃ v : Nat, fs18[23]? = some (.ref v : Value) ∧ isk K L v 42 24 := hl18 23 (by decide)
          refine pg_getN (D := D) (ci := 12) (v := .ref v85) (C := RX12) (T := TX12) (N := 51) hx hb hg inG12 hown hK hP hb_17.1 hM18 rfl 23 (by decide) (hN.use (Cond.fieldLinkNest RX13 115 RX12 "instalments" "[I" RX13) 32 rfl rfl) (fun _ h9 => h9) hv85 dX13_tenure_149 ?_
          refine lv_iload_n hx hb dX13_tenure_152 rfl (lv_at hl 4 rfl) ?_
          obtain ⟨f86, hM86⟩ := hW.open_42 hc85
          refine pg_iald hx hb hK hP hc85.1 0 hM86 rfl (inb k2 24 (by omega) c_9 c_10) dX13_tenure_153 ?_
          refine lv_topi (fun f_87 ef_87 => ?_)
          have q23e : SY (k1 : Int32).toNatClampNeg 23 (k2 : Int32).toNatClampNeg = f_87 := by rw [← hZk.2, ax_of hM18 (by decide) hv85 hM86]; exact ef_87.symm
          have q23 : (SY (k1 : Int32).toNatClampNeg 23 (k2 : Int32).toNatClampNeg).toInt = (f_87 : Int32).toInt := congrArg Int32.toInt q23e
          have hI_88 : (0 : Int) ≤ (k1 : Int32).toInt := inltI rfl rfl c_7
          have hI_89 : (k1 : Int32).toInt < ((z2 : Nat) : Int) := inleI (nI_toInt (by omega)) rfl c_8
          have hI_90 : (0 : Int) ≤ (k2 : Int32).toInt := inltI rfl rfl c_9
          have hI_91 : (k2 : Int32).toInt < (24 : Int) := inleI rfl rfl c_10
          have hI_92 : (f_83 : Int32).toInt ≠ (-1) := ineI rfl rfl c_84
          have hyes : okTn z2 SX k1 k2 := by unfold okTn okH; refine ⟨⟨?_, ?_⟩, ?_, ?_⟩ <;> first | omega | assumption
          rw [hQ]
          exact W.iret (v := f_87) hx hb hr (fun t ht hW9 => ⟨⟨f_87, (), rfl, (by unfold anTn; rw [if_pos hyes]; unfold tfS; rw [if_neg (by omega), if_neg (by omega), if_neg (by omega), if_neg (by omega), if_neg (by omega), if_pos (by omega)]; rw [if_neg (by rw [q22e]; assumption)]; exact q23e.symm), ⟨by rw [ht]; exact hP, hD⟩⟩, hS.F ht⟩) hS.2.2 dX13_tenure_154
        · have hz := rfl (a := 0)
          refine lv_iconst (v := 0) hx hb dX13_tenure_143 (by decide) ?_
          refine lv_goto (tgt := 154) hx hb dX13_tenure_144 (by decide) ?_
          have hI_93 : (0 : Int) ≤ (k1 : Int32).toInt := inltI rfl rfl c_7
          have hI_94 : (k1 : Int32).toInt < ((z2 : Nat) : Int) := inleI (nI_toInt (by omega)) rfl c_8
          have hI_95 : (0 : Int) ≤ (k2 : Int32).toInt := inltI rfl rfl c_9
          have hI_96 : (k2 : Int32).toInt < (24 : Int) := inleI rfl rfl c_10
          have hI_97 : (f_83 : Int32).toInt = (-1) := ieqI rfl rfl c_84
          have hyes : okTn z2 SX k1 k2 := by unfold okTn okH; refine ⟨⟨?_, ?_⟩, ?_, ?_⟩ <;> first | omega | assumption
          rw [hQ]
          exact W.iret (v := 0) hx hb hr (fun t ht hW9 => ⟨⟨0, (), rfl, (by unfold anTn; rw [if_pos hyes]; unfold tfS; rw [if_neg (by omega), if_neg (by omega), if_neg (by omega), if_neg (by omega), if_neg (by omega), if_pos (by omega)]; rw [if_pos (by rw [q22e]; assumption)]), ⟨by rw [ht]; exact hP, hD⟩⟩, hS.F ht⟩) hS.2.2 dX13_tenure_154
      · refine lv_tableIn (tgt := 155) hx hb dX13_tenure_39 (by omega) (by omega) (by rw [hj2]; rfl) (by decide) ?_
        refine lv_aload hx hb dX13_tenure_155 (lv_at hl 1 rfl) ?_
        obtain ⟨v98, hv98, hc98⟩ : ∃ v : Nat, fs18[25]? = some (.ref v : Value) ∧ isk K L v 34 24 := hl18 25 (by decide)
        refine pg_getN (D := D) (ci := 12) (v := .ref v98) (C := RX12) (T := TX12) (N := 51) hx hb hg inG12 hown hK hP hb_17.1 hM18 rfl 25 (by decide) (hN.use (Cond.fieldLinkNest RX13 121 RX12 "heir" "[I" RX13) 34 rfl rfl) (fun _ h9 => h9) hv98 dX13_tenure_157 ?_
        refine lv_iload_n hx hb dX13_tenure_160 rfl (lv_at hl 4 rfl) ?_
        obtain ⟨f99, hM99, hf99⟩ := hW.open_34 hc98
        have hi_100 : vp_in k2 24 := (inb k2 24 (by omega) c_9 c_10)
        refine pg_iald hx hb hK hP hc98.1 0 hM99 rfl hi_100 dX13_tenure_161 ?_
        have hp_101 := hf99 _ (vp_lt hi_100)
        rcases hp_101 with ec_104 | ⟨c_102, hc_103, ec_104⟩
        · rw [ec_104]
          have q25e : SY (k1 : Int32).toNatClampNeg 25 (k2 : Int32).toNatClampNeg = (-1) := by rw [← hZk.2, ax_of hM18 (by decide) hv98 hM99]; exact ec_104
          have q25 : (SY (k1 : Int32).toNatClampNeg 25 (k2 : Int32).toNatClampNeg).toInt = (-1) := by rw [q25e]; exact rfl
          have hI_105 : (0 : Int) ≤ (k1 : Int32).toInt := inltI rfl rfl c_7
          have hI_106 : (k1 : Int32).toInt < ((z2 : Nat) : Int) := inleI (nI_toInt (by omega)) rfl c_8
          have hI_107 : (0 : Int) ≤ (k2 : Int32).toInt := inltI rfl rfl c_9
          have hI_108 : (k2 : Int32).toInt < (24 : Int) := inleI rfl rfl c_10
          have hyes : okTn z2 SX k1 k2 := by unfold okTn okH; refine ⟨⟨?_, ?_⟩, ?_, ?_⟩ <;> first | omega | assumption
          rw [hQ]
          exact W.iret (v := (-1)) hx hb hr (fun t ht hW9 => ⟨⟨(-1), (), rfl, (by unfold anTn; rw [if_pos hyes]; unfold tfS; rw [if_neg (by omega), if_neg (by omega), if_neg (by omega), if_neg (by omega), if_neg (by omega), if_neg (by omega), if_pos (by omega)]; exact q25e.symm), ⟨by rw [ht]; exact hP, hD⟩⟩, hS.F ht⟩) hS.2.2 dX13_tenure_162
        · rw [ec_104]
          have q25e : SY (k1 : Int32).toNatClampNeg 25 (k2 : Int32).toNatClampNeg = (nI c_102) := by rw [← hZk.2, ax_of hM18 (by decide) hv98 hM99]; exact ec_104
          have q25 : (SY (k1 : Int32).toNatClampNeg 25 (k2 : Int32).toNatClampNeg).toInt = ((c_102 : Nat) : Int) := by rw [q25e]; exact (nI_toInt (by omega))
          have hI_109 : (0 : Int) ≤ (k1 : Int32).toInt := inltI rfl rfl c_7
          have hI_110 : (k1 : Int32).toInt < ((z2 : Nat) : Int) := inleI (nI_toInt (by omega)) rfl c_8
          have hI_111 : (0 : Int) ≤ (k2 : Int32).toInt := inltI rfl rfl c_9
          have hI_112 : (k2 : Int32).toInt < (24 : Int) := inleI rfl rfl c_10
          have hyes : okTn z2 SX k1 k2 := by unfold okTn okH; refine ⟨⟨?_, ?_⟩, ?_, ?_⟩ <;> first | omega | assumption
          rw [hQ]
          exact W.iret (v := (nI c_102)) hx hb hr (fun t ht hW9 => ⟨⟨(nI c_102), (), rfl, (by unfold anTn; rw [if_pos hyes]; unfold tfS; rw [if_neg (by omega), if_neg (by omega), if_neg (by omega), if_neg (by omega), if_neg (by omega), if_neg (by omega), if_pos (by omega)]; exact q25e.symm), ⟨by rw [ht]; exact hP, hD⟩⟩, hS.F ht⟩) hS.2.2 dX13_tenure_162
      · refine lv_tableIn (tgt := 163) hx hb dX13_tenure_39 (by omega) (by omega) (by rw [hj2]; rfl) (by decide) ?_
        refine lv_iload hx hb dX13_tenure_163 (lv_at hl 0 rfl) ?_
        refine lv_iconst (v := 2) hx hb dX13_tenure_165 (by decide) ?_
        refine lv_icmp_eq (tgt := 175) hx hb dX13_tenure_166 (by decide) (fun c_113 => ?_) (fun c_113 => ?_)
        · have hz := rfl (a := 0)
          have n_114 : c_30 = 2 := (iEQ (a := c_30) (b := 2) (by omega) (by omega)).mp c_113
          refine lv_iconst (v := (-1)) hx hb dX13_tenure_175 (by decide) ?_
          refine lv_goto (tgt := 181) hx hb dX13_tenure_176 (by decide) ?_
          have hI_115 : (0 : Int) ≤ (k1 : Int32).toInt := inltI rfl rfl c_7
          have hI_116 : (k1 : Int32).toInt < ((z2 : Nat) : Int) := inleI (nI_toInt (by omega)) rfl c_8
          have hI_117 : (0 : Int) ≤ (k2 : Int32).toInt := inltI rfl rfl c_9
          have hI_118 : (k2 : Int32).toInt < (24 : Int) := inleI rfl rfl c_10
          have hI_119 : ((c_30 : Nat) : Int) = (2 : Int) := ieqI (nI_toInt (by omega)) rfl c_113
          have hyes : okTn z2 SX k1 k2 := by unfold okTn okH; refine ⟨⟨?_, ?_⟩, ?_, ?_⟩ <;> first | omega | assumption
          rw [hQ]
          exact W.iret (v := (-1)) hx hb hr (fun t ht hW9 => ⟨⟨(-1), (), rfl, (by unfold anTn; rw [if_pos hyes]; unfold tfS; rw [if_neg (by omega), if_neg (by omega), if_neg (by omega), if_neg (by omega), if_neg (by omega), if_neg (by omega), if_neg (by omega), if_pos (by omega)]; rw [t19e, hPk, if_pos (by rw [nI_toInt (by omega)]; omega)]), ⟨by rw [ht]; exact hP, hD⟩⟩, hS.F ht⟩) hS.2.2 dX13_tenure_181
        · have hz := rfl (a := 0)
          have n_120 : ¬ (c_30 = 2) := fun q => c_113 ((iEQ (a := c_30) (b := 2) (by omega) (by omega)).mpr q)
          refine lv_iload hx hb dX13_tenure_169 (lv_at hl 0 rfl) ?_
          refine lv_iconst (v := 4) hx hb dX13_tenure_171 (by decide) ?_
          refine lv_icmp_ne (tgt := 179) hx hb dX13_tenure_172 (by decide) (fun c_121 => ?_) (fun c_121 => ?_)
          · have hz := rfl (a := 0)
            have n_122 : ¬ (c_30 = 4) := fun q => c_121 ((iEQ (a := c_30) (b := 4) (by omega) (by omega)).mpr q)
            refine lv_iload hx hb dX13_tenure_179 (lv_at hl 0 rfl) ?_
            have hI_123 : (0 : Int) ≤ (k1 : Int32).toInt := inltI rfl rfl c_7
            have hI_124 : (k1 : Int32).toInt < ((z2 : Nat) : Int) := inleI (nI_toInt (by omega)) rfl c_8
            have hI_125 : (0 : Int) ≤ (k2 : Int32).toInt := inltI rfl rfl c_9
            have hI_126 : (k2 : Int32).toInt < (24 : Int) := inleI rfl rfl c_10
            have hI_127 : ((c_30 : Nat) : Int) ≠ (2 : Int) := ineI (nI_toInt (by omega)) rfl c_113
            have hI_128 : ((c_30 : Nat) : Int) ≠ (4 : Int) := ineI (nI_toInt (by omega)) rfl c_121
            have hyes : okTn z2 SX k1 k2 := by unfold okTn okH; refine ⟨⟨?_, ?_⟩, ?_, ?_⟩ <;> first | omega | assumption
            rw [hQ]
            exact W.iret (v := (nI c_30)) hx hb hr (fun t ht hW9 => ⟨⟨(nI c_30), (), rfl, (by unfold anTn; rw [if_pos hyes]; unfold tfS; rw [if_neg (by omega), if_neg (by omega), if_neg (by omega), if_neg (by omega), if_neg (by omega), if_neg (by omega), if_neg (by omega), if_pos (by omega)]; rw [t19e, hPk, if_neg (by rw [nI_toInt (by omega)]; omega)]), ⟨by rw [ht]; exact hP, hD⟩⟩, hS.F ht⟩) hS.2.2 dX13_tenure_181
          · have hz := rfl (a := 0)
            have n_129 : c_30 = 4 := (iEQ (a := c_30) (b := 4) (by omega) (by omega)).mp c_121
            refine lv_iconst (v := (-1)) hx hb dX13_tenure_175 (by decide) ?_
            refine lv_goto (tgt := 181) hx hb dX13_tenure_176 (by decide) ?_
            have hI_130 : (0 : Int) ≤ (k1 : Int32).toInt := inltI rfl rfl c_7
            have hI_131 : (k1 : Int32).toInt < ((z2 : Nat) : Int) := inleI (nI_toInt (by omega)) rfl c_8
            have hI_132 : (0 : Int) ≤ (k2 : Int32).toInt := inltI rfl rfl c_9
            have hI_133 : (k2 : Int32).toInt < (24 : Int) := inleI rfl rfl c_10
            have hI_134 : ((c_30 : Nat) : Int) ≠ (2 : Int) := ineI (nI_toInt (by omega)) rfl c_113
            have hI_135 : ((c_30 : Nat) : Int) = (4 : Int) := ieqI (nI_toInt (by omega)) rfl c_121
            have hyes : okTn z2 SX k1 k2 := by unfold okTn okH; refine ⟨⟨?_, ?_⟩, ?_, ?_⟩ <;> first | omega | assumption
            rw [hQ]
            exact W.iret (v := (-1)) hx hb hr (fun t ht hW9 => ⟨⟨(-1), (), rfl, (by unfold anTn; rw [if_pos hyes]; unfold tfS; rw [if_neg (by omega), if_neg (by omega), if_neg (by omega), if_neg (by omega), if_neg (by omega), if_neg (by omega), if_neg (by omega), if_pos (by omega)]; rw [t19e, hPk, if_pos (by rw [nI_toInt (by omega)]; omega)]), ⟨by rw [ht]; exact hP, hD⟩⟩, hS.F ht⟩) hS.2.2 dX13_tenure_181
  · have hz := rfl (a := 0)
    refine lv_if_ne (tgt := 16) hx hb dX13_tenure_11 (by decide) (fun c_136 => absurd c_136 (by decide)) (fun _ => ?_)
    refine lv_iconst (v := (-1)) hx hb dX13_tenure_14 (by decide) ?_
    have hno : ¬ okTn z2 SX k1 k2 := fun q9 => by unfold okTn okH at q9; first | omega | (obtain ⟨⟨_, _⟩, _, _⟩ := q9; first | omega | contradiction)
    rw [hQ]
    exact W.iret (v := (-1)) hx hb hr (fun t ht hW9 => ⟨⟨(-1), (), rfl, (by unfold anTn; rw [if_neg hno]), ⟨by rw [ht]; exact hP, hD⟩⟩, hS.F ht⟩) hS.2.2 dX13_tenure_15
