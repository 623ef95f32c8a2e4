

theorem ite17 {P : Prop} {d : Decidable P} {a b : Nat → Nat → Int} {j : Nat} {c : Int} (h : a j 17 = c) (g : b j 17 = c) : (@ite _ P d a b) j 17 = c := by
  by_cases q : P
  · rw [if_pos q]
    exact h
  · rw [if_neg q]
    exact g
theorem va17 {SX : Nat → Nat → Int} {k : Nat} {X : Nat → Int} (h : X 17 = SX k 17) (j : Nat) : va_up SX k X j 17 = SX j 17 := by
  by_cases z : j = k
  · rw [z, va_up_self]
    exact h
  · rw [va_up_ne _ _ z]
theorem lstN_no {P : Nat → Prop} : ∀ f k, (∀ e, k ≤ e → e < k + f → ¬ P e) → lstN P f k = k + f := by
  intro f
  induction f with
  | zero => intro k _; rfl
  | succ f ih =>
    intro k h
    show @ite Nat (P k) (Classical.propDecidable _) k (lstN P f (k + 1)) = k + (f + 1)
    rw [if_neg (h k (Nat.le_refl _) (by omega)), ih (k + 1) (fun e g1 g2 => h e (by omega) (by omega))]
    omega
/-- the first open day behind t, or 1000 -/
noncomputable def fod (Y : Nat → Nat → Int32) (t : Int) : Nat := lstN (opD Y) (1000 - (t + 1).toNat) (t + 1).toNat
theorem FOD.eq {Y : Nat → Nat → Int32} {t : Int} {j : Nat} (h : FOD Y t j) (ht : -1 ≤ t) : fod Y t = j := by
  obtain ⟨h1, h2, h3, h4⟩ := h
  unfold fod
  by_cases q : j < 1000
  · exact lstN_eq (P := opD Y) (h4 q) _ _ (by omega) (by omega) (fun e g1 g2 => h3 e (by omega) g2)
  · rw [lstN_no _ _ (fun e g1 g2 => h3 e (by omega) (by omega))]
    omega
theorem i32v {v : Int32} {z : Int} (h : v.toInt = z) : v = Int32.ofInt z := by rw [← h, Int32.ofInt_toInt]
/-- what a House tells -/
noncomputable def hfa (M : Hp) (b : Nat) (w : Int32) : Int32 := if w.toInt = 0 then cV 2 M b 1 else if w.toInt = 1 then cV 2 M b 2 else if w.toInt = 2 then cV 2 M b 4 else if w.toInt = 3 then cV 2 M b 5 else if w.toInt = 4 then cV 2 M b 9 else if w.toInt = 5 then cV 2 M b 11 else if w.toInt = 6 then cV 1 M (rA 2 M b 16) 3 else if w.toInt = 7 then cV 1 M (rA 2 M b 17) 3 else if w.toInt = 8 then cV 0 M (rA 2 M b 19) 3 else if w.toInt = 9 then nI (fod (cax M b) (cV 2 M b 2).toInt) else -1
noncomputable def tdS (X : Nat → Int) (Y : Nat → Nat → Int32) (w : Int32) : Int32 := if w.toInt = 0 then Int32.ofInt (X 0) else if w.toInt = 1 then Int32.ofInt (X 1) else if w.toInt = 2 then Int32.ofInt (X 12) else if w.toInt = 3 then Int32.ofInt (X 13) else if w.toInt = 4 then Int32.ofInt (X 10) else if w.toInt = 5 then Int32.ofInt (X 11) else if w.toInt = 6 then Int32.ofInt (X 14) else if w.toInt = 7 then Int32.ofInt (X 15) else if w.toInt = 8 then Int32.ofInt (X 17) else if w.toInt = 9 then nI (fod Y (X 1)) else -1
theorem hfa_S {k : Nat} {T : Int} {np : Nat} {PK PT : Nat → Int32} {M : Hp} {b : Nat} {X : Nat → Int} {Y : Nat → Nat → Int32} {w : Int32} (h : SIM k T np PK PT (cfx M b) (cax M b) X Y) (hs : (cV 0 M (rA 2 M b 19) 3).toInt = X 17) (hb : -1 ≤ X 1 ∧ X 1 ≤ 999) : hfa M b w = tdS X Y w := by
  unfold hfa tdS
  by_cases z0 : w.toInt = 0
  · rw [if_pos z0, if_pos z0]
    exact i32v h.x0
  rw [if_neg z0, if_neg z0]
  by_cases z1 : w.toInt = 1
  · rw [if_pos z1, if_pos z1]
    exact i32v h.x1
  rw [if_neg z1, if_neg z1]
  by_cases z2 : w.toInt = 2
  · rw [if_pos z2, if_pos z2]
    exact i32v h.x12
  rw [if_neg z2, if_neg z2]
  by_cases z3 : w.toInt = 3
  · rw [if_pos z3, if_pos z3]
    exact i32v h.x13
  rw [if_neg z3, if_neg z3]
  by_cases z4 : w.toInt = 4
  · rw [if_pos z4, if_pos z4]
    exact i32v h.x10
  rw [if_neg z4, if_neg z4]
  by_cases z5 : w.toInt = 5
  · rw [if_pos z5, if_pos z5]
    exact i32v h.x11
  rw [if_neg z5, if_neg z5]
  by_cases z6 : w.toInt = 6
  · rw [if_pos z6, if_pos z6]
    exact i32v h.x14
  rw [if_neg z6, if_neg z6]
  by_cases z7 : w.toInt = 7
  · rw [if_pos z7, if_pos z7]
    exact i32v h.x15
  rw [if_neg z7, if_neg z7]
  by_cases z8 : w.toInt = 8
  · rw [if_pos z8, if_pos z8]
    exact i32v hs
  rw [if_neg z8, if_neg z8]
  by_cases z9 : w.toInt = 9
  · rw [if_pos z9, if_pos z9]
    have e1 : (cV 2 M b 2).toInt = X 1 := h.x1
    rw [e1]
    refine congrArg nI (lstN_cg _ _ (fun e g1 g2 => ?_))
    have g := h.pl e (by omega)
    unfold opD
    rw [g.1, g.2.1]
  · rw [if_neg z9, if_neg z9]
noncomputable def anTd (n : Nat) (SX : Nat → Nat → Int) (SY : Nat → Nat → Nat → Int32) (h w : Int32) : Int32 := @ite _ (okH n h) (Classical.propDecidable _) (tdS (SX h.toNatClampNeg) (SY h.toNatClampNeg) w) (-1)
set_option maxHeartbeats 4000000 in
set_option maxRecDepth 100000 in
theorem e_hfact (l : Launch) (D : va_G) (cy : Nat → ClassId) (K : Kp) (L : List Nat) (M : Hp) (sz : Nat) (oa : Nat) (k1 : Int32) (hW : WOK cy K L M) (ia : isk K L oa 2 0) (hto : (-1 ≤ (cV 2 M oa 2).toInt ∧ (cV 2 M oa 2).toInt ≤ 999)) : Met l yX2_factOf (wsM yX2_factOf cX2_factOf 2 (some .int)) ({ frames := 3, cells := 0, slots := 0, locals := 63 }) (va_Pc [.ref oa, .int k1] (PG D cy [] L M sz)) (va_Qi (fun (r : Int32) (_ : Unit) => (r = (hfa M oa k1))) (fun _ t => PQ D [] L M (va_A ([] ++ va_pl L M) sz) t) (va_A ([] ++ va_pl L M) sz)) 0 0 (va_A ([] ++ va_pl L M) sz) := by
  refine Met.ofW (cc := cX2_factOf) (maxL := 2) (ret := (some .int)) (by decide) rfl ?_
  intro p e s m args below meth c s₁ B hml hv
  obtain ⟨rfl, hsz, hP, hK, hD0, hN⟩ := hv
  have hx := B.exec
  have hb := B.bytes
  have hr := B.returns
  have hts := atoms_spec (ws := (wsM yX2_factOf cX2_factOf 2 (some .int))) B.pre
  have hg : ∀ w ∈ lw_good, w.before _ s = true := fun w h => hts w (List.mem_cons_of_mem _ h)
  have hown : s.vm.findClass RX2 = some m.cls := findClass_of_methodNamed B.named
  have hlocks := B.notSynchronized
  subst hsz
  have hD := hD0.self (sz := s.heap.size)
  generalize hAe : va_A ([] ++ va_pl L M) s.heap.size = A at hD ⊢
  have hA : ∀ q : Nat, s.heap.size ≤ q → A q := fun q h => by rw [← hAe]; exact Or.inr h
  have hS : va_S A s.heap s.heap [] := va_S.rf
  have hl := lv_entry ([.ref oa, .int k1]) (n := 2) (Nat.le_of_ble_eq_true rfl)
  rw [lg_entry_eq]
  generalize (lg_sl ([.ref oa, .int k1]) ++ List.replicate (2 - (lg_sl ([.ref oa, .int k1])).length) Slot.unset).toArray = ls at hl ⊢
  refine W.nameQ (fun Q hQ => ?_)
  refine W.nameR (fun R hR => ?_)
  have hRf : 3 ≤ R.frames := by rw [hR]; exact Nat.le_of_ble_eq_true rfl
  have hRl : 63 ≤ R.locals := by rw [hR]; exact Nat.le_of_ble_eq_true rfl
  have hRc : 0 ≤ R.cells := by rw [hR]; exact Nat.le_of_ble_eq_true rfl
  have hRs : 0 ≤ R.slots := by rw [hR]; exact Nat.le_of_ble_eq_true rfl
  have hl : lv_has ls 2 [(0, .ref oa), (1, .int k1)] := hl
  refine lv_iload_n hx hb dX2_factOf_0 rfl (lv_at hl 1 rfl) ?_
  by_cases hout : (k1 : Int32).toInt < 0 ∨ 9 < (k1 : Int32).toInt
  · refine lv_tableOut (tgt := 115) hx hb dX2_factOf_1 hout (by decide) ?_
    refine lv_iconst (v := (-1)) hx hb dX2_factOf_115 (by decide) ?_
    rw [hQ]
    exact W.iret (v := (-1)) hx hb hr (fun t ht hW9 => ⟨⟨(-1), (), rfl, (by unfold hfa; rw [if_neg (by omega), if_neg (by omega), if_neg (by omega), if_neg (by omega), if_neg (by omega), if_neg (by omega), if_neg (by omega), if_neg (by omega), if_neg (by omega), if_neg (by omega)]), ⟨by rw [ht]; exact hP, hD⟩⟩, hS.F ht⟩) hS.2.2 dX2_factOf_116
  · obtain ⟨j_1, hj, hj2⟩ : ∃ j : Nat, j ≤ 9 ∧ (k1 : Int32).toInt = (j : Int) := ⟨(k1 : Int32).toInt.toNat, by omega, by omega⟩
    rcases (show j_1 = 0 ∨ j_1 = 1 ∨ j_1 = 2 ∨ j_1 = 3 ∨ j_1 = 4 ∨ j_1 = 5 ∨ j_1 = 6 ∨ j_1 = 7 ∨ j_1 = 8 ∨ j_1 = 9 by omega) with rfl | rfl | rfl | rfl | rfl | rfl | rfl | rfl | rfl | rfl
    · refine lv_tableIn (tgt := 56) hx hb dX2_factOf_1 (by omega) (by omega) (by rw [hj2]; rfl) (by decide) ?_
      refine lv_aload_n hx hb dX2_factOf_56 rfl (lv_at hl 0 rfl) ?_
      obtain ⟨v2_0, v2_1, v2_2, v2_3, v2_4, v2_5, v2_6, v2_7, v2_8, v2_9, v2_10, v2_11, v2_12, v2_13, v2_14, v2_15, v2_16, v2_17, v2_18, v2_19, hM2, h2_3, h2_4, h2_5, h2_6, h2_7, h2_8, h2_9, h2_10, h2_11, h2_12, h2_13, h2_16, h2_17, h2_18, h2_19⟩ := hW.open_2 ia
      refine pg_get (D := D) (ci := 2) (v := .int v2_1) (C := RX2) (T := TX2) (N := 20) hx hb hg inG2 hown hK hP ia.1 hM2 rfl 1 (by decide) (hg _ wd_83) (fun _ h9 => h9) rfl dX2_factOf_57 ?_
      rw [hQ]
      exact W.iret (v := v2_1) hx hb hr (fun t ht hW9 => ⟨⟨v2_1, (), rfl, (by unfold hfa; rw [if_pos (by omega)]; exact (cV_of (j := 1) hM2 rfl).symm), ⟨by rw [ht]; exact hP, hD⟩⟩, hS.F ht⟩) hS.2.2 dX2_factOf_60
    · refine lv_tableIn (tgt := 61) hx hb dX2_factOf_1 (by omega) (by omega) (by rw [hj2]; rfl) (by decide) ?_
      refine lv_aload_n hx hb dX2_factOf_61 rfl (lv_at hl 0 rfl) ?_
      obtain ⟨v3_0, v3_1, v3_2, v3_3, v3_4, v3_5, v3_6, v3_7, v3_8, v3_9, v3_10, v3_11, v3_12, v3_13, v3_14, v3_15, v3_16, v3_17, v3_18, v3_19, hM3, h3_3, h3_4, h3_5, h3_6, h3_7, h3_8, h3_9, h3_10, h3_11, h3_12, h3_13, h3_16, h3_17, h3_18, h3_19⟩ := hW.open_2 ia
      refine pg_get (D := D) (ci := 2) (v := .int v3_2) (C := RX2) (T := TX2) (N := 20) hx hb hg inG2 hown hK hP ia.1 hM3 rfl 2 (by decide) (hg _ wd_41) (fun _ h9 => h9) rfl dX2_factOf_62 ?_
      rw [hQ]
      exact W.iret (v := v3_2) hx hb hr (fun t ht hW9 => ⟨⟨v3_2, (), rfl, (by unfold hfa; rw [if_neg (by omega), if_pos (by omega)]; exact (cV_of (j := 2) hM3 rfl).symm), ⟨by rw [ht]; exact hP, hD⟩⟩, hS.F ht⟩) hS.2.2 dX2_factOf_65
    · refine lv_tableIn (tgt := 66) hx hb dX2_factOf_1 (by omega) (by omega) (by rw [hj2]; rfl) (by decide) ?_
      refine lv_aload_n hx hb dX2_factOf_66 rfl (lv_at hl 0 rfl) ?_
      obtain ⟨v4_0, v4_1, v4_2, v4_3, v4_4, v4_5, v4_6, v4_7, v4_8, v4_9, v4_10, v4_11, v4_12, v4_13, v4_14, v4_15, v4_16, v4_17, v4_18, v4_19, hM4, h4_3, h4_4, h4_5, h4_6, h4_7, h4_8, h4_9, h4_10, h4_11, h4_12, h4_13, h4_16, h4_17, h4_18, h4_19⟩ := hW.open_2 ia
      refine pg_get (D := D) (ci := 2) (v := .int (nI v4_4)) (C := RX2) (T := TX2) (N := 20) hx hb hg inG2 hown hK hP ia.1 hM4 rfl 4 (by decide) (hg _ wd_82) (fun _ h9 => h9) rfl dX2_factOf_67 ?_
      rw [hQ]
      exact W.iret (v := (nI v4_4)) hx hb hr (fun t ht hW9 => ⟨⟨(nI v4_4), (), rfl, (by unfold hfa; rw [if_neg (by omega), if_neg (by omega), if_pos (by omega)]; exact (cV_of (j := 4) hM4 rfl).symm), ⟨by rw [ht]; exact hP, hD⟩⟩, hS.F ht⟩) hS.2.2 dX2_factOf_70
    · refine lv_tableIn (tgt := 71) hx hb dX2_factOf_1 (by omega) (by omega) (by rw [hj2]; rfl) (by decide) ?_
      refine lv_aload_n hx hb dX2_factOf_71 rfl (lv_at hl 0 rfl) ?_
      obtain ⟨v5_0, v5_1, v5_2, v5_3, v5_4, v5_5, v5_6, v5_7, v5_8, v5_9, v5_10, v5_11, v5_12, v5_13, v5_14, v5_15, v5_16, v5_17, v5_18, v5_19, hM5, h5_3, h5_4, h5_5, h5_6, h5_7, h5_8, h5_9, h5_10, h5_11, h5_12, h5_13, h5_16, h5_17, h5_18, h5_19⟩ := hW.open_2 ia
      refine pg_get (D := D) (ci := 2) (v := .int (nI v5_5)) (C := RX2) (T := TX2) (N := 20) hx hb hg inG2 hown hK hP ia.1 hM5 rfl 5 (by decide) (hg _ wd_85) (fun _ h9 => h9) rfl dX2_factOf_72 ?_
      rw [hQ]
      exact W.iret (v := (nI v5_5)) hx hb hr (fun t ht hW9 => ⟨⟨(nI v5_5), (), rfl, (by unfold hfa; rw [if_neg (by omega), if_neg (by omega), if_neg (by omega), if_pos (by omega)]; exact (cV_of (j := 5) hM5 rfl).symm), ⟨by rw [ht]; exact hP, hD⟩⟩, hS.F ht⟩) hS.2.2 dX2_factOf_75
    · refine lv_tableIn (tgt := 76) hx hb dX2_factOf_1 (by omega) (by omega) (by rw [hj2]; rfl) (by decide) ?_
      refine lv_aload_n hx hb dX2_factOf_76 rfl (lv_at hl 0 rfl) ?_
      obtain ⟨v6_0, v6_1, v6_2, v6_3, v6_4, v6_5, v6_6, v6_7, v6_8, v6_9, v6_10, v6_11, v6_12, v6_13, v6_14, v6_15, v6_16, v6_17, v6_18, v6_19, hM6, h6_3, h6_4, h6_5, h6_6, h6_7, h6_8, h6_9, h6_10, h6_11, h6_12, h6_13, h6_16, h6_17, h6_18, h6_19⟩ := hW.open_2 ia
      refine pg_get (D := D) (ci := 2) (v := .int (nI v6_9)) (C := RX2) (T := TX2) (N := 20) hx hb hg inG2 hown hK hP ia.1 hM6 rfl 9 (by decide) (hg _ wd_44) (fun _ h9 => h9) rfl dX2_factOf_77 ?_
      rw [hQ]
      exact W.iret (v := (nI v6_9)) hx hb hr (fun t ht hW9 => ⟨⟨(nI v6_9), (), rfl, (by unfold hfa; rw [if_neg (by omega), if_neg (by omega), if_neg (by omega), if_neg (by omega), if_pos (by omega)]; exact (cV_of (j := 9) hM6 rfl).symm), ⟨by rw [ht]; exact hP, hD⟩⟩, hS.F ht⟩) hS.2.2 dX2_factOf_80
    · refine lv_tableIn (tgt := 81) hx hb dX2_factOf_1 (by omega) (by omega) (by rw [hj2]; rfl) (by decide) ?_
      refine lv_aload_n hx hb dX2_factOf_81 rfl (lv_at hl 0 rfl) ?_
      obtain ⟨v7_0, v7_1, v7_2, v7_3, v7_4, v7_5, v7_6, v7_7, v7_8, v7_9, v7_10, v7_11, v7_12, v7_13, v7_14, v7_15, v7_16, v7_17, v7_18, v7_19, hM7, h7_3, h7_4, h7_5, h7_6, h7_7, h7_8, h7_9, h7_10, h7_11, h7_12, h7_13, h7_16, h7_17, h7_18, h7_19⟩ := hW.open_2 ia
      refine pg_get (D := D) (ci := 2) (v := .int (nI v7_11)) (C := RX2) (T := TX2) (N := 20) hx hb hg inG2 hown hK hP ia.1 hM7 rfl 11 (by decide) (hg _ wd_66) (fun _ h9 => h9) rfl dX2_factOf_82 ?_
      rw [hQ]
      exact W.iret (v := (nI v7_11)) hx hb hr (fun t ht hW9 => ⟨⟨(nI v7_11), (), rfl, (by unfold hfa; rw [if_neg (by omega), if_neg (by omega), if_neg (by omega), if_neg (by omega), if_neg (by omega), if_pos (by omega)]; exact (cV_of (j := 11) hM7 rfl).symm), ⟨by rw [ht]; exact hP, hD⟩⟩, hS.F ht⟩) hS.2.2 dX2_factOf_85
    · refine lv_tableIn (tgt := 86) hx hb dX2_factOf_1 (by omega) (by omega) (by rw [hj2]; rfl) (by decide) ?_
      refine lv_aload_n hx hb dX2_factOf_86 rfl (lv_at hl 0 rfl) ?_
      obtain ⟨v8_0, v8_1, v8_2, v8_3, v8_4, v8_5, v8_6, v8_7, v8_8, v8_9, v8_10, v8_11, v8_12, v8_13, v8_14, v8_15, v8_16, v8_17, v8_18, v8_19, hM8, h8_3, h8_4, h8_5, h8_6, h8_7, h8_8, h8_9, h8_10, h8_11, h8_12, h8_13, h8_16, h8_17, h8_18, h8_19⟩ := hW.open_2 ia
      refine pg_get (D := D) (ci := 2) (v := .ref v8_16) (C := RX2) (T := TX2) (N := 20) hx hb hg inG2 hown hK hP ia.1 hM8 rfl 16 (by decide) (hg _ wd_321) (fun _ h9 => h9) rfl dX2_factOf_87 ?_
      obtain ⟨n9, v9_0, v9_1, v9_2, v9_3, hM9, h9_0, h9_1, h9_2, h9_3, y9_0⟩ := hW.open_1 h8_16
      refine pg_get (D := D) (ci := 1) (v := .int (nI v9_3)) (C := RX1) (T := TX1) (N := 4) hx hb hg inG1 hown hK hP h8_16.1 hM9 rfl 3 (by decide) (hg _ wd_322) (fun _ h9 => h9) rfl dX2_factOf_90 ?_
      rw [hQ]
      exact W.iret (v := (nI v9_3)) hx hb hr (fun t ht hW9 => ⟨⟨(nI v9_3), (), rfl, (by unfold hfa; rw [if_neg (by omega), if_neg (by omega), if_neg (by omega), if_neg (by omega), if_neg (by omega), if_neg (by omega), if_pos (by omega)]; rw [rA_of (j := 16) hM8 rfl]; exact (cV_of (t := 1) (j := 3) hM9 rfl).symm), ⟨by rw [ht]; exact hP, hD⟩⟩, hS.F ht⟩) hS.2.2 dX2_factOf_93
    · refine lv_tableIn (tgt := 94) hx hb dX2_factOf_1 (by omega) (by omega) (by rw [hj2]; rfl) (by decide) ?_
      refine lv_aload_n hx hb dX2_factOf_94 rfl (lv_at hl 0 rfl) ?_
      obtain ⟨v10_0, v10_1, v10_2, v10_3, v10_4, v10_5, v10_6, v10_7, v10_8, v10_9, v10_10, v10_11, v10_12, v10_13, v10_14, v10_15, v10_16, v10_17, v10_18, v10_19, hM10, h10_3, h10_4, h10_5, h10_6, h10_7, h10_8, h10_9, h10_10, h10_11, h10_12, h10_13, h10_16, h10_17, h10_18, h10_19⟩ := hW.open_2 ia
      refine pg_get (D := D) (ci := 2) (v := .ref v10_17) (C := RX2) (T := TX2) (N := 20) hx hb hg inG2 hown hK hP ia.1 hM10 rfl 17 (by decide) (hg _ wd_323) (fun _ h9 => h9) rfl dX2_factOf_95 ?_
      obtain ⟨n11, v11_0, v11_1, v11_2, v11_3, hM11, h11_0, h11_1, h11_2, h11_3, y11_0⟩ := hW.open_1 h10_17
      refine pg_get (D := D) (ci := 1) (v := .int (nI v11_3)) (C := RX1) (T := TX1) (N := 4) hx hb hg inG1 hown hK hP h10_17.1 hM11 rfl 3 (by decide) (hg _ wd_322) (fun _ h9 => h9) rfl dX2_factOf_98 ?_
      rw [hQ]
      exact W.iret (v := (nI v11_3)) hx hb hr (fun t ht hW9 => ⟨⟨(nI v11_3), (), rfl, (by unfold hfa; rw [if_neg (by omega), if_neg (by omega), if_neg (by omega), if_neg (by omega), if_neg (by omega), if_neg (by omega), if_neg (by omega), if_pos (by omega)]; rw [rA_of (j := 17) hM10 rfl]; exact (cV_of (t := 1) (j := 3) hM11 rfl).symm), ⟨by rw [ht]; exact hP, hD⟩⟩, hS.F ht⟩) hS.2.2 dX2_factOf_101
    · refine lv_tableIn (tgt := 102) hx hb dX2_factOf_1 (by omega) (by omega) (by rw [hj2]; rfl) (by decide) ?_
      refine lv_aload_n hx hb dX2_factOf_102 rfl (lv_at hl 0 rfl) ?_
      obtain ⟨v12_0, v12_1, v12_2, v12_3, v12_4, v12_5, v12_6, v12_7, v12_8, v12_9, v12_10, v12_11, v12_12, v12_13, v12_14, v12_15, v12_16, v12_17, v12_18, v12_19, hM12, h12_3, h12_4, h12_5, h12_6, h12_7, h12_8, h12_9, h12_10, h12_11, h12_12, h12_13, h12_16, h12_17, h12_18, h12_19⟩ := hW.open_2 ia
      refine pg_get (D := D) (ci := 2) (v := .ref v12_19) (C := RX2) (T := TX2) (N := 20) hx hb hg inG2 hown hK hP ia.1 hM12 rfl 19 (by decide) (hg _ wd_324) (fun _ h9 => h9) rfl dX2_factOf_103 ?_
      obtain ⟨v13_0, v13_1, v13_2, v13_3, v13_4, hM13, h13_0, h13_1, h13_2, h13_3⟩ := hW.open_0 h12_19
      refine pg_get (D := D) (ci := 0) (v := .int (nI v13_3)) (C := RX0) (T := TX0) (N := 5) hx hb hg inG0 hown hK hP h12_19.1 hM13 rfl 3 (by decide) (hg _ wd_325) (fun _ h9 => h9) rfl dX2_factOf_106 ?_
      rw [hQ]
      exact W.iret (v := (nI v13_3)) hx hb hr (fun t ht hW9 => ⟨⟨(nI v13_3), (), rfl, (by unfold hfa; rw [if_neg (by omega), if_neg (by omega), if_neg (by omega), if_neg (by omega), if_neg (by omega), if_neg (by omega), if_neg (by omega), if_neg (by omega), if_pos (by omega)]; rw [rA_of (j := 19) hM12 rfl]; exact (cV_of (t := 0) (j := 3) hM13 rfl).symm), ⟨by rw [ht]; exact hP, hD⟩⟩, hS.F ht⟩) hS.2.2 dX2_factOf_109
    · refine lv_tableIn (tgt := 110) hx hb dX2_factOf_1 (by omega) (by omega) (by rw [hj2]; rfl) (by decide) ?_
      refine lv_aload_n hx hb dX2_factOf_110 rfl (lv_at hl 0 rfl) ?_
      obtain ⟨v14_0, v14_1, v14_2, v14_3, v14_4, v14_5, v14_6, v14_7, v14_8, v14_9, v14_10, v14_11, v14_12, v14_13, v14_14, v14_15, v14_16, v14_17, v14_18, v14_19, hM14, h14_3, h14_4, h14_5, h14_6, h14_7, h14_8, h14_9, h14_10, h14_11, h14_12, h14_13, h14_16, h14_17, h14_18, h14_19⟩ := hW.open_2 ia
      have hPc : va_P D vwCl ([] ++ va_pl L M) s.heap := hP
      have hDc : va_D A ([] ++ va_pl L M) := hD
      have hFc : ∀ q, va_A ([] ++ va_pl L M) s.heap.size q → A q := pg_free hDc hS hA
      refine va_calli (va_runV (As := []) (rest := []) ⟨hx, hb, hml, hown, hg⟩ (e_fod l D cy K L M s.heap.size oa  hW ia hto) (cwV 0 hg (gV wd_326 wd_327 wd_328 wd_57 wd_329) rfl rfl rfl (by decide +kernel) ⟨(Nat.le_trans (Nat.le_of_ble_eq_true rfl) hRf), (Nat.le_trans (Nat.le_of_ble_eq_true rfl) hRl)⟩) ⟨PG.blind, pg_recv hK hP ia.1 hM14 rfl, fun U hU hW => ⟨rfl, PG.at hPc hK hDc hN hU hW⟩⟩ rfl rfl hl.1 rfl (lv_room (Nat.le_of_ble_eq_true rfl)) dX2_factOf_111 ⟨(Nat.le_trans (Nat.le_of_ble_eq_true rfl) hRc), (Nat.le_trans (Nat.le_of_ble_eq_true rfl) hRs)⟩) hS (fun q _ h => hFc q h) hFc (fun r_16 M_17 t H_15 locs ht hvm hw hB hz1 hk1 hS => ?_)
      have hp_18 := hw
      obtain ⟨hP1, hD1⟩ := hB
      rw [ht] at hP1
      have hP : va_P D vwCl ([] ++ va_pl L M) H_15 := hP1
      have hD : va_D A ([] ++ va_pl L M) := hD1.mono hFc
      obtain ⟨j_19, rfl, c_20⟩ := hp_18
      rw [hQ]
      exact W.iret (v := (nI j_19)) hx hb hr (fun t ht hW9 => ⟨⟨(nI j_19), (), rfl, (by unfold hfa; rw [if_neg (by omega), if_neg (by omega), if_neg (by omega), if_neg (by omega), if_neg (by omega), if_neg (by omega), if_neg (by omega), if_neg (by omega), if_neg (by omega), if_pos (by omega)]; exact (congrArg nI (c_20.eq hto.1)).symm), ⟨by rw [ht]; exact hP, hD⟩⟩, hS.F ht⟩) hS.2.2 dX2_factOf_114
set_option maxHeartbeats 4000000 in
set_option maxRecDepth 100000 in
theorem x_told (l : Launch) (D : va_G) (cy : Nat → ClassId) (K : Kp) (L : List Nat) (M : Hp) (sz : Nat) (xa : Nat) (x0 : Nat) (x1 : Nat) (x2 : Nat) (x3 : Nat) (x4 : Nat) (x5 : Nat) (x6 : Nat) (x7 : Int32) (x8 : Nat) (x9 : Int32) (x10 : Int32) (k1 : Int32) (k2 : Int32) (Bo : Nat → Nat × Nat) (T : Int) (PK : Nat → Int32) (PT : Nat → Int32) (SX : Nat → Nat → Int) (SY : Nat → Nat → Nat → Int32) (hW : WOK cy K L M) (i0 : isk K L x0 17 8) (b1 : x1 ≤ 8) (i2 : isk K L x2 19 40) (b3 : x3 ≤ 40) (i4 : isk K L x4 7 0) (i5 : isk K L x5 5 0) (i6 : isk K L x6 60 24) (i8 : isk K L x8 73 25) (hC : CX Bo K L x0 x1 T x3 PK PT SX SY M) (hSV : ∀ k, k < x1 → SV (SX k) (SY k)) (hHI : ∀ k, k < x1 → HI (SX k) (SY k)) (hT : (0 ≤ T ∧ T ≤ 900000)) (hSC : SCX x0 x1 SX M) : Met l yX11_told (wsM yX11_told cX11_told 4 (some .int)) ({ frames := 4, cells := 0, slots := 0, locals := 84 }) (va_Pc [.ref xa, .int k1, .int k2] (PG D cy [(xa, (b11_1 x0 (nI x1) x2 (nI x3) x4 x5 x6 x7 x8 x9 x10))] L M sz)) (va_Qi (fun (r : Int32) (_ : Unit) => (r = anTd x1 SX SY k1 k2)) (fun _ t => PQ D [(xa, (b11_1 x0 (nI x1) x2 (nI x3) x4 x5 x6 x7 x8 x9 x10))] L M (va_A ([(xa, (b11_1 x0 (nI x1) x2 (nI x3) x4 x5 x6 x7 x8 x9 x10))] ++ va_pl L M) sz) t) (va_A ([(xa, (b11_1 x0 (nI x1) x2 (nI x3) x4 x5 x6 x7 x8 x9 x10))] ++ va_pl L M) sz)) 0 0 (va_A ([(xa, (b11_1 x0 (nI x1) x2 (nI x3) x4 x5 x6 x7 x8 x9 x10))] ++ va_pl L M) sz) := by
  refine Met.ofW (cc := cX11_told) (maxL := 4) (ret := (some .int)) (by decide) rfl ?_
  intro p e s m args below meth c s₁ B hml hv
  obtain ⟨rfl, hsz, hP, hK, hD0, hN⟩ := hv
  have hx := B.exec
  have hb := B.bytes
  have hr := B.returns
  have hts := atoms_spec (ws := (wsM yX11_told cX11_told 4 (some .int))) B.pre
  have hg : ∀ w ∈ lw_good, w.before _ s = true := fun w h => hts w (List.mem_cons_of_mem _ h)
  have hown : s.vm.findClass RX11 = some m.cls := findClass_of_methodNamed B.named
  have hlocks := B.notSynchronized
  subst hsz
  have hD := hD0.self (sz := s.heap.size)
  generalize hAe : va_A ([(xa, (b11_1 x0 (nI x1) x2 (nI x3) x4 x5 x6 x7 x8 x9 x10))] ++ va_pl L M) s.heap.size = A at hD ⊢
  have hA : ∀ q : Nat, s.heap.size ≤ q → A q := fun q h => by rw [← hAe]; exact Or.inr h
  have hS : va_S A s.heap s.heap [] := va_S.rf
  have hl := lv_entry ([.ref xa, .int k1, .int k2]) (n := 4) (Nat.le_of_ble_eq_true rfl)
  rw [lg_entry_eq]
  generalize (lg_sl ([.ref xa, .int k1, .int k2]) ++ List.replicate (4 - (lg_sl ([.ref xa, .int k1, .int k2])).length) Slot.unset).toArray = ls at hl ⊢
  refine W.nameQ (fun Q hQ => ?_)
  refine W.nameR (fun R hR => ?_)
  have hRf : 4 ≤ R.frames := by rw [hR]; exact Nat.le_of_ble_eq_true rfl
  have hRl : 84 ≤ R.locals := by rw [hR]; exact Nat.le_of_ble_eq_true rfl
  have hRc : 0 ≤ R.cells := by rw [hR]; exact Nat.le_of_ble_eq_true rfl
  have hRs : 0 ≤ R.slots := by rw [hR]; exact Nat.le_of_ble_eq_true rfl
  have hl : lv_has ls 4 [(0, .ref xa), (1, .int k1), (2, .int k2)] := hl
  have hW0 := hW
  refine lv_aload_n hx hb dX11_told_0 rfl (lv_at hl 0 rfl) ?_
  refine lv_iload_n hx hb dX11_told_1 rfl (lv_at hl 1 rfl) ?_
  have hPc : va_P D vwCl ([(xa, (b11_1 x0 (nI x1) x2 (nI x3) x4 x5 x6 x7 x8 x9 x10))] ++ va_pl L M) s.heap := hP
  have hDc : va_D A ([(xa, (b11_1 x0 (nI x1) x2 (nI x3) x4 x5 x6 x7 x8 x9 x10))] ++ va_pl L M) := hD
  have hFc : ∀ q, va_A ([(xa, (b11_1 x0 (nI x1) x2 (nI x3) x4 x5 x6 x7 x8 x9 x10))] ++ va_pl L M) s.heap.size q → A q := pg_free hDc hS hA
  refine va_callq (va_runV (As := [.int k1]) (rest := []) ⟨hx, hb, hml, hown, hg⟩ (e_houseAt l D cy K L M s.heap.size xa x0 x1 x2 x3 x4 x5 x6 x7 x8 x9 x10 k1 Bo T PK PT SX SY  hW i0 b1 i2 b3 i4 i5 i6 i8 hC) (cwV 1 hg (gV wd_340 wd_341 wd_342 wd_3 wd_343) rfl rfl rfl (by decide +kernel) ⟨(Nat.le_trans (Nat.le_of_ble_eq_true rfl) hRf), (Nat.le_trans (Nat.le_of_ble_eq_true rfl) hRl)⟩) ⟨PG.blind, va_recv hK hP (ci := 11) (q0 := 0) rfl rfl, fun U hU hW => ⟨rfl, PG.at hPc hK hDc hN hU hW⟩⟩ rfl rfl hl.1 rfl (lv_room (Nat.le_of_ble_eq_true rfl)) dX11_told_2 ⟨(Nat.le_trans (Nat.le_of_ble_eq_true rfl) hRc), (Nat.le_trans (Nat.le_of_ble_eq_true rfl) hRs)⟩) hS (fun q _ h => hFc q h) hFc (fun r_2 M_3 t H_1 locs ht hvm hw hB hz1 hk1 hS => ?_)
  have hp_4 := hw
  obtain ⟨hP1, hD1⟩ := hB
  rw [ht] at hP1
  have hP : va_P D vwCl ([(xa, (b11_1 x0 (nI x1) x2 (nI x3) x4 x5 x6 x7 x8 x9 x10))] ++ va_pl L M) H_1 := hP1
  have hD : va_D A ([(xa, (b11_1 x0 (nI x1) x2 (nI x3) x4 x5 x6 x7 x8 x9 x10))] ++ va_pl L M) := hD1.mono hFc
  obtain ⟨hp_4, hqx⟩ := hp_4
  rcases r_2 with _ | b_5
  · have hz := rfl (a := 0)
    refine lv_astore_nN (lv' := [(3, .null), (0, .ref xa), (1, .int k1), (2, .int k2)]) hx hb dX11_told_5 rfl hl (by decide) rfl (fun ls hl => ?_)
    refine lv_aload_nN hx hb dX11_told_6 rfl (lv_at hl 0 rfl) ?_
    refine lv_ifnonnullN hx hb dX11_told_7 ?_
    refine lv_iconst (v := (-1)) hx hb dX11_told_10 (by decide) ?_
    refine lv_goto (tgt := 19) hx hb dX11_told_11 (by decide) ?_
    have hnh := hqx.2 rfl
    have hno : ¬ okH x1 k1 := fun q9 => by unfold okH at q9; first | omega | (obtain ⟨_, _⟩ := q9; first | omega | contradiction)
    rw [hQ]
    exact W.iret (v := (-1)) hx hb hr (fun t ht hW9 => ⟨⟨(-1), (), rfl, (by unfold anTd; rw [if_neg hno]), ⟨by rw [ht]; exact hP, hD⟩⟩, hS.F ht⟩) hS.2.2 dX11_told_19
  · have hb_6 := hp_4 b_5 rfl
    refine lv_astore_n (lv' := [(3, .ref b_5), (0, .ref xa), (1, .int k1), (2, .int k2)]) hx hb dX11_told_5 rfl hl (by decide) rfl (fun ls hl => ?_)
    obtain ⟨hr9, hb9⟩ := hqx.1 b_5 rfl
    have hck : ((k1 : Int32).toNatClampNeg : Int) = (k1 : Int32).toInt := clT (by omega)
    have hkn : (k1 : Int32).toNatClampNeg < x1 := by omega
    have hSM := hC.at hkn hb9
    have hSVk := hSV (k1 : Int32).toNatClampNeg hkn
    have hHIk := hHI (k1 : Int32).toNatClampNeg hkn
    have hV : VC Bo K L M M b_5 (cfx M b_5) (cax M b_5) := VC.rf b_5 hC.oc
    obtain ⟨v7_0, v7_1, v7_2, v7_3, v7_4, v7_5, v7_6, v7_7, v7_8, v7_9, v7_10, v7_11, v7_12, v7_13, v7_14, v7_15, v7_16, v7_17, v7_18, v7_19, hM7, h7_3, h7_4, h7_5, h7_6, h7_7, h7_8, h7_9, h7_10, h7_11, h7_12, h7_13, h7_16, h7_17, h7_18, h7_19⟩ := hW.open_2 hb_6
    have hA_8 : (cV 2 M b_5 0).toInt = (v7_0 : Int32).toInt := by rw [cV_of hM7 rfl]
    have hA_9 : (cV 2 M b_5 1).toInt = (v7_1 : Int32).toInt := by rw [cV_of hM7 rfl]
    have hA_10 : (cV 2 M b_5 2).toInt = (v7_2 : Int32).toInt := by rw [cV_of hM7 rfl]
    have hA_11 : (cV 2 M b_5 4).toInt = ((v7_4 : Nat) : Int) := by rw [cV_of hM7 rfl]; exact nI_toInt (by omega)
    have hA_12 : (cV 2 M b_5 5).toInt = ((v7_5 : Nat) : Int) := by rw [cV_of hM7 rfl]; exact nI_toInt (by omega)
    have hA_13 : (cV 2 M b_5 9).toInt = ((v7_9 : Nat) : Int) := by rw [cV_of hM7 rfl]; exact nI_toInt (by omega)
    have hA_14 : (cV 2 M b_5 11).toInt = ((v7_11 : Nat) : Int) := by rw [cV_of hM7 rfl]; exact nI_toInt (by omega)
    have hA_15 : (cV 2 M b_5 15).toInt = (v7_15 : Int32).toInt := by rw [cV_of hM7 rfl]
    have hq0 : (cV 2 M b_5 1).toInt = SX (k1 : Int32).toNatClampNeg 0 := hSM.x0
    have hq1 : (cV 2 M b_5 2).toInt = SX (k1 : Int32).toNatClampNeg 1 := hSM.x1
    have hq10 : (cV 2 M b_5 9).toInt = SX (k1 : Int32).toNatClampNeg 10 := hSM.x10
    have hq11 : (cV 2 M b_5 11).toInt = SX (k1 : Int32).toNatClampNeg 11 := hSM.x11
    have hq12 : (cV 2 M b_5 4).toInt = SX (k1 : Int32).toNatClampNeg 12 := hSM.x12
    have hq13 : (cV 2 M b_5 5).toInt = SX (k1 : Int32).toNatClampNeg 13 := hSM.x13
    have hq14 : (cV 1 M v7_16 3).toInt = SX (k1 : Int32).toNatClampNeg 14 := by have h9 := hSM.x14; rw [← h9]; show _ = (cV 1 M (rA 2 M b_5 16) 3).toInt; rw [rA_of (j := 16) hM7 rfl]
    have hq15 : (cV 1 M v7_17 3).toInt = SX (k1 : Int32).toNatClampNeg 15 := by have h9 := hSM.x15; rw [← h9]; show _ = (cV 1 M (rA 2 M b_5 17) 3).toInt; rw [rA_of (j := 17) hM7 rfl]
    have hq16 : (cV 10 M v7_18 2).toInt = SX (k1 : Int32).toNatClampNeg 16 := by have h9 := hSM.x16; rw [← h9]; show _ = (cV 10 M (rA 2 M b_5 18) 2).toInt; rw [rA_of (j := 18) hM7 rfl]
    have hq19 : (cV 10 M v7_18 1).toInt = cfx M b_5 19 := by show _ = (cV 10 M (rA 2 M b_5 18) 1).toInt; rw [rA_of (j := 18) hM7 rfl]
    have hun := hSM.un
    have hl16 : (ALc (M (rA 1 M v7_16 1)) : Int) = 120 := by have h9 := hC.oc.l16 hW hb_6; rw [rA_of (j := 16) hM7 rfl] at h9; omega
    have hl17 : (ALc (M (rA 1 M v7_17 1)) : Int) = 20 := by have h9 := hC.oc.l17 hW hb_6; rw [rA_of (j := 17) hM7 rfl] at h9; omega
    have hbd0 := hSVk.b0
    have hbd1 := hSVk.b1
    have hbd10 := hSVk.b10
    have hbd11 := hSVk.b11
    have hbd12 := hSVk.b12
    have hbd13 := hSVk.b13
    have hbd14 := hSVk.b14
    have hbd15 := hSVk.b15
    have hbd16 := hSVk.b16
    have hqx14 : cfx M b_5 14 = SX (k1 : Int32).toNatClampNeg 14 := hSM.x14
    have hqx15 : cfx M b_5 15 = SX (k1 : Int32).toNatClampNeg 15 := hSM.x15
    have hqx16 : cfx M b_5 16 = SX (k1 : Int32).toNatClampNeg 16 := hSM.x16
    refine lv_aload_n hx hb dX11_told_6 rfl (lv_at hl 0 rfl) ?_
    refine lv_ifnonnull (tgt := 14) hx hb dX11_told_7 (by decide) ?_
    have hto9 : -1 ≤ (cV 2 M b_5 2).toInt ∧ (cV 2 M b_5 2).toInt ≤ 999 := by have h8 : (cV 2 M b_5 2).toInt = SX k1.toNatClampNeg 1 := hSM.x1; rw [h8]; exact hSVk.b1
    obtain ⟨c9, hc91, hc92⟩ := clos hW hb_6
    have hs17 : (cV 0 M (rA 2 M b_5 19) 3).toInt = SX k1.toNatClampNeg 17 := by unfold rA; rw [hc91]; exact hSC.at (by omega) hb9 hc91
    refine lv_aload_n hx hb dX11_told_14 rfl (lv_at hl 0 rfl) ?_
    refine lv_iload_n hx hb dX11_told_15 rfl (lv_at hl 3 rfl) ?_
    have hPc : va_P D vwCl ([] ++ va_pl L M) H_1 := hP.part (cx := []) [] rfl
    have hDc : va_D A ([] ++ va_pl L M) := hD.part (cx := []) [] (by decide) rfl
    have hFc : ∀ q, va_A ([] ++ va_pl L M) H_1.size q → A q := pg_free hDc hS hA
    refine va_calli (va_runV (As := [.int k2]) (rest := []) ⟨hx, hb, hml, hown, hg⟩ (e_hfact l D cy K L M H_1.size b_5 k2  hW hb_6 hto9) (cwV 1 hg (gV wd_503 wd_504 wd_505 wd_57 wd_506) rfl rfl rfl (by decide +kernel) ⟨(Nat.le_trans (Nat.le_of_ble_eq_true rfl) hRf), (Nat.le_trans (Nat.le_of_ble_eq_true rfl) hRl)⟩) ⟨PG.blind, pg_recv hK hP hb_6.1 hM7 rfl, fun U hU hW => ⟨rfl, PG.at hPc hK hDc hN hU hW⟩⟩ rfl rfl hl.1 rfl (lv_room (Nat.le_of_ble_eq_true rfl)) dX11_told_16 ⟨(Nat.le_trans (Nat.le_of_ble_eq_true rfl) hRc), (Nat.le_trans (Nat.le_of_ble_eq_true rfl) hRs)⟩) hS (fun q _ h => hFc q h) hFc (fun r_17 M_18 t H_16 locs ht hvm hw hB hz1 hk1 hS => ?_)
    have hp_19 := hw
    obtain ⟨hP1, hD1⟩ := hB
    rw [ht] at hP1
    obtain ⟨hP, hD⟩ := va_joinP (X := [(xa, (b11_1 x0 (nI x1) x2 (nI x3) x4 x5 x6 x7 x8 x9 x10))]) (cx := []) (wr := [(xa, (b11_1 x0 (nI x1) x2 (nI x3) x4 x5 x6 x7 x8 x9 x10))]) (rx := []) (pl := va_pl L M) (pl1 := va_pl L M) hP hD [] [0] rfl rfl (by decide) (by decide) hk1 hFc hP1 hD1
    have hP : va_P D vwCl ([(xa, (b11_1 x0 (nI x1) x2 (nI x3) x4 x5 x6 x7 x8 x9 x10))] ++ va_pl L M) H_16 := hP
    have hD : va_D A ([(xa, (b11_1 x0 (nI x1) x2 (nI x3) x4 x5 x6 x7 x8 x9 x10))] ++ va_pl L M) := hD
    obtain rfl := hp_19
    have hyes : okH x1 k1 := by unfold okH; refine ⟨?_, ?_⟩ <;> first | omega | assumption
    rw [hQ]
    exact W.iret (v := (hfa M b_5 k2)) hx hb hr (fun t ht hW9 => ⟨⟨(hfa M b_5 k2), (), rfl, (by unfold anTd; rw [if_pos hyes]; exact hfa_S hSM hs17 hSVk.b1), ⟨by rw [ht]; exact hP, hD⟩⟩, hS.F ht⟩) hS.2.2 dX11_told_19
set_option maxHeartbeats 4000000 in
set_option maxRecDepth 100000 in
theorem z_told (l : Launch) (D : va_G) (cy : Nat → ClassId) (K : Kp) (L : List Nat) (M : Hp) (sz : Nat) (za : Nat) (z0 : Int32) (z1 : Nat) (z2 : Nat) (z3 : Nat) (z4 : Int32) (z5 : Int32) (z6 : Nat) (z7 : Nat) (z8 : Nat) (z9 : Nat) (z10 : Nat) (z11 : Nat) (z12 : Nat) (z13 : Nat) (z14 : Nat) (z15 : Nat) (z16 : Nat) (z17 : Nat) (z18 : Int32) (z19 : Nat) (k1 : Int32) (k2 : Int32) (SX : Nat → Nat → Int) (SY : Nat → Nat → Nat → Int32) (hW : WOM cy K L M) (i1 : isk K L z1 23 8) (b2 : z2 ≤ 8) (b3 : z3 ≤ 40) (i6 : isk K L z6 47 40) (i7 : isk K L z7 48 40) (i8 : isk K L z8 49 8) (i9 : isk K L z9 50 8) (b10 : z10 ≤ 8) (i11 : isk K L z11 32 24) (i12 : isk K L z12 14 24) (i13 : isk K L z13 97 24) (i14 : isk K L z14 98 24) (i15 : isk K L z15 99 24) (b16 : z16 ≤ 24) (i17 : isk K L z17 14 24) (i19 : isk K L z19 15 25) (hGI : GI K L z1 z2 M) (hZS : ZSx z1 z2 SX SY M) : Met l yX13_told (wsM yX13_told cX13_told 5 (some .int)) ({ frames := 1, cells := 0, slots := 0, locals := 21 }) (va_Pc [.ref za, .int k1, .int k2] (PG D cy [(za, (b13_0 z0 z1 (nI z2) (nI z3) z4 z5 z6 z7 z8 z9 (nI z10) z11 z12 z13 z14 z15 (nI z16) z17 z18 z19))] L M sz)) (va_Qi (fun (r : Int32) (_ : Unit) => (r = anTd z2 SX SY k1 k2)) (fun _ t => PQ D [(za, (b13_0 0 z1 (nI z2) (nI z3) z4 z5 z6 z7 z8 z9 (nI z10) z11 z12 z13 z14 z15 (nI z16) z17 z18 z19))] L M (va_A ([(za, (b13_0 z0 z1 (nI z2) (nI z3) z4 z5 z6 z7 z8 z9 (nI z10) z11 z12 z13 z14 z15 (nI z16) z17 z18 z19))] ++ va_pl L M) sz) t) (va_A ([(za, (b13_0 z0 z1 (nI z2) (nI z3) z4 z5 z6 z7 z8 z9 (nI z10) z11 z12 z13 z14 z15 (nI z16) z17 z18 z19))] ++ va_pl L M) sz)) 0 0 (va_A ([(za, (b13_0 z0 z1 (nI z2) (nI z3) z4 z5 z6 z7 z8 z9 (nI z10) z11 z12 z13 z14 z15 (nI z16) z17 z18 z19))] ++ va_pl L M) sz) := by
  refine Met.ofW (cc := cX13_told) (maxL := 5) (ret := (some .int)) (by decide) rfl ?_
  intro p e s m args below meth c s₁ B hml hv
  obtain ⟨rfl, hsz, hP, hK, hD0, hN⟩ := hv
  have hx := B.exec
  have hb := B.bytes
  have hr := B.returns
  have hts := atoms_spec (ws := (wsM yX13_told cX13_told 5 (some .int))) B.pre
  have hg : ∀ w ∈ lw_good, w.before _ s = true := fun w h => hts w (List.mem_cons_of_mem _ h)
  have hown : s.vm.findClass RX13 = some m.cls := findClass_of_methodNamed B.named
  have hlocks := B.notSynchronized
  subst hsz
  have hD := hD0.self (sz := s.heap.size)
  generalize hAe : va_A ([(za, (b13_0 z0 z1 (nI z2) (nI z3) z4 z5 z6 z7 z8 z9 (nI z10) z11 z12 z13 z14 z15 (nI z16) z17 z18 z19))] ++ va_pl L M) s.heap.size = A at hD ⊢
  have hA : ∀ q : Nat, s.heap.size ≤ q → A q := fun q h => by rw [← hAe]; exact Or.inr h
  have hS : va_S A s.heap s.heap [] := va_S.rf
  have hl := lv_entry ([.ref za, .int k1, .int k2]) (n := 5) (Nat.le_of_ble_eq_true rfl)
  rw [lg_entry_eq]
  generalize (lg_sl ([.ref za, .int k1, .int k2]) ++ List.replicate (5 - (lg_sl ([.ref za, .int k1, .int k2])).length) Slot.unset).toArray = ls at hl ⊢
  refine W.nameQ (fun Q hQ => ?_)
  refine W.nameR (fun R hR => ?_)
  have hRf : 1 ≤ R.frames := by rw [hR]; exact Nat.le_of_ble_eq_true rfl
  have hRl : 21 ≤ R.locals := by rw [hR]; exact Nat.le_of_ble_eq_true rfl
  have hRc : 0 ≤ R.cells := by rw [hR]; exact Nat.le_of_ble_eq_true rfl
  have hRs : 0 ≤ R.slots := by rw [hR]; exact Nat.le_of_ble_eq_true rfl
  have hl : lv_has ls 5 [(0, .ref za), (1, .int k1), (2, .int k2)] := hl
  have hW0 := hW
  refine lv_aload_n hx hb dX13_told_0 rfl (lv_at hl 0 rfl) ?_
  refine lv_iconst (v := 0) hx hb dX13_told_1 (by decide) ?_
  refine va_put (D := D) (ci := 13) (v := .int 0) (ty := .int) (C := RX13) (T := TX13) (N := 20) hx hb hg inG13 tyX13 tyX13_ok nmX13 hown hK hP hD hS 0 rfl rfl 0 (by decide) (hg _ wd_720) (fun _ h9 => h9) rfl (by decide +kernel) rfl rfl (Nat.le_of_ble_eq_true rfl) dX13_told_2 (fun H_1 locs hP hD hS => ?_)
  have hP : va_P D vwCl ([(za, (b13_0 0 z1 (nI z2) (nI z3) z4 z5 z6 z7 z8 z9 (nI z10) z11 z12 z13 z14 z15 (nI z16) z17 z18 z19))] ++ va_pl L M) H_1 := hP
  have hD : va_D A ([(za, (b13_0 0 z1 (nI z2) (nI z3) z4 z5 z6 z7 z8 z9 (nI z10) z11 z12 z13 z14 z15 (nI z16) z17 z18 z19))] ++ va_pl L M) := hD
  refine lv_aload_n hx hb dX13_told_5 rfl (lv_at hl 0 rfl) ?_
  refine lv_iload_n hx hb dX13_told_6 rfl (lv_at hl 1 rfl) ?_
  have hPc : va_P D vwCl ([(za, (b13_0 0 z1 (nI z2) (nI z3) z4 z5 z6 z7 z8 z9 (nI z10) z11 z12 z13 z14 z15 (nI z16) z17 z18 z19))] ++ va_pl L M) H_1 := hP
  have hDc : va_D A ([(za, (b13_0 0 z1 (nI z2) (nI z3) z4 z5 z6 z7 z8 z9 (nI z10) z11 z12 z13 z14 z15 (nI z16) z17 z18 z19))] ++ va_pl L M) := hD
  have hFc : ∀ q, va_A ([(za, (b13_0 0 z1 (nI z2) (nI z3) z4 z5 z6 z7 z8 z9 (nI z10) z11 z12 z13 z14 z15 (nI z16) z17 z18 z19))] ++ va_pl L M) H_1.size q → A q := pg_free hDc hS hA
  refine va_calli (va_runV (As := [.int k1]) (rest := []) ⟨hx, hb, hml, hown, hg⟩ (f_isHouse l D cy K L M H_1.size za 0 z1 z2 z3 z4 z5 z6 z7 z8 z9 z10 z11 z12 z13 z14 z15 z16 z17 z18 z19 k1  hW i1 b2 b3 i6 i7 i8 i9 b10 i11 i12 i13 i14 i15 b16 i17 i19) (cwV 1 hg (gV wd_714 wd_715 wd_716 wd_717 wd_718) rfl rfl rfl (by decide +kernel) ⟨(Nat.le_trans (Nat.le_of_ble_eq_true rfl) hRf), (Nat.le_trans (Nat.le_of_ble_eq_true rfl) hRl)⟩) ⟨PG.blind, va_recv hK hP (ci := 13) (q0 := 0) rfl rfl, fun U hU hW => ⟨rfl, PG.at hPc hK hDc hN hU hW⟩⟩ rfl rfl hl.1 rfl (lv_room (Nat.le_of_ble_eq_true rfl)) dX13_told_7 ⟨(Nat.le_trans (Nat.le_of_ble_eq_true rfl) hRc), (Nat.le_trans (Nat.le_of_ble_eq_true rfl) hRs)⟩) hS (fun q _ h => hFc q h) hFc (fun r_3 M_4 t H_2 locs ht hvm hw hB hz1 hk1 hS => ?_)
  have hp_5 := hw
  obtain ⟨hP1, hD1⟩ := hB
  rw [ht] at hP1
  have hP : va_P D vwCl ([(za, (b13_0 0 z1 (nI z2) (nI z3) z4 z5 z6 z7 z8 z9 (nI z10) z11 z12 z13 z14 z15 (nI z16) z17 z18 z19))] ++ va_pl L M) H_2 := hP1
  have hD : va_D A ([(za, (b13_0 0 z1 (nI z2) (nI z3) z4 z5 z6 z7 z8 z9 (nI z10) z11 z12 z13 z14 z15 (nI z16) z17 z18 z19))] ++ va_pl L M) := hD1.mono hFc
  rcases hp_5 with ⟨rfl, c_6, c_7, c_8⟩ | ⟨rfl, c_9⟩
  · have hz := rfl (a := 0)
    refine lv_if_ne (tgt := 15) hx hb dX13_told_10 (by decide) (fun _ => ?_) (fun c_10 => absurd c_10 (by decide))
    refine lv_aload_n hx hb dX13_told_15 rfl (lv_at hl 0 rfl) ?_
    refine va_get (D := D) (ci := 13) (v := .ref z1) (C := RX13) (T := TX13) (N := 20) hx hb hg inG13 hown hK hP 0 rfl rfl 1 (by decide) (hg _ wd_739) (fun _ h9 => h9) rfl dX13_told_16 ?_
    refine lv_iload_n hx hb dX13_told_19 rfl (lv_at hl 1 rfl) ?_
    obtain ⟨f11, hM11, hf11⟩ := hW.open_23 i1
    have hi_12 : vp_in k1 8 := (inbW (a := z2) (by omega) (inb k1 z2 (by omega) c_7 c_8))
    refine pg_aldq hx hb hK hP i1.1 9 hM11 rfl hi_12 dX13_told_20 ?_
    obtain ⟨b13, eb_14, hb_15⟩ := hf11 _ (vp_lt hi_12)
    rw [eb_14]
    have hact : ACT z1 z2 b13 M := ⟨(k1 : Int32).toNatClampNeg, vp_lt (inb k1 z2 (by omega) c_7 c_8), by rw [show RFc (M z1) = f11 from by rw [hM11]; rfl]; exact eb_14⟩
    have hAT := GI.at hGI hact
    have hV : VW K L M M b13 (fx M b13) (ax M b13) := VW.rf b13 hGI.2.2.2
    refine lv_astore_n (lv' := [(3, .ref b13), (0, .ref za), (1, .int k1), (2, .int k2)]) hx hb dX13_told_21 rfl hl (by decide) rfl (fun ls hl => ?_)
    have hb9 : RFc (M z1) (k1 : Int32).toNatClampNeg = some b13 := by rw [show RFc (M z1) = f11 from by rw [hM11]; rfl]; exact eb_14
    have hkn : (k1 : Int32).toNatClampNeg < z2 := vp_lt (inb k1 z2 (by omega) c_7 c_8)
    have hZk := hZS _ b13 hkn hb9
    have hz0 : fx M b13 0 = SX (k1 : Int32).toNatClampNeg 0 := congrFun hZk.1 0
    have hz1 : fx M b13 1 = SX (k1 : Int32).toNatClampNeg 1 := congrFun hZk.1 1
    have hz10 : fx M b13 10 = SX (k1 : Int32).toNatClampNeg 10 := congrFun hZk.1 10
    have hz11 : fx M b13 11 = SX (k1 : Int32).toNatClampNeg 11 := congrFun hZk.1 11
    have hz12 : fx M b13 12 = SX (k1 : Int32).toNatClampNeg 12 := congrFun hZk.1 12
    have hz13 : fx M b13 13 = SX (k1 : Int32).toNatClampNeg 13 := congrFun hZk.1 13
    have hz14 : fx M b13 14 = SX (k1 : Int32).toNatClampNeg 14 := congrFun hZk.1 14
    have hz15 : fx M b13 15 = SX (k1 : Int32).toNatClampNeg 15 := congrFun hZk.1 15
    have hz16 : fx M b13 16 = SX (k1 : Int32).toNatClampNeg 16 := congrFun hZk.1 16
    obtain ⟨fs16, hM16, hn16, hl16⟩ := hW.open_12 hb_15
    obtain ⟨v17, hv17, hc17⟩ : ∃ v : Nat, fs16[0]? = some (.int (nI v) : Value) ∧ v ≤ 999 := hl16 0 (by decide)
    have hx0 : (fx M b13 0) = ((v17 : Nat) : Int) := (congrFun hV.2.1 0).symm.trans ((fx_of hM16 rfl hv17).trans (nI_toInt (by omega)))
    obtain ⟨v18, hv18, hc18⟩ : ∃ v : Nat, fs16[10]? = some (.int (nI v) : Value) ∧ v ≤ 24 := hl16 10 (by decide)
    have hx10 : (fx M b13 10) = ((v18 : Nat) : Int) := (congrFun hV.2.1 10).symm.trans ((fx_of hM16 rfl hv18).trans (nI_toInt (by omega)))
    obtain ⟨v19, hv19, hc19⟩ : ∃ v : Nat, fs16[11]? = some (.int (nI v) : Value) ∧ v ≤ 16 := hl16 11 (by decide)
    have hx11 : (fx M b13 11) = ((v19 : Nat) : Int) := (congrFun hV.2.1 11).symm.trans ((fx_of hM16 rfl hv19).trans (nI_toInt (by omega)))
    obtain ⟨v20, hv20, hc20⟩ : ∃ v : Nat, fs16[12]? = some (.int (nI v) : Value) ∧ v ≤ 12 := hl16 12 (by decide)
    have hx12 : (fx M b13 12) = ((v20 : Nat) : Int) := (congrFun hV.2.1 12).symm.trans ((fx_of hM16 rfl hv20).trans (nI_toInt (by omega)))
    obtain ⟨v21, hv21, hc21⟩ : ∃ v : Nat, fs16[13]? = some (.int (nI v) : Value) ∧ v ≤ 12 := hl16 13 (by decide)
    have hx13 : (fx M b13 13) = ((v21 : Nat) : Int) := (congrFun hV.2.1 13).symm.trans ((fx_of hM16 rfl hv21).trans (nI_toInt (by omega)))
    obtain ⟨v22, hv22, hc22⟩ : ∃ v : Nat, fs16[14]? = some (.int (nI v) : Value) ∧ v ≤ 120 := hl16 14 (by decide)
    have hx14 : (fx M b13 14) = ((v22 : Nat) : Int) := (congrFun hV.2.1 14).symm.trans ((fx_of hM16 rfl hv22).trans (nI_toInt (by omega)))
    obtain ⟨v23, hv23, hc23⟩ : ∃ v : Nat, fs16[15]? = some (.int (nI v) : Value) ∧ v ≤ 20 := hl16 15 (by decide)
    have hx15 : (fx M b13 15) = ((v23 : Nat) : Int) := (congrFun hV.2.1 15).symm.trans ((fx_of hM16 rfl hv23).trans (nI_toInt (by omega)))
    obtain ⟨v24, hv24, hc24⟩ : ∃ v : Nat, fs16[17]? = some (.int (nI v) : Value) ∧ v ≤ 120 := hl16 17 (by decide)
    have hx17 : (fx M b13 17) = ((v24 : Nat) : Int) := (congrFun hV.2.1 17).symm.trans ((fx_of hM16 rfl hv24).trans (nI_toInt (by omega)))
    obtain ⟨v25, hv25, hc25⟩ : ∃ v : Int32, fs16[1]? = some (.int v : Value) ∧ (v = (-1) ∨ ∃ c : Nat, c < 1000 ∧ v = nI c) := hl16 1 (by decide)
    have hx1 : (fx M b13 1) = (v25 : Int32).toInt := (congrFun hV.2.1 1).symm.trans (fx_of hM16 rfl hv25)
    have hz17 : fx M b13 17 = SX (k1 : Int32).toNatClampNeg 17 := congrFun hZk.1 17
    refine lv_iload_n hx hb dX13_told_22 rfl (lv_at hl 3 rfl) ?_
    by_cases hout : (k2 : Int32).toInt < 0 ∨ 9 < (k2 : Int32).toInt
    · refine lv_tableOut (tgt := 155) hx hb dX13_told_23 hout (by decide) ?_
      refine lv_iconst (v := (-1)) hx hb dX13_told_155 (by decide) ?_
      have hI_27 : (0 : Int) ≤ (k1 : Int32).toInt := inltI rfl rfl c_7
      have hI_28 : (k1 : Int32).toInt < ((z2 : Nat) : Int) := inleI (nI_toInt (by omega)) rfl c_8
      have hyes : okH z2 k1 := by unfold okH; refine ⟨?_, ?_⟩ <;> first | omega | assumption
      rw [hQ]
      exact W.iret (v := (-1)) hx hb hr (fun t ht hW9 => ⟨⟨(-1), (), rfl, (by unfold anTd; rw [if_pos hyes]; unfold tdS; rw [if_neg (by omega), if_neg (by omega), if_neg (by omega), if_neg (by omega), if_neg (by omega), if_neg (by omega), if_neg (by omega), if_neg (by omega), if_neg (by omega), if_neg (by omega)]), ⟨by rw [ht]; exact hP, hD⟩⟩, hS.F ht⟩) hS.2.2 dX13_told_156
    · obtain ⟨j_26, hj, hj2⟩ : ∃ j : Nat, j ≤ 9 ∧ (k2 : Int32).toInt = (j : Int) := ⟨(k2 : Int32).toInt.toNat, by omega, by omega⟩
      rcases (show j_26 = 0 ∨ j_26 = 1 ∨ j_26 = 2 ∨ j_26 = 3 ∨ j_26 = 4 ∨ j_26 = 5 ∨ j_26 = 6 ∨ j_26 = 7 ∨ j_26 = 8 ∨ j_26 = 9 by omega) with rfl | rfl | rfl | rfl | rfl | rfl | rfl | rfl | rfl | rfl
      · refine lv_tableIn (tgt := 76) hx hb dX13_told_23 (by omega) (by omega) (by rw [hj2]; rfl) (by decide) ?_
        refine lv_aload_n hx hb dX13_told_76 rfl (lv_at hl 0 rfl) ?_
        refine pg_getN (D := D) (ci := 12) (v := .int (nI v17)) (C := RX12) (T := TX12) (N := 51) hx hb hg inG12 hown hK hP hb_15.1 hM16 rfl 0 (by decide) (hN.use (Cond.fieldLinkNest RX13 77 RX12 "first" "I" RX13) 9 rfl rfl) (fun _ h9 => h9) hv17 dX13_told_77 ?_
        have hI_29 : (0 : Int) ≤ (k1 : Int32).toInt := inltI rfl rfl c_7
        have hI_30 : (k1 : Int32).toInt < ((z2 : Nat) : Int) := inleI (nI_toInt (by omega)) rfl c_8
        have hyes : okH z2 k1 := by unfold okH; refine ⟨?_, ?_⟩ <;> first | omega | assumption
        rw [hQ]
        exact W.iret (v := (nI v17)) hx hb hr (fun t ht hW9 => ⟨⟨(nI v17), (), rfl, (by unfold anTd; rw [if_pos hyes]; unfold tdS; rw [if_pos (by omega)]; exact i32v (by rw [nI_toInt (by omega)]; omega)), ⟨by rw [ht]; exact hP, hD⟩⟩, hS.F ht⟩) hS.2.2 dX13_told_80
      · refine lv_tableIn (tgt := 81) hx hb dX13_told_23 (by omega) (by omega) (by rw [hj2]; rfl) (by decide) ?_
        refine lv_aload_n hx hb dX13_told_81 rfl (lv_at hl 0 rfl) ?_
        refine pg_getN (D := D) (ci := 12) (v := .int v25) (C := RX12) (T := TX12) (N := 51) hx hb hg inG12 hown hK hP hb_15.1 hM16 rfl 1 (by decide) (hN.use (Cond.fieldLinkNest RX13 80 RX12 "to" "I" RX13) 10 rfl rfl) (fun _ h9 => h9) hv25 dX13_told_82 ?_
        rcases hc25 with rfl | ⟨c_31, hc_32, rfl⟩
        · have hz := rfl (a := 0)
          have hm1 : (-1 : Int32).toInt = -1 := rfl
          have hI_33 : (0 : Int) ≤ (k1 : Int32).toInt := inltI rfl rfl c_7
          have hI_34 : (k1 : Int32).toInt < ((z2 : Nat) : Int) := inleI (nI_toInt (by omega)) rfl c_8
          have hyes : okH z2 k1 := by unfold okH; refine ⟨?_, ?_⟩ <;> first | omega | assumption
          rw [hQ]
          exact W.iret (v := (-1)) hx hb hr (fun t ht hW9 => ⟨⟨(-1), (), rfl, (by unfold anTd; rw [if_pos hyes]; unfold tdS; rw [if_neg (by omega), if_pos (by omega)]; exact i32v (by show (-1 : Int) = _; omega)), ⟨by rw [ht]; exact hP, hD⟩⟩, hS.F ht⟩) hS.2.2 dX13_told_85
        · have hz := rfl (a := 0)
          have hm1 : (nI c_31).toInt = ((c_31 : Nat) : Int) := nI_toInt (by omega)
          have hI_35 : (0 : Int) ≤ (k1 : Int32).toInt := inltI rfl rfl c_7
          have hI_36 : (k1 : Int32).toInt < ((z2 : Nat) : Int) := inleI (nI_toInt (by omega)) rfl c_8
          have hyes : okH z2 k1 := by unfold okH; refine ⟨?_, ?_⟩ <;> first | omega | assumption
          rw [hQ]
          exact W.iret (v := (nI c_31)) hx hb hr (fun t ht hW9 => ⟨⟨(nI c_31), (), rfl, (by unfold anTd; rw [if_pos hyes]; unfold tdS; rw [if_neg (by omega), if_pos (by omega)]; exact i32v (by rw [nI_toInt (by omega)]; omega)), ⟨by rw [ht]; exact hP, hD⟩⟩, hS.F ht⟩) hS.2.2 dX13_told_85
      · refine lv_tableIn (tgt := 86) hx hb dX13_told_23 (by omega) (by omega) (by rw [hj2]; rfl) (by decide) ?_
        refine lv_aload_n hx hb dX13_told_86 rfl (lv_at hl 0 rfl) ?_
        refine pg_getN (D := D) (ci := 12) (v := .int (nI v20)) (C := RX12) (T := TX12) (N := 51) hx hb hg inG12 hown hK hP hb_15.1 hM16 rfl 12 (by decide) (hN.use (Cond.fieldLinkNest RX13 233 RX12 "years" "I" RX13) 21 rfl rfl) (fun _ h9 => h9) hv20 dX13_told_87 ?_
        have hI_37 : (0 : Int) ≤ (k1 : Int32).toInt := inltI rfl rfl c_7
        have hI_38 : (k1 : Int32).toInt < ((z2 : Nat) : Int) := inleI (nI_toInt (by omega)) rfl c_8
        have hyes : okH z2 k1 := by unfold okH; refine ⟨?_, ?_⟩ <;> first | omega | assumption
        rw [hQ]
        exact W.iret (v := (nI v20)) hx hb hr (fun t ht hW9 => ⟨⟨(nI v20), (), rfl, (by unfold anTd; rw [if_pos hyes]; unfold tdS; rw [if_neg (by omega), if_neg (by omega), if_pos (by omega)]; exact i32v (by rw [nI_toInt (by omega)]; omega)), ⟨by rw [ht]; exact hP, hD⟩⟩, hS.F ht⟩) hS.2.2 dX13_told_90
      · refine lv_tableIn (tgt := 91) hx hb dX13_told_23 (by omega) (by omega) (by rw [hj2]; rfl) (by decide) ?_
        refine lv_aload_n hx hb dX13_told_91 rfl (lv_at hl 0 rfl) ?_
        refine pg_getN (D := D) (ci := 12) (v := .int (nI v21)) (C := RX12) (T := TX12) (N := 51) hx hb hg inG12 hown hK hP hb_15.1 hM16 rfl 13 (by decide) (hN.use (Cond.fieldLinkNest RX13 244 RX12 "closed" "I" RX13) 22 rfl rfl) (fun _ h9 => h9) hv21 dX13_told_92 ?_
        have hI_39 : (0 : Int) ≤ (k1 : Int32).toInt := inltI rfl rfl c_7
        have hI_40 : (k1 : Int32).toInt < ((z2 : Nat) : Int) := inleI (nI_toInt (by omega)) rfl c_8
        have hyes : okH z2 k1 := by unfold okH; refine ⟨?_, ?_⟩ <;> first | omega | assumption
        rw [hQ]
        exact W.iret (v := (nI v21)) hx hb hr (fun t ht hW9 => ⟨⟨(nI v21), (), rfl, (by unfold anTd; rw [if_pos hyes]; unfold tdS; rw [if_neg (by omega), if_neg (by omega), if_neg (by omega), if_pos (by omega)]; exact i32v (by rw [nI_toInt (by omega)]; omega)), ⟨by rw [ht]; exact hP, hD⟩⟩, hS.F ht⟩) hS.2.2 dX13_told_95
      · refine lv_tableIn (tgt := 96) hx hb dX13_told_23 (by omega) (by omega) (by rw [hj2]; rfl) (by decide) ?_
        refine lv_aload_n hx hb dX13_told_96 rfl (lv_at hl 0 rfl) ?_
        refine pg_getN (D := D) (ci := 12) (v := .int (nI v18)) (C := RX12) (T := TX12) (N := 51) hx hb hg inG12 hown hK hP hb_15.1 hM16 rfl 10 (by decide) (hN.use (Cond.fieldLinkNest RX13 68 RX12 "tenures" "I" RX13) 19 rfl rfl) (fun _ h9 => h9) hv18 dX13_told_97 ?_
        have hI_41 : (0 : Int) ≤ (k1 : Int32).toInt := inltI rfl rfl c_7
        have hI_42 : (k1 : Int32).toInt < ((z2 : Nat) : Int) := inleI (nI_toInt (by omega)) rfl c_8
        have hyes : okH z2 k1 := by unfold okH; refine ⟨?_, ?_⟩ <;> first | omega | assumption
        rw [hQ]
        exact W.iret (v := (nI v18)) hx hb hr (fun t ht hW9 => ⟨⟨(nI v18), (), rfl, (by unfold anTd; rw [if_pos hyes]; unfold tdS; rw [if_neg (by omega), if_neg (by omega), if_neg (by omega), if_neg (by omega), if_pos (by omega)]; exact i32v (by rw [nI_toInt (by omega)]; omega)), ⟨by rw [ht]; exact hP, hD⟩⟩, hS.F ht⟩) hS.2.2 dX13_told_100
      · refine lv_tableIn (tgt := 101) hx hb dX13_told_23 (by omega) (by omega) (by rw [hj2]; rfl) (by decide) ?_
        refine lv_aload_n hx hb dX13_told_101 rfl (lv_at hl 0 rfl) ?_
        refine pg_getN (D := D) (ci := 12) (v := .int (nI v19)) (C := RX12) (T := TX12) (N := 51) hx hb hg inG12 hown hK hP hb_15.1 hM16 rfl 11 (by decide) (hN.use (Cond.fieldLinkNest RX13 142 RX12 "rules" "I" RX13) 20 rfl rfl) (fun _ h9 => h9) hv19 dX13_told_102 ?_
        have hI_43 : (0 : Int) ≤ (k1 : Int32).toInt := inltI rfl rfl c_7
        have hI_44 : (k1 : Int32).toInt < ((z2 : Nat) : Int) := inleI (nI_toInt (by omega)) rfl c_8
        have hyes : okH z2 k1 := by unfold okH; refine ⟨?_, ?_⟩ <;> first | omega | assumption
        rw [hQ]
        exact W.iret (v := (nI v19)) hx hb hr (fun t ht hW9 => ⟨⟨(nI v19), (), rfl, (by unfold anTd; rw [if_pos hyes]; unfold tdS; rw [if_neg (by omega), if_neg (by omega), if_neg (by omega), if_neg (by omega), if_neg (by omega), if_pos (by omega)]; exact i32v (by rw [nI_toInt (by omega)]; omega)), ⟨by rw [ht]; exact hP, hD⟩⟩, hS.F ht⟩) hS.2.2 dX13_told_105
      · refine lv_tableIn (tgt := 106) hx hb dX13_told_23 (by omega) (by omega) (by rw [hj2]; rfl) (by decide) ?_
        refine lv_aload_n hx hb dX13_told_106 rfl (lv_at hl 0 rfl) ?_
        refine pg_getN (D := D) (ci := 12) (v := .int (nI v22)) (C := RX12) (T := TX12) (N := 51) hx hb hg inG12 hown hK hP hb_15.1 hM16 rfl 14 (by decide) (hN.use (Cond.fieldLinkNest RX13 193 RX12 "moves" "I" RX13) 23 rfl rfl) (fun _ h9 => h9) hv22 dX13_told_107 ?_
        have hI_45 : (0 : Int) ≤ (k1 : Int32).toInt := inltI rfl rfl c_7
        have hI_46 : (k1 : Int32).toInt < ((z2 : Nat) : Int) := inleI (nI_toInt (by omega)) rfl c_8
        have hyes : okH z2 k1 := by unfold okH; refine ⟨?_, ?_⟩ <;> first | omega | assumption
        rw [hQ]
        exact W.iret (v := (nI v22)) hx hb hr (fun t ht hW9 => ⟨⟨(nI v22), (), rfl, (by unfold anTd; rw [if_pos hyes]; unfold tdS; rw [if_neg (by omega), if_neg (by omega), if_neg (by omega), if_neg (by omega), if_neg (by omega), if_neg (by omega), if_pos (by omega)]; exact i32v (by rw [nI_toInt (by omega)]; omega)), ⟨by rw [ht]; exact hP, hD⟩⟩, hS.F ht⟩) hS.2.2 dX13_told_110
      · refine lv_tableIn (tgt := 111) hx hb dX13_told_23 (by omega) (by omega) (by rw [hj2]; rfl) (by decide) ?_
        refine lv_aload_n hx hb dX13_told_111 rfl (lv_at hl 0 rfl) ?_
        refine pg_getN (D := D) (ci := 12) (v := .int (nI v23)) (C := RX12) (T := TX12) (N := 51) hx hb hg inG12 hown hK hP hb_15.1 hM16 rfl 15 (by decide) (hN.use (Cond.fieldLinkNest RX13 279 RX12 "mends" "I" RX13) 24 rfl rfl) (fun _ h9 => h9) hv23 dX13_told_112 ?_
        have hI_47 : (0 : Int) ≤ (k1 : Int32).toInt := inltI rfl rfl c_7
        have hI_48 : (k1 : Int32).toInt < ((z2 : Nat) : Int) := inleI (nI_toInt (by omega)) rfl c_8
        have hyes : okH z2 k1 := by unfold okH; refine ⟨?_, ?_⟩ <;> first | omega | assumption
        rw [hQ]
        exact W.iret (v := (nI v23)) hx hb hr (fun t ht hW9 => ⟨⟨(nI v23), (), rfl, (by unfold anTd; rw [if_pos hyes]; unfold tdS; rw [if_neg (by omega), if_neg (by omega), if_neg (by omega), if_neg (by omega), if_neg (by omega), if_neg (by omega), if_neg (by omega), if_pos (by omega)]; exact i32v (by rw [nI_toInt (by omega)]; omega)), ⟨by rw [ht]; exact hP, hD⟩⟩, hS.F ht⟩) hS.2.2 dX13_told_115
      · refine lv_tableIn (tgt := 116) hx hb dX13_told_23 (by omega) (by omega) (by rw [hj2]; rfl) (by decide) ?_
        refine lv_aload_n hx hb dX13_told_116 rfl (lv_at hl 0 rfl) ?_
        refine pg_getN (D := D) (ci := 12) (v := .int (nI v24)) (C := RX12) (T := TX12) (N := 51) hx hb hg inG12 hown hK hP hb_15.1 hM16 rfl 17 (by decide) (hN.use (Cond.fieldLinkNest RX13 256 RX12 "stretches" "I" RX13) 26 rfl rfl) (fun _ h9 => h9) hv24 dX13_told_117 ?_
        have hI_49 : (0 : Int) ≤ (k1 : Int32).toInt := inltI rfl rfl c_7
        have hI_50 : (k1 : Int32).toInt < ((z2 : Nat) : Int) := inleI (nI_toInt (by omega)) rfl c_8
        have hyes : okH z2 k1 := by unfold okH; refine ⟨?_, ?_⟩ <;> first | omega | assumption
        rw [hQ]
        exact W.iret (v := (nI v24)) hx hb hr (fun t ht hW9 => ⟨⟨(nI v24), (), rfl, (by unfold anTd; rw [if_pos hyes]; unfold tdS; rw [if_neg (by omega), if_neg (by omega), if_neg (by omega), if_neg (by omega), if_neg (by omega), if_neg (by omega), if_neg (by omega), if_neg (by omega), if_pos (by omega)]; exact i32v (by rw [nI_toInt (by omega)]; omega)), ⟨by rw [ht]; exact hP, hD⟩⟩, hS.F ht⟩) hS.2.2 dX13_told_120
      · refine lv_tableIn (tgt := 121) hx hb dX13_told_23 (by omega) (by omega) (by rw [hj2]; rfl) (by decide) ?_
        refine lv_aload_n hx hb dX13_told_121 rfl (lv_at hl 0 rfl) ?_
        refine pg_getN (D := D) (ci := 12) (v := .int v25) (C := RX12) (T := TX12) (N := 51) hx hb hg inG12 hown hK hP hb_15.1 hM16 rfl 1 (by decide) (hN.use (Cond.fieldLinkNest RX13 80 RX12 "to" "I" RX13) 10 rfl rfl) (fun _ h9 => h9) hv25 dX13_told_122 ?_
        rcases hc25 with rfl | ⟨c_51, hc_52, rfl⟩
        · have hz := rfl (a := 0)
          have hm1 : (-1 : Int32).toInt = -1 := rfl
          refine lv_iconst (v := 1) hx hb dX13_told_125 (by decide) ?_
          refine lv_iadd hx hb dX13_told_126 ?_
          refine lv_topi (fun f_53 ef_53 => ?_)
          obtain rfl : f_53 = 0 := by rw [ef_53]; decide
          refine lv_istore (lv' := [(4, .int 0), (3, .ref b13), (0, .ref za), (1, .int k1), (2, .int k2)]) hx hb dX13_told_127 hl (by decide) rfl (fun ls hl => ?_)
          have key_54 : ∀ (fu_56 : Nat) (v4w57 : Nat) (H_61 : Heap) (locs : List Loc) (ls : Array Slot), 1001 - v4w57 < fu_56 → v4w57 ≤ 1000 → SX (k1 : Int32).toNatClampNeg 1 < ((v4w57 : Nat) : Int) → (∀ d : Nat, SX (k1 : Int32).toNatClampNeg 1 < (d : Int) → d < v4w57 → ¬ opD (SY (k1 : Int32).toNatClampNeg) d) → WOM cy K L M → va_P D vwCl ([(za, (b13_0 0 z1 (nI z2) (nI z3) z4 z5 z6 z7 z8 z9 (nI z10) z11 z12 z13 z14 z15 (nI z16) z17 z18 z19))] ++ va_pl L M) H_61 → va_D A ([(za, (b13_0 0 z1 (nI z2) (nI z3) z4 z5 z6 z7 z8 z9 (nI z10) z11 z12 z13 z14 z15 (nI z16) z17 z18 z19))] ++ va_pl L M) → va_S A s.heap H_61 locs → lv_has ls 5 [(4, .int (nI v4w57)), (3, .ref b13), (0, .ref za), (1, .int k1), (2, .int k2)] → W p l e R s m ([.ref za, .int k1, .int k2] : List Value).toArray below meth c H_61 locs 0 0 Q (F0 m 129 ls []) := by
            intro fu_56
            induction fu_56 with
            | zero => intro v4w57 H_61 locs ls h; exact absurd h (Nat.not_lt_zero _)
            | succ fu_56 ih_55 =>
              intro v4w57 H_61 locs ls hfu hx_58 hx_59 hx_60 hW hP hD hS hl
              refine lv_iload hx hb dX13_told_129 (lv_at hl 0 rfl) ?_
              refine lv_sipush (v := 1000) hx hb dX13_told_131 (by decide) ?_
              refine lv_icmp_ge (tgt := 152) hx hb dX13_told_134 (by decide) (fun c_62 => ?_) (fun c_62 => ?_)
              · have hz := rfl (a := 0)
                have n_63 : 1000 ≤ v4w57 := (iLE (a := 1000) (b := v4w57) (by omega) (by omega)).mp c_62
                refine lv_iload hx hb dX13_told_152 (lv_at hl 0 rfl) ?_
                have hI_64 : (0 : Int) ≤ (k1 : Int32).toInt := inltI rfl rfl c_7
                have hI_65 : (k1 : Int32).toInt < ((z2 : Nat) : Int) := inleI (nI_toInt (by omega)) rfl c_8
                have hI_66 : (1000 : Int) ≤ ((v4w57 : Nat) : Int) := ileI rfl (nI_toInt (by omega)) c_62
                have hyes : okH z2 k1 := by unfold okH; refine ⟨?_, ?_⟩ <;> first | omega | assumption
                rw [hQ]
                exact W.iret (v := (nI v4w57)) hx hb hr (fun t ht hW9 => ⟨⟨(nI v4w57), (), rfl, (by unfold anTd; rw [if_pos hyes]; unfold tdS; rw [if_neg (by omega), if_neg (by omega), if_neg (by omega), if_neg (by omega), if_neg (by omega), if_neg (by omega), if_neg (by omega), if_neg (by omega), if_neg (by omega), if_pos (by omega)]; exact congrArg nI (FOD.eq (j := v4w57) ⟨by omega, by omega, fun d h1 h2 => hx_60 d h1 h2, fun z9 => absurd z9 (by omega)⟩ (by omega)).symm), ⟨by rw [ht]; exact hP, hD⟩⟩, hS.F ht⟩) hS.2.2 dX13_told_154
              · have hz := rfl (a := 0)
                have n_67 : ¬ (1000 ≤ v4w57) := fun q => c_62 ((iLE (a := 1000) (b := v4w57) (by omega) (by omega)).mpr q)
                refine lv_aload_n hx hb dX13_told_137 rfl (lv_at hl 1 rfl) ?_
                refine lv_iload hx hb dX13_told_138 (lv_at hl 0 rfl) ?_
                have hPc : va_P D vwCl ([] ++ va_pl L M) H_61 := hP.part (cx := []) [] rfl
                have hDc : va_D A ([] ++ va_pl L M) := hD.part (cx := []) [] (by decide) rfl
                have hFc : ∀ q, va_A ([] ++ va_pl L M) H_61.size q → A q := pg_free hDc hS hA
                refine va_calli (va_runV (As := [.int (nI v4w57)]) (rest := []) ⟨hx, hb, hml, hown, hg⟩ (f_isOpen l D cy K L M H_61.size b13 v4w57  hW hb_15 (by omega)) (cwV 1 hg (gV wd_752 wd_753 wd_754 wd_737 wd_755) rfl rfl rfl (by decide +kernel) ⟨(Nat.le_trans (Nat.le_of_ble_eq_true rfl) hRf), (Nat.le_trans (Nat.le_of_ble_eq_true rfl) hRl)⟩) ⟨PG.blind, pg_recv hK hP hb_15.1 hM16 rfl, fun U hU hW => ⟨rfl, PG.at hPc hK hDc hN hU hW⟩⟩ rfl rfl hl.1 rfl (lv_room (Nat.le_of_ble_eq_true rfl)) dX13_told_140 ⟨(Nat.le_trans (Nat.le_of_ble_eq_true rfl) hRc), (Nat.le_trans (Nat.le_of_ble_eq_true rfl) hRs)⟩) hS (fun q _ h => hFc q h) hFc (fun r_69 M_70 t H_68 locs ht hvm hw hB hz1 hk1 hS => ?_)
                have hp_71 := hw
                obtain ⟨hP1, hD1⟩ := hB
                rw [ht] at hP1
                obtain ⟨hP, hD⟩ := va_joinP (X := [(za, (b13_0 0 z1 (nI z2) (nI z3) z4 z5 z6 z7 z8 z9 (nI z10) z11 z12 z13 z14 z15 (nI z16) z17 z18 z19))]) (cx := []) (wr := [(za, (b13_0 0 z1 (nI z2) (nI z3) z4 z5 z6 z7 z8 z9 (nI z10) z11 z12 z13 z14 z15 (nI z16) z17 z18 z19))]) (rx := []) (pl := va_pl L M) (pl1 := va_pl L M) hP hD [] [0] rfl rfl (by decide) (by decide) hk1 hFc hP1 hD1
                have hP : va_P D vwCl ([(za, (b13_0 0 z1 (nI z2) (nI z3) z4 z5 z6 z7 z8 z9 (nI z10) z11 z12 z13 z14 z15 (nI z16) z17 z18 z19))] ++ va_pl L M) H_68 := hP
                have hD : va_D A ([(za, (b13_0 0 z1 (nI z2) (nI z3) z4 z5 z6 z7 z8 z9 (nI z10) z11 z12 z13 z14 z15 (nI z16) z17 z18 z19))] ++ va_pl L M) := hD
                rcases hp_71 with ⟨rfl, c_72⟩ | ⟨rfl, c_73⟩
                · have hz := rfl (a := 0)
                  have hop9 : opD (SY (k1 : Int32).toNatClampNeg) v4w57 := by have h9 := c_72; rw [hZk.2] at h9; exact h9
                  refine lv_if_ne (tgt := 152) hx hb dX13_told_143 (by decide) (fun _ => ?_) (fun c_74 => absurd c_74 (by decide))
                  refine lv_iload hx hb dX13_told_152 (lv_at hl 0 rfl) ?_
                  have hI_75 : (0 : Int) ≤ (k1 : Int32).toInt := inltI rfl rfl c_7
                  have hI_76 : (k1 : Int32).toInt < ((z2 : Nat) : Int) := inleI (nI_toInt (by omega)) rfl c_8
                  have hI_77 : ((v4w57 : Nat) : Int) < (1000 : Int) := inleI rfl (nI_toInt (by omega)) c_62
                  have hyes : okH z2 k1 := by unfold okH; refine ⟨?_, ?_⟩ <;> first | omega | assumption
                  rw [hQ]
                  exact W.iret (v := (nI v4w57)) hx hb hr (fun t ht hW9 => ⟨⟨(nI v4w57), (), rfl, (by unfold anTd; rw [if_pos hyes]; unfold tdS; rw [if_neg (by omega), if_neg (by omega), if_neg (by omega), if_neg (by omega), if_neg (by omega), if_neg (by omega), if_neg (by omega), if_neg (by omega), if_neg (by omega), if_pos (by omega)]; exact congrArg nI (FOD.eq (j := v4w57) ⟨by omega, by omega, fun d h1 h2 => hx_60 d h1 h2, fun z9 => hop9⟩ (by omega)).symm), ⟨by rw [ht]; exact hP, hD⟩⟩, hS.F ht⟩) hS.2.2 dX13_told_154
                · have hz := rfl (a := 0)
                  have hno9 : ¬ opD (SY (k1 : Int32).toNatClampNeg) v4w57 := by have h9 := c_73; rw [hZk.2] at h9; exact h9
                  refine lv_if_ne (tgt := 152) hx hb dX13_told_143 (by decide) (fun c_78 => absurd c_78 (by decide)) (fun _ => ?_)
                  refine lv_iinc (v := (nI (v4w57 + 1))) (lv' := [(4, .int (nI (v4w57 + 1))), (3, .ref b13), (0, .ref za), (1, .int k1), (2, .int k2)]) hx hb dX13_told_146 hl (k := 0) rfl (nI_1 v4w57) (by decide) rfl (fun ls hl => ?_)
                  refine lv_goto (tgt := 129) hx hb dX13_told_149 (by decide) ?_
                  exact ih_55 (v4w57 + 1) H_68 _ _ (by omega) (by omega) (by omega) (fun d h1 h2 => by by_cases z9 : ¬ d = v4w57; exact hx_60 d h1 (by omega); rw [Classical.not_not.mp z9]; exact hno9) hW hP hD hS (lv_sub hl [0, 1, 2, 3, 4] rfl)
          exact key_54 (1001 - 0 + 1) 0 H_2 _ _ (by omega) (by omega) (by omega) (fun d h1 h2 => by omega) hW hP hD hS (lv_sub hl [0, 1, 2, 3, 4] rfl)
        · have hz := rfl (a := 0)
          have hm1 : (nI c_51).toInt = ((c_51 : Nat) : Int) := nI_toInt (by omega)
          refine lv_iconst (v := 1) hx hb dX13_told_125 (by decide) ?_
          refine lv_iadd hx hb dX13_told_126 ?_
          refine lv_topi (fun f_79 ef_79 => ?_)
          obtain rfl : f_79 = (nI (c_51 + 1)) := ef_79.trans (nI_add c_51 1)
          refine lv_istore (lv' := [(4, .int (nI (c_51 + 1))), (3, .ref b13), (0, .ref za), (1, .int k1), (2, .int k2)]) hx hb dX13_told_127 hl (by decide) rfl (fun ls hl => ?_)
          have key_80 : ∀ (fu_82 : Nat) (v4w83 : Nat) (H_87 : Heap) (locs : List Loc) (ls : Array Slot), 1001 - v4w83 < fu_82 → v4w83 ≤ 1000 → SX (k1 : Int32).toNatClampNeg 1 < ((v4w83 : Nat) : Int) → (∀ d : Nat, SX (k1 : Int32).toNatClampNeg 1 < (d : Int) → d < v4w83 → ¬ opD (SY (k1 : Int32).toNatClampNeg) d) → WOM cy K L M → va_P D vwCl ([(za, (b13_0 0 z1 (nI z2) (nI z3) z4 z5 z6 z7 z8 z9 (nI z10) z11 z12 z13 z14 z15 (nI z16) z17 z18 z19))] ++ va_pl L M) H_87 → va_D A ([(za, (b13_0 0 z1 (nI z2) (nI z3) z4 z5 z6 z7 z8 z9 (nI z10) z11 z12 z13 z14 z15 (nI z16) z17 z18 z19))] ++ va_pl L M) → va_S A s.heap H_87 locs → lv_has ls 5 [(4, .int (nI v4w83)), (3, .ref b13), (0, .ref za), (1, .int k1), (2, .int k2)] → W p l e R s m ([.ref za, .int k1, .int k2] : List Value).toArray below meth c H_87 locs 0 0 Q (F0 m 129 ls []) := by
            intro fu_82
            induction fu_82 with
            | zero => intro v4w83 H_87 locs ls h; exact absurd h (Nat.not_lt_zero _)
            | succ fu_82 ih_81 =>
              intro v4w83 H_87 locs ls hfu hx_84 hx_85 hx_86 hW hP hD hS hl
              refine lv_iload hx hb dX13_told_129 (lv_at hl 0 rfl) ?_
              refine lv_sipush (v := 1000) hx hb dX13_told_131 (by decide) ?_
              refine lv_icmp_ge (tgt := 152) hx hb dX13_told_134 (by decide) (fun c_88 => ?_) (fun c_88 => ?_)
              · have hz := rfl (a := 0)
                have n_89 : 1000 ≤ v4w83 := (iLE (a := 1000) (b := v4w83) (by omega) (by omega)).mp c_88
                refine lv_iload hx hb dX13_told_152 (lv_at hl 0 rfl) ?_
                have hI_90 : (0 : Int) ≤ (k1 : Int32).toInt := inltI rfl rfl c_7
                have hI_91 : (k1 : Int32).toInt < ((z2 : Nat) : Int) := inleI (nI_toInt (by omega)) rfl c_8
                have hI_92 : (1000 : Int) ≤ ((v4w83 : Nat) : Int) := ileI rfl (nI_toInt (by omega)) c_88
                have hyes : okH z2 k1 := by unfold okH; refine ⟨?_, ?_⟩ <;> first | omega | assumption
                rw [hQ]
                exact W.iret (v := (nI v4w83)) hx hb hr (fun t ht hW9 => ⟨⟨(nI v4w83), (), rfl, (by unfold anTd; rw [if_pos hyes]; unfold tdS; rw [if_neg (by omega), if_neg (by omega), if_neg (by omega), if_neg (by omega), if_neg (by omega), if_neg (by omega), if_neg (by omega), if_neg (by omega), if_neg (by omega), if_pos (by omega)]; exact congrArg nI (FOD.eq (j := v4w83) ⟨by omega, by omega, fun d h1 h2 => hx_86 d h1 h2, fun z9 => absurd z9 (by omega)⟩ (by omega)).symm), ⟨by rw [ht]; exact hP, hD⟩⟩, hS.F ht⟩) hS.2.2 dX13_told_154
              · have hz := rfl (a := 0)
                have n_93 : ¬ (1000 ≤ v4w83) := fun q => c_88 ((iLE (a := 1000) (b := v4w83) (by omega) (by omega)).mpr q)
                refine lv_aload_n hx hb dX13_told_137 rfl (lv_at hl 1 rfl) ?_
                refine lv_iload hx hb dX13_told_138 (lv_at hl 0 rfl) ?_
                have hPc : va_P D vwCl ([] ++ va_pl L M) H_87 := hP.part (cx := []) [] rfl
                have hDc : va_D A ([] ++ va_pl L M) := hD.part (cx := []) [] (by decide) rfl
                have hFc : ∀ q, va_A ([] ++ va_pl L M) H_87.size q → A q := pg_free hDc hS hA
                refine va_calli (va_runV (As := [.int (nI v4w83)]) (rest := []) ⟨hx, hb, hml, hown, hg⟩ (f_isOpen l D cy K L M H_87.size b13 v4w83  hW hb_15 (by omega)) (cwV 1 hg (gV wd_752 wd_753 wd_754 wd_737 wd_755) rfl rfl rfl (by decide +kernel) ⟨(Nat.le_trans (Nat.le_of_ble_eq_true rfl) hRf), (Nat.le_trans (Nat.le_of_ble_eq_true rfl) hRl)⟩) ⟨PG.blind, pg_recv hK hP hb_15.1 hM16 rfl, fun U hU hW => ⟨rfl, PG.at hPc hK hDc hN hU hW⟩⟩ rfl rfl hl.1 rfl (lv_room (Nat.le_of_ble_eq_true rfl)) dX13_told_140 ⟨(Nat.le_trans (Nat.le_of_ble_eq_true rfl) hRc), (Nat.le_trans (Nat.le_of_ble_eq_true rfl) hRs)⟩) hS (fun q _ h => hFc q h) hFc (fun r_95 M_96 t H_94 locs ht hvm hw hB hz1 hk1 hS => ?_)
                have hp_97 := hw
                obtain ⟨hP1, hD1⟩ := hB
                rw [ht] at hP1
                obtain ⟨hP, hD⟩ := va_joinP (X := [(za, (b13_0 0 z1 (nI z2) (nI z3) z4 z5 z6 z7 z8 z9 (nI z10) z11 z12 z13 z14 z15 (nI z16) z17 z18 z19))]) (cx := []) (wr := [(za, (b13_0 0 z1 (nI z2) (nI z3) z4 z5 z6 z7 z8 z9 (nI z10) z11 z12 z13 z14 z15 (nI z16) z17 z18 z19))]) (rx := []) (pl := va_pl L M) (pl1 := va_pl L M) hP hD [] [0] rfl rfl (by decide) (by decide) hk1 hFc hP1 hD1
                have hP : va_P D vwCl ([(za, (b13_0 0 z1 (nI z2) (nI z3) z4 z5 z6 z7 z8 z9 (nI z10) z11 z12 z13 z14 z15 (nI z16) z17 z18 z19))] ++ va_pl L M) H_94 := hP
                have hD : va_D A ([(za, (b13_0 0 z1 (nI z2) (nI z3) z4 z5 z6 z7 z8 z9 (nI z10) z11 z12 z13 z14 z15 (nI z16) z17 z18 z19))] ++ va_pl L M) := hD
                rcases hp_97 with ⟨rfl, c_98⟩ | ⟨rfl, c_99⟩
                · have hz := rfl (a := 0)
                  have hop9 : opD (SY (k1 : Int32).toNatClampNeg) v4w83 := by have h9 := c_98; rw [hZk.2] at h9; exact h9
                  refine lv_if_ne (tgt := 152) hx hb dX13_told_143 (by decide) (fun _ => ?_) (fun c_100 => absurd c_100 (by decide))
                  refine lv_iload hx hb dX13_told_152 (lv_at hl 0 rfl) ?_
                  have hI_101 : (0 : Int) ≤ (k1 : Int32).toInt := inltI rfl rfl c_7
                  have hI_102 : (k1 : Int32).toInt < ((z2 : Nat) : Int) := inleI (nI_toInt (by omega)) rfl c_8
                  have hI_103 : ((v4w83 : Nat) : Int) < (1000 : Int) := inleI rfl (nI_toInt (by omega)) c_88
                  have hyes : okH z2 k1 := by unfold okH; refine ⟨?_, ?_⟩ <;> first | omega | assumption
                  rw [hQ]
                  exact W.iret (v := (nI v4w83)) hx hb hr (fun t ht hW9 => ⟨⟨(nI v4w83), (), rfl, (by unfold anTd; rw [if_pos hyes]; unfold tdS; rw [if_neg (by omega), if_neg (by omega), if_neg (by omega), if_neg (by omega), if_neg (by omega), if_neg (by omega), if_neg (by omega), if_neg (by omega), if_neg (by omega), if_pos (by omega)]; exact congrArg nI (FOD.eq (j := v4w83) ⟨by omega, by omega, fun d h1 h2 => hx_86 d h1 h2, fun z9 => hop9⟩ (by omega)).symm), ⟨by rw [ht]; exact hP, hD⟩⟩, hS.F ht⟩) hS.2.2 dX13_told_154
                · have hz := rfl (a := 0)
                  have hno9 : ¬ opD (SY (k1 : Int32).toNatClampNeg) v4w83 := by have h9 := c_99; rw [hZk.2] at h9; exact h9
                  refine lv_if_ne (tgt := 152) hx hb dX13_told_143 (by decide) (fun c_104 => absurd c_104 (by decide)) (fun _ => ?_)
                  refine lv_iinc (v := (nI (v4w83 + 1))) (lv' := [(4, .int (nI (v4w83 + 1))), (3, .ref b13), (0, .ref za), (1, .int k1), (2, .int k2)]) hx hb dX13_told_146 hl (k := 0) rfl (nI_1 v4w83) (by decide) rfl (fun ls hl => ?_)
                  refine lv_goto (tgt := 129) hx hb dX13_told_149 (by decide) ?_
                  exact ih_81 (v4w83 + 1) H_94 _ _ (by omega) (by omega) (by omega) (fun d h1 h2 => by by_cases z9 : ¬ d = v4w83; exact hx_86 d h1 (by omega); rw [Classical.not_not.mp z9]; exact hno9) hW hP hD hS (lv_sub hl [0, 1, 2, 3, 4] rfl)
          exact key_80 (1001 - (c_51 + 1) + 1) (c_51 + 1) H_2 _ _ (by omega) (by omega) (by omega) (fun d h1 h2 => by omega) hW hP hD hS (lv_sub hl [0, 1, 2, 3, 4] rfl)
  · have hz := rfl (a := 0)
    refine lv_if_ne (tgt := 15) hx hb dX13_told_10 (by decide) (fun c_105 => absurd c_105 (by decide)) (fun _ => ?_)
    refine lv_iconst (v := (-1)) hx hb dX13_told_13 (by decide) ?_
    have hno : ¬ okH z2 k1 := fun q9 => by unfold okH at q9; first | omega | (obtain ⟨_, _⟩ := q9; first | omega | contradiction)
    rw [hQ]
    exact W.iret (v := (-1)) hx hb hr (fun t ht hW9 => ⟨⟨(-1), (), rfl, (by unfold anTd; rw [if_neg hno]), ⟨by rw [ht]; exact hP, hD⟩⟩, hS.F ht⟩) hS.2.2 dX13_told_14
