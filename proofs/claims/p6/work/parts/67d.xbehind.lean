set_option maxHeartbeats 4000000 in
set_option maxRecDepth 100000 in
theorem e_fod (l : Launch) (D : va_G) (cy : Nat → ClassId) (K : Kp) (L : List Nat) (M : Hp) (sz : Nat) (oa : Nat) (hW : WOK cy K L M) (ia : isk K L oa 2 0) (hto : (-1 ≤ (cV 2 M oa 2).toInt ∧ (cV 2 M oa 2).toInt ≤ 999)) : Met l yX2_firstOpenDay (wsM yX2_firstOpenDay cX2_firstOpenDay 3 (some .int)) ({ frames := 2, cells := 0, slots := 0, locals := 41 }) (va_Pc [.ref oa] (PG D cy [] L M sz)) (va_Qi (fun (r : Int32) (_ : Unit) => (∃ (j : Nat), r = (nI j) ∧ (FOD (cax M oa) (cV 2 M oa 2).toInt j))) (fun _ t => PQ D [] L M (va_A ([] ++ va_pl L M) sz) t) (va_A ([] ++ va_pl L M) sz)) 0 0 (va_A ([] ++ va_pl L M) sz) := by
  refine Met.ofW (cc := cX2_firstOpenDay) (maxL := 3) (ret := (some .int)) (by decide) rfl ?_
  intro p e s m args below meth c s₁ B hml hv
  obtain ⟨rfl, hsz, hP, hK, hD0, hN⟩ := hv
  have hx := B.exec
  have hb := B.bytes
  have hr := B.returns
  have hts := atoms_spec (ws := (wsM yX2_firstOpenDay cX2_firstOpenDay 3 (some .int))) B.pre
  have hg : ∀ w ∈ lw_good, w.before _ s = true := fun w h => hts w (List.mem_cons_of_mem _ h)
  have hown : s.vm.findClass RX2 = some m.cls := findClass_of_methodNamed B.named
  have hlocks := B.notSynchronized
  subst hsz
  have hD := hD0.self (sz := s.heap.size)
  generalize hAe : va_A ([] ++ va_pl L M) s.heap.size = A at hD ⊢
  have hA : ∀ q : Nat, s.heap.size ≤ q → A q := fun q h => by rw [← hAe]; exact Or.inr h
  have hS : va_S A s.heap s.heap [] := va_S.rf
  have hl := lv_entry ([.ref oa]) (n := 3) (Nat.le_of_ble_eq_true rfl)
  rw [lg_entry_eq]
  generalize (lg_sl ([.ref oa]) ++ List.replicate (3 - (lg_sl ([.ref oa])).length) Slot.unset).toArray = ls at hl ⊢
  refine W.nameQ (fun Q hQ => ?_)
  refine W.nameR (fun R hR => ?_)
  have hRf : 2 ≤ R.frames := by rw [hR]; exact Nat.le_of_ble_eq_true rfl
  have hRl : 41 ≤ R.locals := by rw [hR]; exact Nat.le_of_ble_eq_true rfl
  have hRc : 0 ≤ R.cells := by rw [hR]; exact Nat.le_of_ble_eq_true rfl
  have hRs : 0 ≤ R.slots := by rw [hR]; exact Nat.le_of_ble_eq_true rfl
  have hl : lv_has ls 3 [(0, .ref oa)] := hl
  refine lv_iconst (v := 0) hx hb dX2_firstOpenDay_0 (by decide) ?_
  refine lv_aload_n hx hb dX2_firstOpenDay_1 rfl (lv_at hl 0 rfl) ?_
  obtain ⟨v1_0, v1_1, v1_2, v1_3, v1_4, v1_5, v1_6, v1_7, v1_8, v1_9, v1_10, v1_11, v1_12, v1_13, v1_14, v1_15, v1_16, v1_17, v1_18, v1_19, hM1, h1_3, h1_4, h1_5, h1_6, h1_7, h1_8, h1_9, h1_10, h1_11, h1_12, h1_13, h1_16, h1_17, h1_18, h1_19⟩ := hW.open_2 ia
  refine pg_get (D := D) (ci := 2) (v := .int v1_2) (C := RX2) (T := TX2) (N := 20) hx hb hg inG2 hown hK hP ia.1 hM1 rfl 2 (by decide) (hg _ wd_41) (fun _ h9 => h9) rfl dX2_firstOpenDay_2 ?_
  refine lv_iconst (v := 1) hx hb dX2_firstOpenDay_5 (by decide) ?_
  refine lv_iadd hx hb dX2_firstOpenDay_6 ?_
  refine lv_topi (fun f_2 ef_2 => ?_)
  refine va_mmax hx hb (by rw [hml]; exact hl.1.symm) hown (hg _ wd_99) (hg _ wd_100) (hg _ wd_12) (hg _ wd_101) (Nat.le_trans (Nat.le_of_ble_eq_true rfl) hRf) (Nat.le_trans (Nat.le_of_ble_eq_true rfl) hRl) (Nat.le_trans (Nat.le_of_ble_eq_true rfl) hRc) (Nat.le_trans (Nat.le_of_ble_eq_true rfl) hRs) dX2_firstOpenDay_7 ?_
  refine lv_topi (fun f_3 ef_3 => ?_)
  obtain ⟨j_4, hj_5, hxj_4, rfl⟩ := max0x ef_3
  have hA_6 : (cV 2 M oa 0).toInt = (v1_0 : Int32).toInt := by rw [cV_of hM1 rfl]
  have hA_7 : (cV 2 M oa 1).toInt = (v1_1 : Int32).toInt := by rw [cV_of hM1 rfl]
  have hA_8 : (cV 2 M oa 2).toInt = (v1_2 : Int32).toInt := by rw [cV_of hM1 rfl]
  have hA_9 : (cV 2 M oa 4).toInt = ((v1_4 : Nat) : Int) := by rw [cV_of hM1 rfl]; exact nI_toInt (by omega)
  have hA_10 : (cV 2 M oa 5).toInt = ((v1_5 : Nat) : Int) := by rw [cV_of hM1 rfl]; exact nI_toInt (by omega)
  have hA_11 : (cV 2 M oa 9).toInt = ((v1_9 : Nat) : Int) := by rw [cV_of hM1 rfl]; exact nI_toInt (by omega)
  have hA_12 : (cV 2 M oa 11).toInt = ((v1_11 : Nat) : Int) := by rw [cV_of hM1 rfl]; exact nI_toInt (by omega)
  have hA_13 : (cV 2 M oa 15).toInt = (v1_15 : Int32).toInt := by rw [cV_of hM1 rfl]
  have hI_14 : (f_2 : Int32).toInt = (v1_2 : Int32).toInt + (1 : Int) := iaddI rfl rfl ef_2 (by omega) (by omega)
  refine lv_istore_n (lv' := [(1, .int (nI j_4)), (0, .ref oa)]) hx hb dX2_firstOpenDay_10 rfl hl (by decide) rfl (fun ls hl => ?_)
  have key_15 : ∀ (fu_17 : Nat) (v1w18 : Nat) (H_21 : Heap) (locs : List Loc) (ls : Array Slot), 1001 - v1w18 < fu_17 → v1w18 ≤ 1000 ∧ (cV 2 M oa 2).toInt < ((v1w18 : Nat) : Int) → (∀ d : Nat, (cV 2 M oa 2).toInt < (d : Int) → d < v1w18 → ¬ opD (cax M oa) d) → WOK cy K L M → va_P D vwCl ([] ++ va_pl L M) H_21 → va_D A ([] ++ va_pl L M) → va_S A s.heap H_21 locs → lv_has ls 3 [(1, .int (nI v1w18)), (0, .ref oa)] → W p l e R s m ([.ref oa] : List Value).toArray below meth c H_21 locs 0 0 Q (F0 m 11 ls []) := by
    intro fu_17
    induction fu_17 with
    | zero => intro v1w18 H_21 locs ls h; exact absurd h (Nat.not_lt_zero _)
    | succ fu_17 ih_16 =>
      intro v1w18 H_21 locs ls hfu hx_19 hx_20 hW hP hD hS hl
      refine lv_iload_n hx hb dX2_firstOpenDay_11 rfl (lv_at hl 0 rfl) ?_
      refine lv_sipush (v := 999) hx hb dX2_firstOpenDay_12 (by decide) ?_
      refine lv_icmp_gt (tgt := 43) hx hb dX2_firstOpenDay_15 (by decide) (fun c_22 => ?_) (fun c_22 => ?_)
      · have hz := rfl (a := 0)
        have n_23 : 999 < v1w18 := (iLT (a := 999) (b := v1w18) (by omega) (by omega)).mp c_22
        refine lv_sipush (v := 1000) hx hb dX2_firstOpenDay_43 (by decide) ?_
        have hI_24 : (999 : Int) < ((v1w18 : Nat) : Int) := iltI rfl (nI_toInt (by omega)) c_22
        rw [hQ]
        exact W.iret (v := 1000) hx hb hr (fun t ht hW9 => ⟨⟨1000, (), rfl, ⟨1000, rfl, ⟨Nat.le_refl _, by omega, fun d h1 h2 => hx_20 d h1 (by omega), fun z9 => absurd z9 (by omega)⟩⟩, ⟨by rw [ht]; exact hP, hD⟩⟩, hS.F ht⟩) hS.2.2 dX2_firstOpenDay_46
      · have hz := rfl (a := 0)
        have n_25 : ¬ (999 < v1w18) := fun q => c_22 ((iLT (a := 999) (b := v1w18) (by omega) (by omega)).mpr q)
        refine lv_aload_n hx hb dX2_firstOpenDay_18 rfl (lv_at hl 1 rfl) ?_
        refine lv_iload_n hx hb dX2_firstOpenDay_19 rfl (lv_at hl 0 rfl) ?_
        have hPc : va_P D vwCl ([] ++ va_pl L M) H_21 := hP
        have hDc : va_D A ([] ++ va_pl L M) := hD
        have hFc : ∀ q, va_A ([] ++ va_pl L M) H_21.size q → A q := pg_free hDc hS hA
        refine va_callq (va_runV (As := [.int (nI v1w18)]) (rest := []) ⟨hx, hb, hml, hown, hg⟩ (e_X2_leafOn l D cy K L M H_21.size oa (nI v1w18)  hW ia) (cwV 1 hg (gV wd_70 wd_71 wd_72 wd_57 wd_73) rfl rfl rfl (by decide +kernel) ⟨(Nat.le_trans (Nat.le_of_ble_eq_true rfl) hRf), (Nat.le_trans (Nat.le_of_ble_eq_true rfl) hRl)⟩) ⟨PG.blind, pg_recv hK hP ia.1 hM1 rfl, fun U hU hW => ⟨rfl, PG.at hPc hK hDc hN hU hW⟩⟩ rfl rfl hl.1 rfl (lv_room (Nat.le_of_ble_eq_true rfl)) dX2_firstOpenDay_20 ⟨(Nat.le_trans (Nat.le_of_ble_eq_true rfl) hRc), (Nat.le_trans (Nat.le_of_ble_eq_true rfl) hRs)⟩) hS (fun q _ h => hFc q h) hFc (fun r_27 M_28 t H_26 locs ht hvm hw hB hz1 hk1 hS => ?_)
        have hp_29 := hw
        obtain ⟨hP1, hD1⟩ := hB
        rw [ht] at hP1
        have hP : va_P D vwCl ([] ++ va_pl L M) H_26 := hP1
        have hD : va_D A ([] ++ va_pl L M) := hD1.mono hFc
        obtain ⟨hp_29, hqx⟩ := hp_29
        rcases r_27 with _ | b_30
        · have hz := rfl (a := 0)
          have hI_31 : ((v1w18 : Nat) : Int) ≤ (999 : Int) := inltI rfl (nI_toInt (by omega)) c_22
          have hdn : v1w18 < 1000 := by omega
          have hlf := lk_lf0 ((by have h9 := (hqx.2 rfl).resolve_left (fun z9 => z9 (by rw [nI_toInt (by omega)]; omega)); rw [nI_cl (by omega)] at h9; exact h9)) hdn
          have hop9 : opD (cax M oa) v1w18 := Or.inl (by rw [hlf.1]; rfl)
          refine lv_astore_nN (lv' := [(2, .null), (1, .int (nI v1w18)), (0, .ref oa)]) hx hb dX2_firstOpenDay_23 rfl hl (by decide) rfl (fun ls hl => ?_)
          refine lv_aload_nN hx hb dX2_firstOpenDay_24 rfl (lv_at hl 0 rfl) ?_
          refine lv_ifnullN (tgt := 35) hx hb dX2_firstOpenDay_25 (by decide) ?_
          refine lv_iload_n hx hb dX2_firstOpenDay_35 rfl (lv_at hl 1 rfl) ?_
          rw [hQ]
          exact W.iret (v := (nI v1w18)) hx hb hr (fun t ht hW9 => ⟨⟨(nI v1w18), (), rfl, ⟨v1w18, rfl, ⟨by omega, by omega, fun d h1 h2 => hx_20 d h1 h2, fun _ => hop9⟩⟩, ⟨by rw [ht]; exact hP, hD⟩⟩, hS.F ht⟩) hS.2.2 dX2_firstOpenDay_36
        · have hb_32 := hp_29 b_30 rfl
          have hI_33 : ((v1w18 : Nat) : Int) ≤ (999 : Int) := inltI rfl (nI_toInt (by omega)) c_22
          have hdn : v1w18 < 1000 := by omega
          obtain ⟨_, hsl⟩ := hqx.1 _ rfl
          rw [nI_cl (by omega)] at hsl
          have hlk := lk_lf hsl hdn
          have hlb := lfb hW hb_32
          have hp2 : (cax M oa 2 v1w18).toInt = (ALc (M (rA 3 M b_30 1)) : Int) := by rw [hlk.1]; exact nI_toInt (by omega)
          have hp3 : (cax M oa 3 v1w18).toInt = (cV 3 M b_30 2).toInt := by rw [hlk.2.1]
          refine lv_astore_n (lv' := [(2, .ref b_30), (1, .int (nI v1w18)), (0, .ref oa)]) hx hb dX2_firstOpenDay_23 rfl hl (by decide) rfl (fun ls hl => ?_)
          refine lv_aload_n hx hb dX2_firstOpenDay_24 rfl (lv_at hl 0 rfl) ?_
          refine lv_ifnull hx hb dX2_firstOpenDay_25 ?_
          refine lv_aload_n hx hb dX2_firstOpenDay_28 rfl (lv_at hl 0 rfl) ?_
          obtain ⟨n34, v34_0, v34_1, v34_2, hM34, h34_1, h34_2, y34_0⟩ := hW.open_3 hb_32
          have hPc : va_P D vwCl ([] ++ va_pl L M) H_26 := hP
          have hDc : va_D A ([] ++ va_pl L M) := hD
          have hFc : ∀ q, va_A ([] ++ va_pl L M) H_26.size q → A q := pg_free hDc hS hA
          refine va_calli (va_runV (As := []) (rest := []) ⟨hx, hb, hml, hown, hg⟩ (e_X3_lacksEntries l D cy K L M H_26.size b_30 n34 v34_0 v34_1 v34_2 hW hb_32 hM34 h34_1 h34_2 y34_0) (cwV 0 hg (gV wd_320 wd_37 wd_38 wd_39 wd_40) rfl rfl rfl (by decide +kernel) ⟨(Nat.le_trans (Nat.le_of_ble_eq_true rfl) hRf), (Nat.le_trans (Nat.le_of_ble_eq_true rfl) hRl)⟩) ⟨PG.blind, pg_recv hK hP hb_32.1 hM34 rfl, fun U hU hW => ⟨rfl, PG.at hPc hK hDc hN hU hW⟩⟩ rfl rfl hl.1 rfl (lv_room (Nat.le_of_ble_eq_true rfl)) dX2_firstOpenDay_29 ⟨(Nat.le_trans (Nat.le_of_ble_eq_true rfl) hRc), (Nat.le_trans (Nat.le_of_ble_eq_true rfl) hRs)⟩) hS (fun q _ h => hFc q h) hFc (fun r_36 M_37 t H_35 locs ht hvm hw hB hz1 hk1 hS => ?_)
          have hp_38 := hw
          obtain ⟨hP1, hD1⟩ := hB
          rw [ht] at hP1
          have hP : va_P D vwCl ([] ++ va_pl L M) H_35 := hP1
          have hD : va_D A ([] ++ va_pl L M) := hD1.mono hFc
          rcases hp_38 with ⟨rfl, c_39, c_40⟩ | ⟨rfl, c_41⟩
          · have hz := rfl (a := 0)
            have hop9 : opD (cax M oa) v1w18 := by unfold opD; omega
            refine lv_if_eq (tgt := 37) hx hb dX2_firstOpenDay_32 (by decide) (fun c_42 => absurd c_42 (by decide)) (fun _ => ?_)
            refine lv_iload_n hx hb dX2_firstOpenDay_35 rfl (lv_at hl 1 rfl) ?_
            rw [hQ]
            exact W.iret (v := (nI v1w18)) hx hb hr (fun t ht hW9 => ⟨⟨(nI v1w18), (), rfl, ⟨v1w18, rfl, ⟨by omega, by omega, fun d h1 h2 => hx_20 d h1 h2, fun _ => hop9⟩⟩, ⟨by rw [ht]; exact hP, hD⟩⟩, hS.F ht⟩) hS.2.2 dX2_firstOpenDay_36
          · have hz := rfl (a := 0)
            have hno9 : ¬ opD (cax M oa) v1w18 := fun w9 => by unfold opD at w9; omega
            refine lv_if_eq (tgt := 37) hx hb dX2_firstOpenDay_32 (by decide) (fun _ => ?_) (fun c_43 => absurd c_43 (by decide))
            refine lv_iinc (v := (nI (v1w18 + 1))) (lv' := [(1, .int (nI (v1w18 + 1))), (2, .ref b_30), (0, .ref oa)]) hx hb dX2_firstOpenDay_37 hl (k := 1) rfl (nI_1 v1w18) (by decide) rfl (fun ls hl => ?_)
            refine lv_goto (tgt := 11) hx hb dX2_firstOpenDay_40 (by decide) ?_
            exact ih_16 (v1w18 + 1) H_35 _ _ (by omega) (by omega) (fun d h1 h2 => by by_cases z9 : ¬ d = v1w18; exact hx_20 d h1 (by omega); rw [Classical.not_not.mp z9]; exact hno9) hW hP hD hS (lv_sub hl [0, 2] rfl)
  exact key_15 (1001 - j_4 + 1) j_4 s.heap _ _ (by omega) (by omega) (fun d h1 h2 => by omega) hW hP hD hS (lv_sub hl [0, 1] rfl)
/-- the tenure at i has an owner: House k -/
def OWE (M : Hp) (b k i : Nat) : Prop := ∃ t, RFc (M (rA 2 M b 8)) i = some t ∧ cR 4 M (rA 9 M t 1) 3 = some k
/-- House oa waits for k1's year to k2 -/
def LGX (M : Hp) (oa k1 : Nat) (k2 : Int32) : Prop := ∃ i : Nat, ((i : Int) < (cV 2 M oa 9).toInt ∧ OWE M oa k1 i ∧ (cax M oa 21 i).toInt ≤ k2.toInt ∧ (cV 2 M oa 2).toInt < k2.toInt ∧ ((cax M oa 22 i).toInt = -1 ∨ (cV 2 M oa 2).toInt < (cax M oa 22 i - 1).toInt))
set_option maxHeartbeats 4000000 in
set_option maxRecDepth 100000 in
theorem e_lags (l : Launch) (D : va_G) (cy : Nat → ClassId) (K : Kp) (L : List Nat) (M : Hp) (sz : Nat) (oa : Nat) (k1 : Nat) (k2 : Int32) (hW : WOK cy K L M) (ia : isk K L oa 2 0) (ik1 : isk K L k1 2 0) : Met l yX2_lagsFor (wsM yX2_lagsFor cX2_lagsFor 6 (some .boolean)) ({ frames := 1, cells := 0, slots := 0, locals := 21 }) (va_Pc [.ref oa, .ref k1, .int k2] (PG D cy [] L M sz)) (va_Qi (fun (r : Int32) (_ : Unit) => (r = 1 ∧ (LGX M oa k1 k2)) ∨ (r = 0 ∧ ¬ (LGX M oa k1 k2))) (fun _ t => PQ D [] L M (va_A ([] ++ va_pl L M) sz) t) (va_A ([] ++ va_pl L M) sz)) 0 0 (va_A ([] ++ va_pl L M) sz) := by
  refine Met.ofW (cc := cX2_lagsFor) (maxL := 6) (ret := (some .boolean)) (by decide) rfl ?_
  intro p e s m args below meth c s₁ B hml hv
  obtain ⟨rfl, hsz, hP, hK, hD0, hN⟩ := hv
  have hx := B.exec
  have hb := B.bytes
  have hr := B.returns
  have hts := atoms_spec (ws := (wsM yX2_lagsFor cX2_lagsFor 6 (some .boolean))) B.pre
  have hg : ∀ w ∈ lw_good, w.before _ s = true := fun w h => hts w (List.mem_cons_of_mem _ h)
  have hown : s.vm.findClass RX2 = some m.cls := findClass_of_methodNamed B.named
  have hlocks := B.notSynchronized
  subst hsz
  have hD := hD0.self (sz := s.heap.size)
  generalize hAe : va_A ([] ++ va_pl L M) s.heap.size = A at hD ⊢
  have hA : ∀ q : Nat, s.heap.size ≤ q → A q := fun q h => by rw [← hAe]; exact Or.inr h
  have hS : va_S A s.heap s.heap [] := va_S.rf
  have hl := lv_entry ([.ref oa, .ref k1, .int k2]) (n := 6) (Nat.le_of_ble_eq_true rfl)
  rw [lg_entry_eq]
  generalize (lg_sl ([.ref oa, .ref k1, .int k2]) ++ List.replicate (6 - (lg_sl ([.ref oa, .ref k1, .int k2])).length) Slot.unset).toArray = ls at hl ⊢
  refine W.nameQ (fun Q hQ => ?_)
  refine W.nameR (fun R hR => ?_)
  have hRf : 1 ≤ R.frames := by rw [hR]; exact Nat.le_of_ble_eq_true rfl
  have hRl : 21 ≤ R.locals := by rw [hR]; exact Nat.le_of_ble_eq_true rfl
  have hRc : 0 ≤ R.cells := by rw [hR]; exact Nat.le_of_ble_eq_true rfl
  have hRs : 0 ≤ R.slots := by rw [hR]; exact Nat.le_of_ble_eq_true rfl
  have hl : lv_has ls 6 [(0, .ref oa), (1, .ref k1), (2, .int k2)] := hl
  refine lv_iconst (v := 0) hx hb dX2_lagsFor_0 (by decide) ?_
  refine lv_istore_n (lv' := [(3, .int 0), (0, .ref oa), (1, .ref k1), (2, .int k2)]) hx hb dX2_lagsFor_1 rfl hl (by decide) rfl (fun ls hl => ?_)
  obtain ⟨v1_0, v1_1, v1_2, v1_3, v1_4, v1_5, v1_6, v1_7, v1_8, v1_9, v1_10, v1_11, v1_12, v1_13, v1_14, v1_15, v1_16, v1_17, v1_18, v1_19, hM1, h1_3, h1_4, h1_5, h1_6, h1_7, h1_8, h1_9, h1_10, h1_11, h1_12, h1_13, h1_16, h1_17, h1_18, h1_19⟩ := hW.open_2 ia
  have key_2 : ∀ (fu_4 : Nat) (v3w5 : Nat) (H_8 : Heap) (locs : List Loc) (ls : Array Slot), 24 - v3w5 < fu_4 → v3w5 ≤ 24 → (∀ i : Nat, i < v3w5 → ¬ ((i : Int) < (cV 2 M oa 9).toInt ∧ OWE M oa k1 i ∧ (cax M oa 21 i).toInt ≤ k2.toInt ∧ (cV 2 M oa 2).toInt < k2.toInt ∧ ((cax M oa 22 i).toInt = -1 ∨ (cV 2 M oa 2).toInt < (cax M oa 22 i - 1).toInt))) → WOK cy K L M → va_P D vwCl ([] ++ va_pl L M) H_8 → va_D A ([] ++ va_pl L M) → va_S A s.heap H_8 locs → lv_has ls 6 [(3, .int (nI v3w5)), (0, .ref oa), (1, .ref k1), (2, .int k2)] → W p l e R s m ([.ref oa, .ref k1, .int k2] : List Value).toArray below meth c H_8 locs 0 0 Q (F0 m 2 ls []) := by
    intro fu_4
    induction fu_4 with
    | zero => intro v3w5 H_8 locs ls h; exact absurd h (Nat.not_lt_zero _)
    | succ fu_4 ih_3 =>
      intro v3w5 H_8 locs ls hfu hx_6 hx_7 hW hP hD hS hl
      refine lv_iload_n hx hb dX2_lagsFor_2 rfl (lv_at hl 0 rfl) ?_
      refine lv_aload_n hx hb dX2_lagsFor_3 rfl (lv_at hl 1 rfl) ?_
      refine pg_get (D := D) (ci := 2) (v := .int (nI v1_9)) (C := RX2) (T := TX2) (N := 20) hx hb hg inG2 hown hK hP ia.1 hM1 rfl 9 (by decide) (hg _ wd_44) (fun _ h9 => h9) rfl dX2_lagsFor_4 ?_
      refine lv_icmp_ge (tgt := 88) hx hb dX2_lagsFor_7 (by decide) (fun c_9 => ?_) (fun c_9 => ?_)
      · have hz := rfl (a := 0)
        have n_10 : v1_9 ≤ v3w5 := (iLE (a := v1_9) (b := v3w5) (by omega) (by omega)).mp c_9
        refine lv_iconst (v := 0) hx hb dX2_lagsFor_88 (by decide) ?_
        have hA_11 : (cV 2 M oa 0).toInt = (v1_0 : Int32).toInt := by rw [cV_of hM1 rfl]
        have hA_12 : (cV 2 M oa 1).toInt = (v1_1 : Int32).toInt := by rw [cV_of hM1 rfl]
        have hA_13 : (cV 2 M oa 2).toInt = (v1_2 : Int32).toInt := by rw [cV_of hM1 rfl]
        have hA_14 : (cV 2 M oa 4).toInt = ((v1_4 : Nat) : Int) := by rw [cV_of hM1 rfl]; exact nI_toInt (by omega)
        have hA_15 : (cV 2 M oa 5).toInt = ((v1_5 : Nat) : Int) := by rw [cV_of hM1 rfl]; exact nI_toInt (by omega)
        have hA_16 : (cV 2 M oa 9).toInt = ((v1_9 : Nat) : Int) := by rw [cV_of hM1 rfl]; exact nI_toInt (by omega)
        have hA_17 : (cV 2 M oa 11).toInt = ((v1_11 : Nat) : Int) := by rw [cV_of hM1 rfl]; exact nI_toInt (by omega)
        have hA_18 : (cV 2 M oa 15).toInt = (v1_15 : Int32).toInt := by rw [cV_of hM1 rfl]
        have hI_19 : ((v1_9 : Nat) : Int) ≤ ((v3w5 : Nat) : Int) := ileI (nI_toInt (by omega)) (nI_toInt (by omega)) c_9
        rw [hQ]
        exact W.zret (v := 0) hx hb hr rfl (fun t ht hW9 => ⟨⟨0, (), rfl, (Or.inr ⟨rfl, fun w9 => by unfold LGX at w9; obtain ⟨i, w9⟩ := w9; exact hx_7 i (by have := w9.1; omega) w9⟩), ⟨by rw [ht]; exact hP, hD⟩⟩, hS.F ht⟩) hS.2.2 dX2_lagsFor_89
      · have hz := rfl (a := 0)
        have n_20 : ¬ (v1_9 ≤ v3w5) := fun q => c_9 ((iLE (a := v1_9) (b := v3w5) (by omega) (by omega)).mpr q)
        refine lv_aload_n hx hb dX2_lagsFor_10 rfl (lv_at hl 1 rfl) ?_
        refine lv_iload_n hx hb dX2_lagsFor_11 rfl (lv_at hl 0 rfl) ?_
        have hPc : va_P D vwCl ([] ++ va_pl L M) H_8 := hP
        have hDc : va_D A ([] ++ va_pl L M) := hD
        have hFc : ∀ q, va_A ([] ++ va_pl L M) H_8.size q → A q := pg_free hDc hS hA
        refine va_callq (va_runV (As := [.int (nI v3w5)]) (rest := []) ⟨hx, hb, hml, hown, hg⟩ (e_X2_tenureAt l D cy K L M H_8.size oa (nI v3w5)  hW ia) (cwV 1 hg (gV wd_54 wd_55 wd_56 wd_57 wd_58) rfl rfl rfl (by decide +kernel) ⟨(Nat.le_trans (Nat.le_of_ble_eq_true rfl) hRf), (Nat.le_trans (Nat.le_of_ble_eq_true rfl) hRl)⟩) ⟨PG.blind, pg_recv hK hP ia.1 hM1 rfl, fun U hU hW => ⟨rfl, PG.at hPc hK hDc hN hU hW⟩⟩ rfl rfl hl.1 rfl (lv_room (Nat.le_of_ble_eq_true rfl)) dX2_lagsFor_12 ⟨(Nat.le_trans (Nat.le_of_ble_eq_true rfl) hRc), (Nat.le_trans (Nat.le_of_ble_eq_true rfl) hRs)⟩) hS (fun q _ h => hFc q h) hFc (fun r_22 M_23 t H_21 locs ht hvm hw hB hz1 hk1 hS => ?_)
        have hp_24 := hw
        obtain ⟨hP1, hD1⟩ := hB
        rw [ht] at hP1
        have hP : va_P D vwCl ([] ++ va_pl L M) H_21 := hP1
        have hD : va_D A ([] ++ va_pl L M) := hD1.mono hFc
        obtain ⟨hp_24, hqx⟩ := hp_24
        rcases r_22 with _ | b_25
        · have hz := rfl (a := 0)
          have hqt := hqx
          refine lv_astoreN (lv' := [(4, .null), (3, .int (nI v3w5)), (0, .ref oa), (1, .ref k1), (2, .int k2)]) hx hb dX2_lagsFor_15 hl (by decide) rfl (fun ls hl => ?_)
          refine lv_aloadN hx hb dX2_lagsFor_17 (lv_at hl 0 rfl) ?_
          refine lv_ifnullN (tgt := 82) hx hb dX2_lagsFor_19 (by decide) ?_
          refine lv_iinc (v := (nI (v3w5 + 1))) (lv' := [(3, .int (nI (v3w5 + 1))), (4, .null), (0, .ref oa), (1, .ref k1), (2, .int k2)]) hx hb dX2_lagsFor_82 hl (k := 1) rfl (nI_1 v3w5) (by decide) rfl (fun ls hl => ?_)
          refine lv_goto (tgt := 2) hx hb dX2_lagsFor_85 (by decide) ?_
          have hA_26 : (cV 2 M oa 0).toInt = (v1_0 : Int32).toInt := by rw [cV_of hM1 rfl]
          have hA_27 : (cV 2 M oa 1).toInt = (v1_1 : Int32).toInt := by rw [cV_of hM1 rfl]
          have hA_28 : (cV 2 M oa 2).toInt = (v1_2 : Int32).toInt := by rw [cV_of hM1 rfl]
          have hA_29 : (cV 2 M oa 4).toInt = ((v1_4 : Nat) : Int) := by rw [cV_of hM1 rfl]; exact nI_toInt (by omega)
          have hA_30 : (cV 2 M oa 5).toInt = ((v1_5 : Nat) : Int) := by rw [cV_of hM1 rfl]; exact nI_toInt (by omega)
          have hA_31 : (cV 2 M oa 9).toInt = ((v1_9 : Nat) : Int) := by rw [cV_of hM1 rfl]; exact nI_toInt (by omega)
          have hA_32 : (cV 2 M oa 11).toInt = ((v1_11 : Nat) : Int) := by rw [cV_of hM1 rfl]; exact nI_toInt (by omega)
          have hA_33 : (cV 2 M oa 15).toInt = (v1_15 : Int32).toInt := by rw [cV_of hM1 rfl]
          have hI_34 : ((v3w5 : Nat) : Int) < ((v1_9 : Nat) : Int) := inleI (nI_toInt (by omega)) (nI_toInt (by omega)) c_9
          exact ih_3 (v3w5 + 1) H_21 _ _ (by omega) (by omega) (fun i hi w9 => by by_cases z9 : ¬ i = v3w5; exact hx_7 i (by omega) w9; have z9 := Classical.not_not.mp z9; subst z9; obtain ⟨w1, ⟨t9, w2, w3⟩, w4, w5, w6⟩ := w9; rcases hqt.2 rfl with q9 | q9; exact q9 (by rw [nI_toInt (by omega)]; omega); rw [nI_cl (by omega), w2] at q9; cases q9) hW hP hD hS (lv_sub hl [0, 2, 3, 4] rfl)
        · have hb_35 := hp_24 b_25 rfl
          have hqt := hqx
          refine lv_astore (lv' := [(4, .ref b_25), (3, .int (nI v3w5)), (0, .ref oa), (1, .ref k1), (2, .int k2)]) hx hb dX2_lagsFor_15 hl (by decide) rfl (fun ls hl => ?_)
          refine lv_aload hx hb dX2_lagsFor_17 (lv_at hl 0 rfl) ?_
          refine lv_ifnull hx hb dX2_lagsFor_19 ?_
          refine lv_aload hx hb dX2_lagsFor_22 (lv_at hl 0 rfl) ?_
          obtain ⟨v36_0, v36_1, v36_2, v36_3, v36_4, v36_5, v36_6, v36_7, v36_8, v36_9, v36_10, v36_11, v36_12, v36_13, v36_14, v36_15, hM36, h36_0, h36_1, h36_4, h36_8⟩ := hW.open_9 hb_35
          refine pg_get (D := D) (ci := 9) (v := .ref v36_1) (C := RX9) (T := TX9) (N := 16) hx hb hg inG9 hown hK hP hb_35.1 hM36 rfl 1 (by decide) (hg _ wd_86) (fun _ h9 => h9) rfl dX2_lagsFor_24 ?_
          obtain ⟨v37_0, v37_1, v37_2, v37_3, hM37, h37_3⟩ := hW.open_4 h36_1
          refine pg_get (D := D) (ci := 4) (v := va_rf v37_3) (C := RX4) (T := TX4) (N := 4) hx hb hg inG4 hown hK hP h36_1.1 hM37 rfl 3 (by decide) (hg _ wd_87) (fun _ h9 => h9) rfl dX2_lagsFor_27 ?_
          rcases v37_3 with _ | b_38
          · have hz := rfl (a := 0)
            refine lv_aload_n hx hb dX2_lagsFor_30 rfl (lv_at hl 3 rfl) ?_
            refine lv_acmp_ne (rx := none) (ry := (some k1)) (tgt := 82) hx hb dX2_lagsFor_31 (by decide) (fun c_39 => ?_) (fun c_39 => ?_)
            · have hz := rfl (a := 0)
              refine lv_iinc (v := (nI (v3w5 + 1))) (lv' := [(3, .int (nI (v3w5 + 1))), (4, .ref b_25), (0, .ref oa), (1, .ref k1), (2, .int k2)]) hx hb dX2_lagsFor_82 hl (k := 1) rfl (nI_1 v3w5) (by decide) rfl (fun ls hl => ?_)
              refine lv_goto (tgt := 2) hx hb dX2_lagsFor_85 (by decide) ?_
              have hI_40 : ((v3w5 : Nat) : Int) < ((v1_9 : Nat) : Int) := inleI (nI_toInt (by omega)) (nI_toInt (by omega)) c_9
              have hA_41 : (cV 2 M oa 0).toInt = (v1_0 : Int32).toInt := by rw [cV_of hM1 rfl]
              have hA_42 : (cV 2 M oa 1).toInt = (v1_1 : Int32).toInt := by rw [cV_of hM1 rfl]
              have hA_43 : (cV 2 M oa 2).toInt = (v1_2 : Int32).toInt := by rw [cV_of hM1 rfl]
              have hA_44 : (cV 2 M oa 4).toInt = ((v1_4 : Nat) : Int) := by rw [cV_of hM1 rfl]; exact nI_toInt (by omega)
              have hA_45 : (cV 2 M oa 5).toInt = ((v1_5 : Nat) : Int) := by rw [cV_of hM1 rfl]; exact nI_toInt (by omega)
              have hA_46 : (cV 2 M oa 9).toInt = ((v1_9 : Nat) : Int) := by rw [cV_of hM1 rfl]; exact nI_toInt (by omega)
              have hA_47 : (cV 2 M oa 11).toInt = ((v1_11 : Nat) : Int) := by rw [cV_of hM1 rfl]; exact nI_toInt (by omega)
              have hA_48 : (cV 2 M oa 15).toInt = (v1_15 : Int32).toInt := by rw [cV_of hM1 rfl]
              have hA_49 : (cV 9 M b_25 0).toInt = ((v36_0 : Nat) : Int) := by rw [cV_of hM36 rfl]; exact nI_toInt (by omega)
              have hA_50 : (cV 9 M b_25 2).toInt = (v36_2 : Int32).toInt := by rw [cV_of hM36 rfl]
              have hA_51 : (cV 9 M b_25 3).toInt = (v36_3 : Int32).toInt := by rw [cV_of hM36 rfl]
              have hA_52 : (cV 9 M b_25 4).toInt = (v36_4 : Int32).toInt := by rw [cV_of hM36 rfl]
              have hA_53 : (cV 9 M b_25 5).toInt = (v36_5 : Int32).toInt := by rw [cV_of hM36 rfl]
              have hA_54 : (cV 9 M b_25 6).toInt = (v36_6 : Int32).toInt := by rw [cV_of hM36 rfl]
              have hA_55 : (cV 9 M b_25 7).toInt = (v36_7 : Int32).toInt := by rw [cV_of hM36 rfl]
              have hA_56 : (cV 4 M v36_1 0).toInt = (v37_0 : Int32).toInt := by rw [cV_of hM37 rfl]
              have hA_57 : (cV 4 M v36_1 1).toInt = (v37_1 : Int32).toInt := by rw [cV_of hM37 rfl]
              have hA_58 : (cV 4 M v36_1 2).toInt = (v37_2 : Int32).toInt := by rw [cV_of hM37 rfl]
              obtain ⟨hq9, hs9⟩ := hqt.1 b_25 rfl
              rw [nI_cl (by omega)] at hs9
              have hlt := lk_te hs9 (by omega)
              have h21 := congrArg Int32.toInt hlt.2.2.1
              have h22 := congrArg Int32.toInt hlt.2.2.2.1
              have hcr : cR 4 M (rA 9 M b_25 1) 3 = none := by rw [rA_of (j := 1) hM36 rfl]; exact cR_q (q := none) hM37 rfl
              exact ih_3 (v3w5 + 1) H_21 _ _ (by omega) (by omega) (fun i hi w9 => by by_cases z9 : ¬ i = v3w5; exact hx_7 i (by omega) w9; have z9 := Classical.not_not.mp z9; subst z9; obtain ⟨w1, ⟨t9, w2, w3⟩, w4, w5, w6⟩ := w9; have e9 : t9 = b_25 := Option.some.inj (w2.symm.trans hs9); rw [e9, hcr] at w3; exact absurd w3 c_39) hW hP hD hS (lv_sub hl [0, 2, 3, 4] rfl)
            · have hz := rfl (a := 0)
              refine lv_aload hx hb dX2_lagsFor_34 (lv_at hl 0 rfl) ?_
              refine pg_get (D := D) (ci := 9) (v := .int v36_3) (C := RX9) (T := TX9) (N := 16) hx hb hg inG9 hown hK hP hb_35.1 hM36 rfl 3 (by decide) (hg _ wd_88) (fun _ h9 => h9) rfl dX2_lagsFor_36 ?_
              refine lv_iload_n hx hb dX2_lagsFor_39 rfl (lv_at hl 4 rfl) ?_
              refine lv_icmp_le (tgt := 46) hx hb dX2_lagsFor_40 (by decide) (fun c_59 => ?_) (fun c_59 => ?_)
              · have hz := rfl (a := 0)
                refine lv_aload hx hb dX2_lagsFor_46 (lv_at hl 0 rfl) ?_
                have hPc : va_P D vwCl ([] ++ va_pl L M) H_21 := hP
                have hDc : va_D A ([] ++ va_pl L M) := hD
                have hFc : ∀ q, va_A ([] ++ va_pl L M) H_21.size q → A q := pg_free hDc hS hA
                refine va_calli (va_runV (As := []) (rest := []) ⟨hx, hb, hml, hown, hg⟩ (e_X9_hasEnded l D cy K L M H_21.size b_25  hW hb_35) (cwV 0 hg (gV wd_49 wd_50 wd_51 wd_52 wd_53) rfl rfl rfl (by decide +kernel) ⟨(Nat.le_trans (Nat.le_of_ble_eq_true rfl) hRf), (Nat.le_trans (Nat.le_of_ble_eq_true rfl) hRl)⟩) ⟨PG.blind, pg_recv hK hP hb_35.1 hM36 rfl, fun U hU hW => ⟨rfl, PG.at hPc hK hDc hN hU hW⟩⟩ rfl rfl hl.1 rfl (lv_room (Nat.le_of_ble_eq_true rfl)) dX2_lagsFor_48 ⟨(Nat.le_trans (Nat.le_of_ble_eq_true rfl) hRc), (Nat.le_trans (Nat.le_of_ble_eq_true rfl) hRs)⟩) hS (fun q _ h => hFc q h) hFc (fun r_61 M_62 t H_60 locs ht hvm hw hB hz1 hk1 hS => ?_)
                have hp_63 := hw
                obtain ⟨hP1, hD1⟩ := hB
                rw [ht] at hP1
                have hP : va_P D vwCl ([] ++ va_pl L M) H_60 := hP1
                have hD : va_D A ([] ++ va_pl L M) := hD1.mono hFc
                rcases hp_63 with ⟨rfl, c_64⟩ | ⟨rfl, c_65⟩
                · have hz := rfl (a := 0)
                  refine lv_if_eq (tgt := 68) hx hb dX2_lagsFor_51 (by decide) (fun c_66 => absurd c_66 (by decide)) (fun _ => ?_)
                  refine lv_iload_n hx hb dX2_lagsFor_54 rfl (lv_at hl 4 rfl) ?_
                  refine lv_aload hx hb dX2_lagsFor_55 (lv_at hl 0 rfl) ?_
                  refine pg_get (D := D) (ci := 9) (v := .int v36_5) (C := RX9) (T := TX9) (N := 16) hx hb hg inG9 hown hK hP hb_35.1 hM36 rfl 5 (by decide) (hg _ wd_60) (fun _ h9 => h9) rfl dX2_lagsFor_57 ?_
                  refine lv_iconst (v := 1) hx hb dX2_lagsFor_60 (by decide) ?_
                  refine lv_isub hx hb dX2_lagsFor_61 ?_
                  refine lv_topi (fun f_67 ef_67 => ?_)
                  refine va_mmin hx hb (by rw [hml]; exact hl.1.symm) hown (hg _ wd_89) (hg _ wd_90) (hg _ wd_12) (hg _ wd_91) (Nat.le_trans (Nat.le_of_ble_eq_true rfl) hRf) (Nat.le_trans (Nat.le_of_ble_eq_true rfl) hRl) (Nat.le_trans (Nat.le_of_ble_eq_true rfl) hRc) (Nat.le_trans (Nat.le_of_ble_eq_true rfl) hRs) dX2_lagsFor_62 ?_
                  refine lv_topi (fun f_68 ef_68 => ?_)
                  refine lv_goto (tgt := 69) hx hb dX2_lagsFor_65 (by decide) ?_
                  refine lv_istore (lv' := [(5, .int f_68), (4, .ref b_25), (3, .int (nI v3w5)), (0, .ref oa), (1, .ref k1), (2, .int k2)]) hx hb dX2_lagsFor_69 hl (by decide) rfl (fun ls hl => ?_)
                  refine lv_aload_n hx hb dX2_lagsFor_71 rfl (lv_at hl 3 rfl) ?_
                  refine pg_get (D := D) (ci := 2) (v := .int v1_2) (C := RX2) (T := TX2) (N := 20) hx hb hg inG2 hown hK hP ia.1 hM1 rfl 2 (by decide) (hg _ wd_41) (fun _ h9 => h9) rfl dX2_lagsFor_72 ?_
                  refine lv_iload hx hb dX2_lagsFor_75 (lv_at hl 0 rfl) ?_
                  refine lv_icmp_ge (tgt := 82) hx hb dX2_lagsFor_77 (by decide) (fun c_69 => ?_) (fun c_69 => ?_)
                  · have hz := rfl (a := 0)
                    refine lv_iinc (v := (nI (v3w5 + 1))) (lv' := [(3, .int (nI (v3w5 + 1))), (5, .int f_68), (4, .ref b_25), (0, .ref oa), (1, .ref k1), (2, .int k2)]) hx hb dX2_lagsFor_82 hl (k := 2) rfl (nI_1 v3w5) (by decide) rfl (fun ls hl => ?_)
                    refine lv_goto (tgt := 2) hx hb dX2_lagsFor_85 (by decide) ?_
                    have hI_70 : ((v3w5 : Nat) : Int) < ((v1_9 : Nat) : Int) := inleI (nI_toInt (by omega)) (nI_toInt (by omega)) c_9
                    have hI_71 : (v36_3 : Int32).toInt ≤ (k2 : Int32).toInt := ileI rfl rfl c_59
                    have hI_72 : (f_68 : Int32).toInt ≤ (v1_2 : Int32).toInt := ileI rfl rfl c_69
                    have hA_73 : (cV 2 M oa 0).toInt = (v1_0 : Int32).toInt := by rw [cV_of hM1 rfl]
                    have hA_74 : (cV 2 M oa 1).toInt = (v1_1 : Int32).toInt := by rw [cV_of hM1 rfl]
                    have hA_75 : (cV 2 M oa 2).toInt = (v1_2 : Int32).toInt := by rw [cV_of hM1 rfl]
                    have hA_76 : (cV 2 M oa 4).toInt = ((v1_4 : Nat) : Int) := by rw [cV_of hM1 rfl]; exact nI_toInt (by omega)
                    have hA_77 : (cV 2 M oa 5).toInt = ((v1_5 : Nat) : Int) := by rw [cV_of hM1 rfl]; exact nI_toInt (by omega)
                    have hA_78 : (cV 2 M oa 9).toInt = ((v1_9 : Nat) : Int) := by rw [cV_of hM1 rfl]; exact nI_toInt (by omega)
                    have hA_79 : (cV 2 M oa 11).toInt = ((v1_11 : Nat) : Int) := by rw [cV_of hM1 rfl]; exact nI_toInt (by omega)
                    have hA_80 : (cV 2 M oa 15).toInt = (v1_15 : Int32).toInt := by rw [cV_of hM1 rfl]
                    have hA_81 : (cV 9 M b_25 0).toInt = ((v36_0 : Nat) : Int) := by rw [cV_of hM36 rfl]; exact nI_toInt (by omega)
                    have hA_82 : (cV 9 M b_25 2).toInt = (v36_2 : Int32).toInt := by rw [cV_of hM36 rfl]
                    have hA_83 : (cV 9 M b_25 3).toInt = (v36_3 : Int32).toInt := by rw [cV_of hM36 rfl]
                    have hA_84 : (cV 9 M b_25 4).toInt = (v36_4 : Int32).toInt := by rw [cV_of hM36 rfl]
                    have hA_85 : (cV 9 M b_25 5).toInt = (v36_5 : Int32).toInt := by rw [cV_of hM36 rfl]
                    have hA_86 : (cV 9 M b_25 6).toInt = (v36_6 : Int32).toInt := by rw [cV_of hM36 rfl]
                    have hA_87 : (cV 9 M b_25 7).toInt = (v36_7 : Int32).toInt := by rw [cV_of hM36 rfl]
                    have hA_88 : (cV 4 M v36_1 0).toInt = (v37_0 : Int32).toInt := by rw [cV_of hM37 rfl]
                    have hA_89 : (cV 4 M v36_1 1).toInt = (v37_1 : Int32).toInt := by rw [cV_of hM37 rfl]
                    have hA_90 : (cV 4 M v36_1 2).toInt = (v37_2 : Int32).toInt := by rw [cV_of hM37 rfl]
                    obtain ⟨hq9, hs9⟩ := hqt.1 b_25 rfl
                    rw [nI_cl (by omega)] at hs9
                    have hlt := lk_te hs9 (by omega)
                    have h21 := congrArg Int32.toInt hlt.2.2.1
                    have h22 := congrArg Int32.toInt hlt.2.2.2.1
                    have hf1 : (cax M oa 22 v3w5 - 1).toInt = (f_67 : Int32).toInt := by rw [hlt.2.2.2.1, cV_of (j := 5) hM36 rfl, ef_67]
                    have hcr : cR 4 M (rA 9 M b_25 1) 3 = none := by rw [rA_of (j := 1) hM36 rfl]; exact cR_q (q := none) hM37 rfl
                    have hmn := minx ef_68
                    exact ih_3 (v3w5 + 1) H_60 _ _ (by omega) (by omega) (fun i hi w9 => by by_cases z9 : ¬ i = v3w5; exact hx_7 i (by omega) w9; have z9 := Classical.not_not.mp z9; subst z9; obtain ⟨w1, ⟨t9, w2, w3⟩, w4, w5, w6⟩ := w9; omega) hW hP hD hS (lv_sub hl [0, 3, 4, 5] rfl)
                  · have hz := rfl (a := 0)
                    refine lv_iconst (v := 1) hx hb dX2_lagsFor_80 (by decide) ?_
                    have hI_91 : ((v3w5 : Nat) : Int) < ((v1_9 : Nat) : Int) := inleI (nI_toInt (by omega)) (nI_toInt (by omega)) c_9
                    have hI_92 : (v36_3 : Int32).toInt ≤ (k2 : Int32).toInt := ileI rfl rfl c_59
                    have hI_93 : (v1_2 : Int32).toInt < (f_68 : Int32).toInt := inleI rfl rfl c_69
                    have hA_94 : (cV 2 M oa 0).toInt = (v1_0 : Int32).toInt := by rw [cV_of hM1 rfl]
                    have hA_95 : (cV 2 M oa 1).toInt = (v1_1 : Int32).toInt := by rw [cV_of hM1 rfl]
                    have hA_96 : (cV 2 M oa 2).toInt = (v1_2 : Int32).toInt := by rw [cV_of hM1 rfl]
                    have hA_97 : (cV 2 M oa 4).toInt = ((v1_4 : Nat) : Int) := by rw [cV_of hM1 rfl]; exact nI_toInt (by omega)
                    have hA_98 : (cV 2 M oa 5).toInt = ((v1_5 : Nat) : Int) := by rw [cV_of hM1 rfl]; exact nI_toInt (by omega)
                    have hA_99 : (cV 2 M oa 9).toInt = ((v1_9 : Nat) : Int) := by rw [cV_of hM1 rfl]; exact nI_toInt (by omega)
                    have hA_100 : (cV 2 M oa 11).toInt = ((v1_11 : Nat) : Int) := by rw [cV_of hM1 rfl]; exact nI_toInt (by omega)
                    have hA_101 : (cV 2 M oa 15).toInt = (v1_15 : Int32).toInt := by rw [cV_of hM1 rfl]
                    have hA_102 : (cV 9 M b_25 0).toInt = ((v36_0 : Nat) : Int) := by rw [cV_of hM36 rfl]; exact nI_toInt (by omega)
                    have hA_103 : (cV 9 M b_25 2).toInt = (v36_2 : Int32).toInt := by rw [cV_of hM36 rfl]
                    have hA_104 : (cV 9 M b_25 3).toInt = (v36_3 : Int32).toInt := by rw [cV_of hM36 rfl]
                    have hA_105 : (cV 9 M b_25 4).toInt = (v36_4 : Int32).toInt := by rw [cV_of hM36 rfl]
                    have hA_106 : (cV 9 M b_25 5).toInt = (v36_5 : Int32).toInt := by rw [cV_of hM36 rfl]
                    have hA_107 : (cV 9 M b_25 6).toInt = (v36_6 : Int32).toInt := by rw [cV_of hM36 rfl]
                    have hA_108 : (cV 9 M b_25 7).toInt = (v36_7 : Int32).toInt := by rw [cV_of hM36 rfl]
                    have hA_109 : (cV 4 M v36_1 0).toInt = (v37_0 : Int32).toInt := by rw [cV_of hM37 rfl]
                    have hA_110 : (cV 4 M v36_1 1).toInt = (v37_1 : Int32).toInt := by rw [cV_of hM37 rfl]
                    have hA_111 : (cV 4 M v36_1 2).toInt = (v37_2 : Int32).toInt := by rw [cV_of hM37 rfl]
                    obtain ⟨hq9, hs9⟩ := hqt.1 b_25 rfl
                    rw [nI_cl (by omega)] at hs9
                    have hlt := lk_te hs9 (by omega)
                    have h21 := congrArg Int32.toInt hlt.2.2.1
                    have h22 := congrArg Int32.toInt hlt.2.2.2.1
                    have hf1 : (cax M oa 22 v3w5 - 1).toInt = (f_67 : Int32).toInt := by rw [hlt.2.2.2.1, cV_of (j := 5) hM36 rfl, ef_67]
                    have hcr : cR 4 M (rA 9 M b_25 1) 3 = none := by rw [rA_of (j := 1) hM36 rfl]; exact cR_q (q := none) hM37 rfl
                    have hmn := minx ef_68
                    rw [hQ]
                    exact W.zret (v := 1) hx hb hr rfl (fun t ht hW9 => ⟨⟨1, (), rfl, (Or.inl ⟨rfl, by unfold LGX; exact ⟨v3w5, by omega, ⟨b_25, hs9, hcr.trans c_39⟩, by omega, by omega, by omega⟩⟩), ⟨by rw [ht]; exact hP, hD⟩⟩, hS.F ht⟩) hS.2.2 dX2_lagsFor_81
                · have hz := rfl (a := 0)
                  refine lv_if_eq (tgt := 68) hx hb dX2_lagsFor_51 (by decide) (fun _ => ?_) (fun c_112 => absurd c_112 (by decide))
                  refine lv_iload_n hx hb dX2_lagsFor_68 rfl (lv_at hl 4 rfl) ?_
                  refine lv_istore (lv' := [(5, .int k2), (4, .ref b_25), (3, .int (nI v3w5)), (0, .ref oa), (1, .ref k1), (2, .int k2)]) hx hb dX2_lagsFor_69 hl (by decide) rfl (fun ls hl => ?_)
                  refine lv_aload_n hx hb dX2_lagsFor_71 rfl (lv_at hl 3 rfl) ?_
                  refine pg_get (D := D) (ci := 2) (v := .int v1_2) (C := RX2) (T := TX2) (N := 20) hx hb hg inG2 hown hK hP ia.1 hM1 rfl 2 (by decide) (hg _ wd_41) (fun _ h9 => h9) rfl dX2_lagsFor_72 ?_
                  refine lv_iload hx hb dX2_lagsFor_75 (lv_at hl 0 rfl) ?_
                  refine lv_icmp_ge (tgt := 82) hx hb dX2_lagsFor_77 (by decide) (fun c_113 => ?_) (fun c_113 => ?_)
                  · have hz := rfl (a := 0)
                    refine lv_iinc (v := (nI (v3w5 + 1))) (lv' := [(3, .int (nI (v3w5 + 1))), (5, .int k2), (4, .ref b_25), (0, .ref oa), (1, .ref k1), (2, .int k2)]) hx hb dX2_lagsFor_82 hl (k := 2) rfl (nI_1 v3w5) (by decide) rfl (fun ls hl => ?_)
                    refine lv_goto (tgt := 2) hx hb dX2_lagsFor_85 (by decide) ?_
                    have hI_114 : ((v3w5 : Nat) : Int) < ((v1_9 : Nat) : Int) := inleI (nI_toInt (by omega)) (nI_toInt (by omega)) c_9
                    have hI_115 : (v36_3 : Int32).toInt ≤ (k2 : Int32).toInt := ileI rfl rfl c_59
                    have hI_116 : (k2 : Int32).toInt ≤ (v1_2 : Int32).toInt := ileI rfl rfl c_113
                    have hA_117 : (cV 2 M oa 0).toInt = (v1_0 : Int32).toInt := by rw [cV_of hM1 rfl]
                    have hA_118 : (cV 2 M oa 1).toInt = (v1_1 : Int32).toInt := by rw [cV_of hM1 rfl]
                    have hA_119 : (cV 2 M oa 2).toInt = (v1_2 : Int32).toInt := by rw [cV_of hM1 rfl]
                    have hA_120 : (cV 2 M oa 4).toInt = ((v1_4 : Nat) : Int) := by rw [cV_of hM1 rfl]; exact nI_toInt (by omega)
                    have hA_121 : (cV 2 M oa 5).toInt = ((v1_5 : Nat) : Int) := by rw [cV_of hM1 rfl]; exact nI_toInt (by omega)
                    have hA_122 : (cV 2 M oa 9).toInt = ((v1_9 : Nat) : Int) := by rw [cV_of hM1 rfl]; exact nI_toInt (by omega)
                    have hA_123 : (cV 2 M oa 11).toInt = ((v1_11 : Nat) : Int) := by rw [cV_of hM1 rfl]; exact nI_toInt (by omega)
                    have hA_124 : (cV 2 M oa 15).toInt = (v1_15 : Int32).toInt := by rw [cV_of hM1 rfl]
                    have hA_125 : (cV 9 M b_25 0).toInt = ((v36_0 : Nat) : Int) := by rw [cV_of hM36 rfl]; exact nI_toInt (by omega)
                    have hA_126 : (cV 9 M b_25 2).toInt = (v36_2 : Int32).toInt := by rw [cV_of hM36 rfl]
                    have hA_127 : (cV 9 M b_25 3).toInt = (v36_3 : Int32).toInt := by rw [cV_of hM36 rfl]
                    have hA_128 : (cV 9 M b_25 4).toInt = (v36_4 : Int32).toInt := by rw [cV_of hM36 rfl]
                    have hA_129 : (cV 9 M b_25 5).toInt = (v36_5 : Int32).toInt := by rw [cV_of hM36 rfl]
                    have hA_130 : (cV 9 M b_25 6).toInt = (v36_6 : Int32).toInt := by rw [cV_of hM36 rfl]
                    have hA_131 : (cV 9 M b_25 7).toInt = (v36_7 : Int32).toInt := by rw [cV_of hM36 rfl]
                    have hA_132 : (cV 4 M v36_1 0).toInt = (v37_0 : Int32).toInt := by rw [cV_of hM37 rfl]
                    have hA_133 : (cV 4 M v36_1 1).toInt = (v37_1 : Int32).toInt := by rw [cV_of hM37 rfl]
                    have hA_134 : (cV 4 M v36_1 2).toInt = (v37_2 : Int32).toInt := by rw [cV_of hM37 rfl]
                    obtain ⟨hq9, hs9⟩ := hqt.1 b_25 rfl
                    rw [nI_cl (by omega)] at hs9
                    have hlt := lk_te hs9 (by omega)
                    have h21 := congrArg Int32.toInt hlt.2.2.1
                    have h22 := congrArg Int32.toInt hlt.2.2.2.1
                    have hcr : cR 4 M (rA 9 M b_25 1) 3 = none := by rw [rA_of (j := 1) hM36 rfl]; exact cR_q (q := none) hM37 rfl
                    exact ih_3 (v3w5 + 1) H_60 _ _ (by omega) (by omega) (fun i hi w9 => by by_cases z9 : ¬ i = v3w5; exact hx_7 i (by omega) w9; have z9 := Classical.not_not.mp z9; subst z9; obtain ⟨w1, ⟨t9, w2, w3⟩, w4, w5, w6⟩ := w9; omega) hW hP hD hS (lv_sub hl [0, 3, 4, 5] rfl)
                  · have hz := rfl (a := 0)
                    refine lv_iconst (v := 1) hx hb dX2_lagsFor_80 (by decide) ?_
                    have hI_135 : ((v3w5 : Nat) : Int) < ((v1_9 : Nat) : Int) := inleI (nI_toInt (by omega)) (nI_toInt (by omega)) c_9
                    have hI_136 : (v36_3 : Int32).toInt ≤ (k2 : Int32).toInt := ileI rfl rfl c_59
                    have hI_137 : (v1_2 : Int32).toInt < (k2 : Int32).toInt := inleI rfl rfl c_113
                    have hA_138 : (cV 2 M oa 0).toInt = (v1_0 : Int32).toInt := by rw [cV_of hM1 rfl]
                    have hA_139 : (cV 2 M oa 1).toInt = (v1_1 : Int32).toInt := by rw [cV_of hM1 rfl]
                    have hA_140 : (cV 2 M oa 2).toInt = (v1_2 : Int32).toInt := by rw [cV_of hM1 rfl]
                    have hA_141 : (cV 2 M oa 4).toInt = ((v1_4 : Nat) : Int) := by rw [cV_of hM1 rfl]; exact nI_toInt (by omega)
                    have hA_142 : (cV 2 M oa 5).toInt = ((v1_5 : Nat) : Int) := by rw [cV_of hM1 rfl]; exact nI_toInt (by omega)
                    have hA_143 : (cV 2 M oa 9).toInt = ((v1_9 : Nat) : Int) := by rw [cV_of hM1 rfl]; exact nI_toInt (by omega)
                    have hA_144 : (cV 2 M oa 11).toInt = ((v1_11 : Nat) : Int) := by rw [cV_of hM1 rfl]; exact nI_toInt (by omega)
                    have hA_145 : (cV 2 M oa 15).toInt = (v1_15 : Int32).toInt := by rw [cV_of hM1 rfl]
                    have hA_146 : (cV 9 M b_25 0).toInt = ((v36_0 : Nat) : Int) := by rw [cV_of hM36 rfl]; exact nI_toInt (by omega)
                    have hA_147 : (cV 9 M b_25 2).toInt = (v36_2 : Int32).toInt := by rw [cV_of hM36 rfl]
                    have hA_148 : (cV 9 M b_25 3).toInt = (v36_3 : Int32).toInt := by rw [cV_of hM36 rfl]
                    have hA_149 : (cV 9 M b_25 4).toInt = (v36_4 : Int32).toInt := by rw [cV_of hM36 rfl]
                    have hA_150 : (cV 9 M b_25 5).toInt = (v36_5 : Int32).toInt := by rw [cV_of hM36 rfl]
                    have hA_151 : (cV 9 M b_25 6).toInt = (v36_6 : Int32).toInt := by rw [cV_of hM36 rfl]
                    have hA_152 : (cV 9 M b_25 7).toInt = (v36_7 : Int32).toInt := by rw [cV_of hM36 rfl]
                    have hA_153 : (cV 4 M v36_1 0).toInt = (v37_0 : Int32).toInt := by rw [cV_of hM37 rfl]
                    have hA_154 : (cV 4 M v36_1 1).toInt = (v37_1 : Int32).toInt := by rw [cV_of hM37 rfl]
                    have hA_155 : (cV 4 M v36_1 2).toInt = (v37_2 : Int32).toInt := by rw [cV_of hM37 rfl]
                    obtain ⟨hq9, hs9⟩ := hqt.1 b_25 rfl
                    rw [nI_cl (by omega)] at hs9
                    have hlt := lk_te hs9 (by omega)
                    have h21 := congrArg Int32.toInt hlt.2.2.1
                    have h22 := congrArg Int32.toInt hlt.2.2.2.1
                    have hcr : cR 4 M (rA 9 M b_25 1) 3 = none := by rw [rA_of (j := 1) hM36 rfl]; exact cR_q (q := none) hM37 rfl
                    rw [hQ]
                    exact W.zret (v := 1) hx hb hr rfl (fun t ht hW9 => ⟨⟨1, (), rfl, (Or.inl ⟨rfl, by unfold LGX; exact ⟨v3w5, by omega, ⟨b_25, hs9, hcr.trans c_39⟩, by omega, by omega, by omega⟩⟩), ⟨by rw [ht]; exact hP, hD⟩⟩, hS.F ht⟩) hS.2.2 dX2_lagsFor_81
              · have hz := rfl (a := 0)
                refine lv_goto (tgt := 82) hx hb dX2_lagsFor_43 (by decide) ?_
                refine lv_iinc (v := (nI (v3w5 + 1))) (lv' := [(3, .int (nI (v3w5 + 1))), (4, .ref b_25), (0, .ref oa), (1, .ref k1), (2, .int k2)]) hx hb dX2_lagsFor_82 hl (k := 1) rfl (nI_1 v3w5) (by decide) rfl (fun ls hl => ?_)
                refine lv_goto (tgt := 2) hx hb dX2_lagsFor_85 (by decide) ?_
                have hI_156 : ((v3w5 : Nat) : Int) < ((v1_9 : Nat) : Int) := inleI (nI_toInt (by omega)) (nI_toInt (by omega)) c_9
                have hI_157 : (k2 : Int32).toInt < (v36_3 : Int32).toInt := inleI rfl rfl c_59
                have hA_158 : (cV 2 M oa 0).toInt = (v1_0 : Int32).toInt := by rw [cV_of hM1 rfl]
                have hA_159 : (cV 2 M oa 1).toInt = (v1_1 : Int32).toInt := by rw [cV_of hM1 rfl]
                have hA_160 : (cV 2 M oa 2).toInt = (v1_2 : Int32).toInt := by rw [cV_of hM1 rfl]
                have hA_161 : (cV 2 M oa 4).toInt = ((v1_4 : Nat) : Int) := by rw [cV_of hM1 rfl]; exact nI_toInt (by omega)
                have hA_162 : (cV 2 M oa 5).toInt = ((v1_5 : Nat) : Int) := by rw [cV_of hM1 rfl]; exact nI_toInt (by omega)
                have hA_163 : (cV 2 M oa 9).toInt = ((v1_9 : Nat) : Int) := by rw [cV_of hM1 rfl]; exact nI_toInt (by omega)
                have hA_164 : (cV 2 M oa 11).toInt = ((v1_11 : Nat) : Int) := by rw [cV_of hM1 rfl]; exact nI_toInt (by omega)
                have hA_165 : (cV 2 M oa 15).toInt = (v1_15 : Int32).toInt := by rw [cV_of hM1 rfl]
                have hA_166 : (cV 9 M b_25 0).toInt = ((v36_0 : Nat) : Int) := by rw [cV_of hM36 rfl]; exact nI_toInt (by omega)
                have hA_167 : (cV 9 M b_25 2).toInt = (v36_2 : Int32).toInt := by rw [cV_of hM36 rfl]
                have hA_168 : (cV 9 M b_25 3).toInt = (v36_3 : Int32).toInt := by rw [cV_of hM36 rfl]
                have hA_169 : (cV 9 M b_25 4).toInt = (v36_4 : Int32).toInt := by rw [cV_of hM36 rfl]
                have hA_170 : (cV 9 M b_25 5).toInt = (v36_5 : Int32).toInt := by rw [cV_of hM36 rfl]
                have hA_171 : (cV 9 M b_25 6).toInt = (v36_6 : Int32).toInt := by rw [cV_of hM36 rfl]
                have hA_172 : (cV 9 M b_25 7).toInt = (v36_7 : Int32).toInt := by rw [cV_of hM36 rfl]
                have hA_173 : (cV 4 M v36_1 0).toInt = (v37_0 : Int32).toInt := by rw [cV_of hM37 rfl]
                have hA_174 : (cV 4 M v36_1 1).toInt = (v37_1 : Int32).toInt := by rw [cV_of hM37 rfl]
                have hA_175 : (cV 4 M v36_1 2).toInt = (v37_2 : Int32).toInt := by rw [cV_of hM37 rfl]
                obtain ⟨hq9, hs9⟩ := hqt.1 b_25 rfl
                rw [nI_cl (by omega)] at hs9
                have hlt := lk_te hs9 (by omega)
                have h21 := congrArg Int32.toInt hlt.2.2.1
                have h22 := congrArg Int32.toInt hlt.2.2.2.1
                have hcr : cR 4 M (rA 9 M b_25 1) 3 = none := by rw [rA_of (j := 1) hM36 rfl]; exact cR_q (q := none) hM37 rfl
                exact ih_3 (v3w5 + 1) H_21 _ _ (by omega) (by omega) (fun i hi w9 => by by_cases z9 : ¬ i = v3w5; exact hx_7 i (by omega) w9; have z9 := Classical.not_not.mp z9; subst z9; obtain ⟨w1, ⟨t9, w2, w3⟩, w4, w5, w6⟩ := w9; omega) hW hP hD hS (lv_sub hl [0, 2, 3, 4] rfl)
          · have hb_176 := h37_3 b_38 rfl
            refine lv_aload_n hx hb dX2_lagsFor_30 rfl (lv_at hl 3 rfl) ?_
            refine lv_acmp_ne (rx := (some b_38)) (ry := (some k1)) (tgt := 82) hx hb dX2_lagsFor_31 (by decide) (fun c_177 => ?_) (fun c_177 => ?_)
            · have hz := rfl (a := 0)
              refine lv_iinc (v := (nI (v3w5 + 1))) (lv' := [(3, .int (nI (v3w5 + 1))), (4, .ref b_25), (0, .ref oa), (1, .ref k1), (2, .int k2)]) hx hb dX2_lagsFor_82 hl (k := 1) rfl (nI_1 v3w5) (by decide) rfl (fun ls hl => ?_)
              refine lv_goto (tgt := 2) hx hb dX2_lagsFor_85 (by decide) ?_
              have hI_178 : ((v3w5 : Nat) : Int) < ((v1_9 : Nat) : Int) := inleI (nI_toInt (by omega)) (nI_toInt (by omega)) c_9
              have hA_179 : (cV 2 M oa 0).toInt = (v1_0 : Int32).toInt := by rw [cV_of hM1 rfl]
              have hA_180 : (cV 2 M oa 1).toInt = (v1_1 : Int32).toInt := by rw [cV_of hM1 rfl]
              have hA_181 : (cV 2 M oa 2).toInt = (v1_2 : Int32).toInt := by rw [cV_of hM1 rfl]
              have hA_182 : (cV 2 M oa 4).toInt = ((v1_4 : Nat) : Int) := by rw [cV_of hM1 rfl]; exact nI_toInt (by omega)
              have hA_183 : (cV 2 M oa 5).toInt = ((v1_5 : Nat) : Int) := by rw [cV_of hM1 rfl]; exact nI_toInt (by omega)
              have hA_184 : (cV 2 M oa 9).toInt = ((v1_9 : Nat) : Int) := by rw [cV_of hM1 rfl]; exact nI_toInt (by omega)
              have hA_185 : (cV 2 M oa 11).toInt = ((v1_11 : Nat) : Int) := by rw [cV_of hM1 rfl]; exact nI_toInt (by omega)
              have hA_186 : (cV 2 M oa 15).toInt = (v1_15 : Int32).toInt := by rw [cV_of hM1 rfl]
              have hA_187 : (cV 9 M b_25 0).toInt = ((v36_0 : Nat) : Int) := by rw [cV_of hM36 rfl]; exact nI_toInt (by omega)
              have hA_188 : (cV 9 M b_25 2).toInt = (v36_2 : Int32).toInt := by rw [cV_of hM36 rfl]
              have hA_189 : (cV 9 M b_25 3).toInt = (v36_3 : Int32).toInt := by rw [cV_of hM36 rfl]
              have hA_190 : (cV 9 M b_25 4).toInt = (v36_4 : Int32).toInt := by rw [cV_of hM36 rfl]
              have hA_191 : (cV 9 M b_25 5).toInt = (v36_5 : Int32).toInt := by rw [cV_of hM36 rfl]
              have hA_192 : (cV 9 M b_25 6).toInt = (v36_6 : Int32).toInt := by rw [cV_of hM36 rfl]
              have hA_193 : (cV 9 M b_25 7).toInt = (v36_7 : Int32).toInt := by rw [cV_of hM36 rfl]
              have hA_194 : (cV 4 M v36_1 0).toInt = (v37_0 : Int32).toInt := by rw [cV_of hM37 rfl]
              have hA_195 : (cV 4 M v36_1 1).toInt = (v37_1 : Int32).toInt := by rw [cV_of hM37 rfl]
              have hA_196 : (cV 4 M v36_1 2).toInt = (v37_2 : Int32).toInt := by rw [cV_of hM37 rfl]
              obtain ⟨hq9, hs9⟩ := hqt.1 b_25 rfl
              rw [nI_cl (by omega)] at hs9
              have hlt := lk_te hs9 (by omega)
              have h21 := congrArg Int32.toInt hlt.2.2.1
              have h22 := congrArg Int32.toInt hlt.2.2.2.1
              have hcr : cR 4 M (rA 9 M b_25 1) 3 = (some b_38) := by rw [rA_of (j := 1) hM36 rfl]; exact cR_q (q := (some b_38)) hM37 rfl
              exact ih_3 (v3w5 + 1) H_21 _ _ (by omega) (by omega) (fun i hi w9 => by by_cases z9 : ¬ i = v3w5; exact hx_7 i (by omega) w9; have z9 := Classical.not_not.mp z9; subst z9; obtain ⟨w1, ⟨t9, w2, w3⟩, w4, w5, w6⟩ := w9; have e9 : t9 = b_25 := Option.some.inj (w2.symm.trans hs9); rw [e9, hcr] at w3; exact absurd w3 c_177) hW hP hD hS (lv_sub hl [0, 2, 3, 4] rfl)
            · have hz := rfl (a := 0)
              refine lv_aload hx hb dX2_lagsFor_34 (lv_at hl 0 rfl) ?_
              refine pg_get (D := D) (ci := 9) (v := .int v36_3) (C := RX9) (T := TX9) (N := 16) hx hb hg inG9 hown hK hP hb_35.1 hM36 rfl 3 (by decide) (hg _ wd_88) (fun _ h9 => h9) rfl dX2_lagsFor_36 ?_
              refine lv_iload_n hx hb dX2_lagsFor_39 rfl (lv_at hl 4 rfl) ?_
              refine lv_icmp_le (tgt := 46) hx hb dX2_lagsFor_40 (by decide) (fun c_197 => ?_) (fun c_197 => ?_)
              · have hz := rfl (a := 0)
                refine lv_aload hx hb dX2_lagsFor_46 (lv_at hl 0 rfl) ?_
                have hPc : va_P D vwCl ([] ++ va_pl L M) H_21 := hP
                have hDc : va_D A ([] ++ va_pl L M) := hD
                have hFc : ∀ q, va_A ([] ++ va_pl L M) H_21.size q → A q := pg_free hDc hS hA
                refine va_calli (va_runV (As := []) (rest := []) ⟨hx, hb, hml, hown, hg⟩ (e_X9_hasEnded l D cy K L M H_21.size b_25  hW hb_35) (cwV 0 hg (gV wd_49 wd_50 wd_51 wd_52 wd_53) rfl rfl rfl (by decide +kernel) ⟨(Nat.le_trans (Nat.le_of_ble_eq_true rfl) hRf), (Nat.le_trans (Nat.le_of_ble_eq_true rfl) hRl)⟩) ⟨PG.blind, pg_recv hK hP hb_35.1 hM36 rfl, fun U hU hW => ⟨rfl, PG.at hPc hK hDc hN hU hW⟩⟩ rfl rfl hl.1 rfl (lv_room (Nat.le_of_ble_eq_true rfl)) dX2_lagsFor_48 ⟨(Nat.le_trans (Nat.le_of_ble_eq_true rfl) hRc), (Nat.le_trans (Nat.le_of_ble_eq_true rfl) hRs)⟩) hS (fun q _ h => hFc q h) hFc (fun r_199 M_200 t H_198 locs ht hvm hw hB hz1 hk1 hS => ?_)
                have hp_201 := hw
                obtain ⟨hP1, hD1⟩ := hB
                rw [ht] at hP1
                have hP : va_P D vwCl ([] ++ va_pl L M) H_198 := hP1
                have hD : va_D A ([] ++ va_pl L M) := hD1.mono hFc
                rcases hp_201 with ⟨rfl, c_202⟩ | ⟨rfl, c_203⟩
                · have hz := rfl (a := 0)
                  refine lv_if_eq (tgt := 68) hx hb dX2_lagsFor_51 (by decide) (fun c_204 => absurd c_204 (by decide)) (fun _ => ?_)
                  refine lv_iload_n hx hb dX2_lagsFor_54 rfl (lv_at hl 4 rfl) ?_
                  refine lv_aload hx hb dX2_lagsFor_55 (lv_at hl 0 rfl) ?_
                  refine pg_get (D := D) (ci := 9) (v := .int v36_5) (C := RX9) (T := TX9) (N := 16) hx hb hg inG9 hown hK hP hb_35.1 hM36 rfl 5 (by decide) (hg _ wd_60) (fun _ h9 => h9) rfl dX2_lagsFor_57 ?_
                  refine lv_iconst (v := 1) hx hb dX2_lagsFor_60 (by decide) ?_
                  refine lv_isub hx hb dX2_lagsFor_61 ?_
                  refine lv_topi (fun f_205 ef_205 => ?_)
                  refine va_mmin hx hb (by rw [hml]; exact hl.1.symm) hown (hg _ wd_89) (hg _ wd_90) (hg _ wd_12) (hg _ wd_91) (Nat.le_trans (Nat.le_of_ble_eq_true rfl) hRf) (Nat.le_trans (Nat.le_of_ble_eq_true rfl) hRl) (Nat.le_trans (Nat.le_of_ble_eq_true rfl) hRc) (Nat.le_trans (Nat.le_of_ble_eq_true rfl) hRs) dX2_lagsFor_62 ?_
                  refine lv_topi (fun f_206 ef_206 => ?_)
                  refine lv_goto (tgt := 69) hx hb dX2_lagsFor_65 (by decide) ?_
                  refine lv_istore (lv' := [(5, .int f_206), (4, .ref b_25), (3, .int (nI v3w5)), (0, .ref oa), (1, .ref k1), (2, .int k2)]) hx hb dX2_lagsFor_69 hl (by decide) rfl (fun ls hl => ?_)
                  refine lv_aload_n hx hb dX2_lagsFor_71 rfl (lv_at hl 3 rfl) ?_
                  refine pg_get (D := D) (ci := 2) (v := .int v1_2) (C := RX2) (T := TX2) (N := 20) hx hb hg inG2 hown hK hP ia.1 hM1 rfl 2 (by decide) (hg _ wd_41) (fun _ h9 => h9) rfl dX2_lagsFor_72 ?_
                  refine lv_iload hx hb dX2_lagsFor_75 (lv_at hl 0 rfl) ?_
                  refine lv_icmp_ge (tgt := 82) hx hb dX2_lagsFor_77 (by decide) (fun c_207 => ?_) (fun c_207 => ?_)
                  · have hz := rfl (a := 0)
                    refine lv_iinc (v := (nI (v3w5 + 1))) (lv' := [(3, .int (nI (v3w5 + 1))), (5, .int f_206), (4, .ref b_25), (0, .ref oa), (1, .ref k1), (2, .int k2)]) hx hb dX2_lagsFor_82 hl (k := 2) rfl (nI_1 v3w5) (by decide) rfl (fun ls hl => ?_)
                    refine lv_goto (tgt := 2) hx hb dX2_lagsFor_85 (by decide) ?_
                    have hI_208 : ((v3w5 : Nat) : Int) < ((v1_9 : Nat) : Int) := inleI (nI_toInt (by omega)) (nI_toInt (by omega)) c_9
                    have hI_209 : (v36_3 : Int32).toInt ≤ (k2 : Int32).toInt := ileI rfl rfl c_197
                    have hI_210 : (f_206 : Int32).toInt ≤ (v1_2 : Int32).toInt := ileI rfl rfl c_207
                    have hA_211 : (cV 2 M oa 0).toInt = (v1_0 : Int32).toInt := by rw [cV_of hM1 rfl]
                    have hA_212 : (cV 2 M oa 1).toInt = (v1_1 : Int32).toInt := by rw [cV_of hM1 rfl]
                    have hA_213 : (cV 2 M oa 2).toInt = (v1_2 : Int32).toInt := by rw [cV_of hM1 rfl]
                    have hA_214 : (cV 2 M oa 4).toInt = ((v1_4 : Nat) : Int) := by rw [cV_of hM1 rfl]; exact nI_toInt (by omega)
                    have hA_215 : (cV 2 M oa 5).toInt = ((v1_5 : Nat) : Int) := by rw [cV_of hM1 rfl]; exact nI_toInt (by omega)
                    have hA_216 : (cV 2 M oa 9).toInt = ((v1_9 : Nat) : Int) := by rw [cV_of hM1 rfl]; exact nI_toInt (by omega)
                    have hA_217 : (cV 2 M oa 11).toInt = ((v1_11 : Nat) : Int) := by rw [cV_of hM1 rfl]; exact nI_toInt (by omega)
                    have hA_218 : (cV 2 M oa 15).toInt = (v1_15 : Int32).toInt := by rw [cV_of hM1 rfl]
                    have hA_219 : (cV 9 M b_25 0).toInt = ((v36_0 : Nat) : Int) := by rw [cV_of hM36 rfl]; exact nI_toInt (by omega)
                    have hA_220 : (cV 9 M b_25 2).toInt = (v36_2 : Int32).toInt := by rw [cV_of hM36 rfl]
                    have hA_221 : (cV 9 M b_25 3).toInt = (v36_3 : Int32).toInt := by rw [cV_of hM36 rfl]
                    have hA_222 : (cV 9 M b_25 4).toInt = (v36_4 : Int32).toInt := by rw [cV_of hM36 rfl]
                    have hA_223 : (cV 9 M b_25 5).toInt = (v36_5 : Int32).toInt := by rw [cV_of hM36 rfl]
                    have hA_224 : (cV 9 M b_25 6).toInt = (v36_6 : Int32).toInt := by rw [cV_of hM36 rfl]
                    have hA_225 : (cV 9 M b_25 7).toInt = (v36_7 : Int32).toInt := by rw [cV_of hM36 rfl]
                    have hA_226 : (cV 4 M v36_1 0).toInt = (v37_0 : Int32).toInt := by rw [cV_of hM37 rfl]
                    have hA_227 : (cV 4 M v36_1 1).toInt = (v37_1 : Int32).toInt := by rw [cV_of hM37 rfl]
                    have hA_228 : (cV 4 M v36_1 2).toInt = (v37_2 : Int32).toInt := by rw [cV_of hM37 rfl]
                    obtain ⟨hq9, hs9⟩ := hqt.1 b_25 rfl
                    rw [nI_cl (by omega)] at hs9
                    have hlt := lk_te hs9 (by omega)
                    have h21 := congrArg Int32.toInt hlt.2.2.1
                    have h22 := congrArg Int32.toInt hlt.2.2.2.1
                    have hf1 : (cax M oa 22 v3w5 - 1).toInt = (f_205 : Int32).toInt := by rw [hlt.2.2.2.1, cV_of (j := 5) hM36 rfl, ef_205]
                    have hcr : cR 4 M (rA 9 M b_25 1) 3 = (some b_38) := by rw [rA_of (j := 1) hM36 rfl]; exact cR_q (q := (some b_38)) hM37 rfl
                    have hmn := minx ef_206
                    exact ih_3 (v3w5 + 1) H_198 _ _ (by omega) (by omega) (fun i hi w9 => by by_cases z9 : ¬ i = v3w5; exact hx_7 i (by omega) w9; have z9 := Classical.not_not.mp z9; subst z9; obtain ⟨w1, ⟨t9, w2, w3⟩, w4, w5, w6⟩ := w9; omega) hW hP hD hS (lv_sub hl [0, 3, 4, 5] rfl)
                  · have hz := rfl (a := 0)
                    refine lv_iconst (v := 1) hx hb dX2_lagsFor_80 (by decide) ?_
                    have hI_229 : ((v3w5 : Nat) : Int) < ((v1_9 : Nat) : Int) := inleI (nI_toInt (by omega)) (nI_toInt (by omega)) c_9
                    have hI_230 : (v36_3 : Int32).toInt ≤ (k2 : Int32).toInt := ileI rfl rfl c_197
                    have hI_231 : (v1_2 : Int32).toInt < (f_206 : Int32).toInt := inleI rfl rfl c_207
                    have hA_232 : (cV 2 M oa 0).toInt = (v1_0 : Int32).toInt := by rw [cV_of hM1 rfl]
                    have hA_233 : (cV 2 M oa 1).toInt = (v1_1 : Int32).toInt := by rw [cV_of hM1 rfl]
                    have hA_234 : (cV 2 M oa 2).toInt = (v1_2 : Int32).toInt := by rw [cV_of hM1 rfl]
                    have hA_235 : (cV 2 M oa 4).toInt = ((v1_4 : Nat) : Int) := by rw [cV_of hM1 rfl]; exact nI_toInt (by omega)
                    have hA_236 : (cV 2 M oa 5).toInt = ((v1_5 : Nat) : Int) := by rw [cV_of hM1 rfl]; exact nI_toInt (by omega)
                    have hA_237 : (cV 2 M oa 9).toInt = ((v1_9 : Nat) : Int) := by rw [cV_of hM1 rfl]; exact nI_toInt (by omega)
                    have hA_238 : (cV 2 M oa 11).toInt = ((v1_11 : Nat) : Int) := by rw [cV_of hM1 rfl]; exact nI_toInt (by omega)
                    have hA_239 : (cV 2 M oa 15).toInt = (v1_15 : Int32).toInt := by rw [cV_of hM1 rfl]
                    have hA_240 : (cV 9 M b_25 0).toInt = ((v36_0 : Nat) : Int) := by rw [cV_of hM36 rfl]; exact nI_toInt (by omega)
                    have hA_241 : (cV 9 M b_25 2).toInt = (v36_2 : Int32).toInt := by rw [cV_of hM36 rfl]
                    have hA_242 : (cV 9 M b_25 3).toInt = (v36_3 : Int32).toInt := by rw [cV_of hM36 rfl]
                    have hA_243 : (cV 9 M b_25 4).toInt = (v36_4 : Int32).toInt := by rw [cV_of hM36 rfl]
                    have hA_244 : (cV 9 M b_25 5).toInt = (v36_5 : Int32).toInt := by rw [cV_of hM36 rfl]
                    have hA_245 : (cV 9 M b_25 6).toInt = (v36_6 : Int32).toInt := by rw [cV_of hM36 rfl]
                    have hA_246 : (cV 9 M b_25 7).toInt = (v36_7 : Int32).toInt := by rw [cV_of hM36 rfl]
                    have hA_247 : (cV 4 M v36_1 0).toInt = (v37_0 : Int32).toInt := by rw [cV_of hM37 rfl]
                    have hA_248 : (cV 4 M v36_1 1).toInt = (v37_1 : Int32).toInt := by rw [cV_of hM37 rfl]
                    have hA_249 : (cV 4 M v36_1 2).toInt = (v37_2 : Int32).toInt := by rw [cV_of hM37 rfl]
                    obtain ⟨hq9, hs9⟩ := hqt.1 b_25 rfl
                    rw [nI_cl (by omega)] at hs9
                    have hlt := lk_te hs9 (by omega)
                    have h21 := congrArg Int32.toInt hlt.2.2.1
                    have h22 := congrArg Int32.toInt hlt.2.2.2.1
                    have hf1 : (cax M oa 22 v3w5 - 1).toInt = (f_205 : Int32).toInt := by rw [hlt.2.2.2.1, cV_of (j := 5) hM36 rfl, ef_205]
                    have hcr : cR 4 M (rA 9 M b_25 1) 3 = (some b_38) := by rw [rA_of (j := 1) hM36 rfl]; exact cR_q (q := (some b_38)) hM37 rfl
                    have hmn := minx ef_206
                    rw [hQ]
                    exact W.zret (v := 1) hx hb hr rfl (fun t ht hW9 => ⟨⟨1, (), rfl, (Or.inl ⟨rfl, by unfold LGX; exact ⟨v3w5, by omega, ⟨b_25, hs9, hcr.trans c_177⟩, by omega, by omega, by omega⟩⟩), ⟨by rw [ht]; exact hP, hD⟩⟩, hS.F ht⟩) hS.2.2 dX2_lagsFor_81
                · have hz := rfl (a := 0)
                  refine lv_if_eq (tgt := 68) hx hb dX2_lagsFor_51 (by decide) (fun _ => ?_) (fun c_250 => absurd c_250 (by decide))
                  refine lv_iload_n hx hb dX2_lagsFor_68 rfl (lv_at hl 4 rfl) ?_
                  refine lv_istore (lv' := [(5, .int k2), (4, .ref b_25), (3, .int (nI v3w5)), (0, .ref oa), (1, .ref k1), (2, .int k2)]) hx hb dX2_lagsFor_69 hl (by decide) rfl (fun ls hl => ?_)
                  refine lv_aload_n hx hb dX2_lagsFor_71 rfl (lv_at hl 3 rfl) ?_
                  refine pg_get (D := D) (ci := 2) (v := .int v1_2) (C := RX2) (T := TX2) (N := 20) hx hb hg inG2 hown hK hP ia.1 hM1 rfl 2 (by decide) (hg _ wd_41) (fun _ h9 => h9) rfl dX2_lagsFor_72 ?_
                  refine lv_iload hx hb dX2_lagsFor_75 (lv_at hl 0 rfl) ?_
                  refine lv_icmp_ge (tgt := 82) hx hb dX2_lagsFor_77 (by decide) (fun c_251 => ?_) (fun c_251 => ?_)
                  · have hz := rfl (a := 0)
                    refine lv_iinc (v := (nI (v3w5 + 1))) (lv' := [(3, .int (nI (v3w5 + 1))), (5, .int k2), (4, .ref b_25), (0, .ref oa), (1, .ref k1), (2, .int k2)]) hx hb dX2_lagsFor_82 hl (k := 2) rfl (nI_1 v3w5) (by decide) rfl (fun ls hl => ?_)
                    refine lv_goto (tgt := 2) hx hb dX2_lagsFor_85 (by decide) ?_
                    have hI_252 : ((v3w5 : Nat) : Int) < ((v1_9 : Nat) : Int) := inleI (nI_toInt (by omega)) (nI_toInt (by omega)) c_9
                    have hI_253 : (v36_3 : Int32).toInt ≤ (k2 : Int32).toInt := ileI rfl rfl c_197
                    have hI_254 : (k2 : Int32).toInt ≤ (v1_2 : Int32).toInt := ileI rfl rfl c_251
                    have hA_255 : (cV 2 M oa 0).toInt = (v1_0 : Int32).toInt := by rw [cV_of hM1 rfl]
                    have hA_256 : (cV 2 M oa 1).toInt = (v1_1 : Int32).toInt := by rw [cV_of hM1 rfl]
                    have hA_257 : (cV 2 M oa 2).toInt = (v1_2 : Int32).toInt := by rw [cV_of hM1 rfl]
                    have hA_258 : (cV 2 M oa 4).toInt = ((v1_4 : Nat) : Int) := by rw [cV_of hM1 rfl]; exact nI_toInt (by omega)
                    have hA_259 : (cV 2 M oa 5).toInt = ((v1_5 : Nat) : Int) := by rw [cV_of hM1 rfl]; exact nI_toInt (by omega)
                    have hA_260 : (cV 2 M oa 9).toInt = ((v1_9 : Nat) : Int) := by rw [cV_of hM1 rfl]; exact nI_toInt (by omega)
                    have hA_261 : (cV 2 M oa 11).toInt = ((v1_11 : Nat) : Int) := by rw [cV_of hM1 rfl]; exact nI_toInt (by omega)
                    have hA_262 : (cV 2 M oa 15).toInt = (v1_15 : Int32).toInt := by rw [cV_of hM1 rfl]
                    have hA_263 : (cV 9 M b_25 0).toInt = ((v36_0 : Nat) : Int) := by rw [cV_of hM36 rfl]; exact nI_toInt (by omega)
                    have hA_264 : (cV 9 M b_25 2).toInt = (v36_2 : Int32).toInt := by rw [cV_of hM36 rfl]
                    have hA_265 : (cV 9 M b_25 3).toInt = (v36_3 : Int32).toInt := by rw [cV_of hM36 rfl]
                    have hA_266 : (cV 9 M b_25 4).toInt = (v36_4 : Int32).toInt := by rw [cV_of hM36 rfl]
                    have hA_267 : (cV 9 M b_25 5).toInt = (v36_5 : Int32).toInt := by rw [cV_of hM36 rfl]
                    have hA_268 : (cV 9 M b_25 6).toInt = (v36_6 : Int32).toInt := by rw [cV_of hM36 rfl]
                    have hA_269 : (cV 9 M b_25 7).toInt = (v36_7 : Int32).toInt := by rw [cV_of hM36 rfl]
                    have hA_270 : (cV 4 M v36_1 0).toInt = (v37_0 : Int32).toInt := by rw [cV_of hM37 rfl]
                    have hA_271 : (cV 4 M v36_1 1).toInt = (v37_1 : Int32).toInt := by rw [cV_of hM37 rfl]
                    have hA_272 : (cV 4 M v36_1 2).toInt = (v37_2 : Int32).toInt := by rw [cV_of hM37 rfl]
                    obtain ⟨hq9, hs9⟩ := hqt.1 b_25 rfl
                    rw [nI_cl (by omega)] at hs9
                    have hlt := lk_te hs9 (by omega)
                    have h21 := congrArg Int32.toInt hlt.2.2.1
                    have h22 := congrArg Int32.toInt hlt.2.2.2.1
                    have hcr : cR 4 M (rA 9 M b_25 1) 3 = (some b_38) := by rw [rA_of (j := 1) hM36 rfl]; exact cR_q (q := (some b_38)) hM37 rfl
                    exact ih_3 (v3w5 + 1) H_198 _ _ (by omega) (by omega) (fun i hi w9 => by by_cases z9 : ¬ i = v3w5; exact hx_7 i (by omega) w9; have z9 := Classical.not_not.mp z9; subst z9; obtain ⟨w1, ⟨t9, w2, w3⟩, w4, w5, w6⟩ := w9; omega) hW hP hD hS (lv_sub hl [0, 3, 4, 5] rfl)
                  · have hz := rfl (a := 0)
                    refine lv_iconst (v := 1) hx hb dX2_lagsFor_80 (by decide) ?_
                    have hI_273 : ((v3w5 : Nat) : Int) < ((v1_9 : Nat) : Int) := inleI (nI_toInt (by omega)) (nI_toInt (by omega)) c_9
                    have hI_274 : (v36_3 : Int32).toInt ≤ (k2 : Int32).toInt := ileI rfl rfl c_197
                    have hI_275 : (v1_2 : Int32).toInt < (k2 : Int32).toInt := inleI rfl rfl c_251
                    have hA_276 : (cV 2 M oa 0).toInt = (v1_0 : Int32).toInt := by rw [cV_of hM1 rfl]
                    have hA_277 : (cV 2 M oa 1).toInt = (v1_1 : Int32).toInt := by rw [cV_of hM1 rfl]
                    have hA_278 : (cV 2 M oa 2).toInt = (v1_2 : Int32).toInt := by rw [cV_of hM1 rfl]
                    have hA_279 : (cV 2 M oa 4).toInt = ((v1_4 : Nat) : Int) := by rw [cV_of hM1 rfl]; exact nI_toInt (by omega)
                    have hA_280 : (cV 2 M oa 5).toInt = ((v1_5 : Nat) : Int) := by rw [cV_of hM1 rfl]; exact nI_toInt (by omega)
                    have hA_281 : (cV 2 M oa 9).toInt = ((v1_9 : Nat) : Int) := by rw [cV_of hM1 rfl]; exact nI_toInt (by omega)
                    have hA_282 : (cV 2 M oa 11).toInt = ((v1_11 : Nat) : Int) := by rw [cV_of hM1 rfl]; exact nI_toInt (by omega)
                    have hA_283 : (cV 2 M oa 15).toInt = (v1_15 : Int32).toInt := by rw [cV_of hM1 rfl]
                    have hA_284 : (cV 9 M b_25 0).toInt = ((v36_0 : Nat) : Int) := by rw [cV_of hM36 rfl]; exact nI_toInt (by omega)
                    have hA_285 : (cV 9 M b_25 2).toInt = (v36_2 : Int32).toInt := by rw [cV_of hM36 rfl]
                    have hA_286 : (cV 9 M b_25 3).toInt = (v36_3 : Int32).toInt := by rw [cV_of hM36 rfl]
                    have hA_287 : (cV 9 M b_25 4).toInt = (v36_4 : Int32).toInt := by rw [cV_of hM36 rfl]
                    have hA_288 : (cV 9 M b_25 5).toInt = (v36_5 : Int32).toInt := by rw [cV_of hM36 rfl]
                    have hA_289 : (cV 9 M b_25 6).toInt = (v36_6 : Int32).toInt := by rw [cV_of hM36 rfl]
                    have hA_290 : (cV 9 M b_25 7).toInt = (v36_7 : Int32).toInt := by rw [cV_of hM36 rfl]
                    have hA_291 : (cV 4 M v36_1 0).toInt = (v37_0 : Int32).toInt := by rw [cV_of hM37 rfl]
                    have hA_292 : (cV 4 M v36_1 1).toInt = (v37_1 : Int32).toInt := by rw [cV_of hM37 rfl]
                    have hA_293 : (cV 4 M v36_1 2).toInt = (v37_2 : Int32).toInt := by rw [cV_of hM37 rfl]
                    obtain ⟨hq9, hs9⟩ := hqt.1 b_25 rfl
                    rw [nI_cl (by omega)] at hs9
                    have hlt := lk_te hs9 (by omega)
                    have h21 := congrArg Int32.toInt hlt.2.2.1
                    have h22 := congrArg Int32.toInt hlt.2.2.2.1
                    have hcr : cR 4 M (rA 9 M b_25 1) 3 = (some b_38) := by rw [rA_of (j := 1) hM36 rfl]; exact cR_q (q := (some b_38)) hM37 rfl
                    rw [hQ]
                    exact W.zret (v := 1) hx hb hr rfl (fun t ht hW9 => ⟨⟨1, (), rfl, (Or.inl ⟨rfl, by unfold LGX; exact ⟨v3w5, by omega, ⟨b_25, hs9, hcr.trans c_177⟩, by omega, by omega, by omega⟩⟩), ⟨by rw [ht]; exact hP, hD⟩⟩, hS.F ht⟩) hS.2.2 dX2_lagsFor_81
              · have hz := rfl (a := 0)
                refine lv_goto (tgt := 82) hx hb dX2_lagsFor_43 (by decide) ?_
                refine lv_iinc (v := (nI (v3w5 + 1))) (lv' := [(3, .int (nI (v3w5 + 1))), (4, .ref b_25), (0, .ref oa), (1, .ref k1), (2, .int k2)]) hx hb dX2_lagsFor_82 hl (k := 1) rfl (nI_1 v3w5) (by decide) rfl (fun ls hl => ?_)
                refine lv_goto (tgt := 2) hx hb dX2_lagsFor_85 (by decide) ?_
                have hI_294 : ((v3w5 : Nat) : Int) < ((v1_9 : Nat) : Int) := inleI (nI_toInt (by omega)) (nI_toInt (by omega)) c_9
                have hI_295 : (k2 : Int32).toInt < (v36_3 : Int32).toInt := inleI rfl rfl c_197
                have hA_296 : (cV 2 M oa 0).toInt = (v1_0 : Int32).toInt := by rw [cV_of hM1 rfl]
                have hA_297 : (cV 2 M oa 1).toInt = (v1_1 : Int32).toInt := by rw [cV_of hM1 rfl]
                have hA_298 : (cV 2 M oa 2).toInt = (v1_2 : Int32).toInt := by rw [cV_of hM1 rfl]
                have hA_299 : (cV 2 M oa 4).toInt = ((v1_4 : Nat) : Int) := by rw [cV_of hM1 rfl]; exact nI_toInt (by omega)
                have hA_300 : (cV 2 M oa 5).toInt = ((v1_5 : Nat) : Int) := by rw [cV_of hM1 rfl]; exact nI_toInt (by omega)
                have hA_301 : (cV 2 M oa 9).toInt = ((v1_9 : Nat) : Int) := by rw [cV_of hM1 rfl]; exact nI_toInt (by omega)
                have hA_302 : (cV 2 M oa 11).toInt = ((v1_11 : Nat) : Int) := by rw [cV_of hM1 rfl]; exact nI_toInt (by omega)
                have hA_303 : (cV 2 M oa 15).toInt = (v1_15 : Int32).toInt := by rw [cV_of hM1 rfl]
                have hA_304 : (cV 9 M b_25 0).toInt = ((v36_0 : Nat) : Int) := by rw [cV_of hM36 rfl]; exact nI_toInt (by omega)
                have hA_305 : (cV 9 M b_25 2).toInt = (v36_2 : Int32).toInt := by rw [cV_of hM36 rfl]
                have hA_306 : (cV 9 M b_25 3).toInt = (v36_3 : Int32).toInt := by rw [cV_of hM36 rfl]
                have hA_307 : (cV 9 M b_25 4).toInt = (v36_4 : Int32).toInt := by rw [cV_of hM36 rfl]
                have hA_308 : (cV 9 M b_25 5).toInt = (v36_5 : Int32).toInt := by rw [cV_of hM36 rfl]
                have hA_309 : (cV 9 M b_25 6).toInt = (v36_6 : Int32).toInt := by rw [cV_of hM36 rfl]
                have hA_310 : (cV 9 M b_25 7).toInt = (v36_7 : Int32).toInt := by rw [cV_of hM36 rfl]
                have hA_311 : (cV 4 M v36_1 0).toInt = (v37_0 : Int32).toInt := by rw [cV_of hM37 rfl]
                have hA_312 : (cV 4 M v36_1 1).toInt = (v37_1 : Int32).toInt := by rw [cV_of hM37 rfl]
                have hA_313 : (cV 4 M v36_1 2).toInt = (v37_2 : Int32).toInt := by rw [cV_of hM37 rfl]
                obtain ⟨hq9, hs9⟩ := hqt.1 b_25 rfl
                rw [nI_cl (by omega)] at hs9
                have hlt := lk_te hs9 (by omega)
                have h21 := congrArg Int32.toInt hlt.2.2.1
                have h22 := congrArg Int32.toInt hlt.2.2.2.1
                have hcr : cR 4 M (rA 9 M b_25 1) 3 = (some b_38) := by rw [rA_of (j := 1) hM36 rfl]; exact cR_q (q := (some b_38)) hM37 rfl
                exact ih_3 (v3w5 + 1) H_21 _ _ (by omega) (by omega) (fun i hi w9 => by by_cases z9 : ¬ i = v3w5; exact hx_7 i (by omega) w9; have z9 := Classical.not_not.mp z9; subst z9; obtain ⟨w1, ⟨t9, w2, w3⟩, w4, w5, w6⟩ := w9; omega) hW hP hD hS (lv_sub hl [0, 2, 3, 4] rfl)
  exact key_2 (24 - 0 + 1) 0 s.heap _ _ (by omega) (by omega) (fun i h => absurd h (Nat.not_lt_zero _)) hW hP hD hS (lv_sub hl [0, 1, 2, 3] rfl)
theorem iT8 {cy : Nat → ClassId} {K : Kp} {L : List Nat} {M : Hp} {b i t : Nat} (hW : WOK cy K L M) (hb : isk K L b 2 0) (hi : i < 24) (h : RFc (M (rA 2 M b 8)) i = some t) : isk K L t 9 0 := by
  obtain ⟨f, h1, h2⟩ := hW.open_62 (KH hW hb).2.2.2.1
  rw [RFc_of h1] at h
  exact h2 i hi t h
theorem lagE {cy : Nat → ClassId} {B : Nat → Nat × Nat} {K : Kp} {L : List Nat} {x0 n k b k1 : Nat} {T : Int} {np : Nat} {PK PT : Nat → Int32} {SX : Nat → Nat → Int} {SY : Nat → Nat → Nat → Int32} {M : Hp} {bo : Nat} {k2 : Int32} (h : CX B K L x0 n T np PK PT SX SY M) (hW : WOK cy K L M) (i0 : isk K L x0 17 8) (hn : n ≤ 8) (hk : k < n) (ha : RFc (M x0) k = some k1) (hSM : SIM b T np PK PT (cfx M bo) (cax M bo) (SX b) (SY b)) (ib : isk K L bo 2 0) (h24 : SX b 10 ≤ 24) (hc10 : (cV 2 M bo 9).toInt = SX b 10) (hc1 : (cV 2 M bo 2).toInt = SX b 1) (i : Nat) : ((i : Int) < (cV 2 M bo 9).toInt ∧ OWE M bo k1 i ∧ (cax M bo 21 i).toInt ≤ k2.toInt ∧ (cV 2 M bo 2).toInt < k2.toInt ∧ ((cax M bo 22 i).toInt = -1 ∨ (cV 2 M bo 2).toInt < (cax M bo 22 i - 1).toInt)) ↔ LAGi PK PT SX SY k k2.toInt b i := by
  unfold LAGi
  rw [hc10, hc1]
  refine ⟨fun ⟨w1, ⟨t, w2, w3⟩, w4, w5, w6⟩ => ?_, fun ⟨w1, w3, w4, w5, w6⟩ => ?_⟩
  · have g := hSM.te i w1
    have it := iT8 hW ib (by omega) w2
    have e := (ownK h hW hn hk ha it w2 (by omega)).mp w3
    rw [g.2.2.2.2.2.2.2] at e
    rw [g.2.2.1] at w4
    rw [g.2.2.2.1] at w6
    exact ⟨w1, e, w4, w5, w6⟩
  · have g := hSM.te i w1
    have h28 := (hSM.tn i (by omega)).mpr w1
    cases e8 : RFc (M (rA 2 M bo 8)) i with
    | none =>
      rw [tn0 e8 (by omega)] at h28
      exact absurd h28 (by decide)
    | some t =>
      have it := iT8 hW ib (by omega) e8
      refine ⟨w1, ⟨t, e8, (ownK h hW hn hk ha it e8 (by omega)).mpr ?_⟩, ?_, w5, ?_⟩
      · rw [g.2.2.2.2.2.2.2]
        exact w3
      · rw [g.2.2.1]
        exact w4
      · rw [g.2.2.2.1]
        exact w6
set_option maxHeartbeats 4000000 in
set_option maxRecDepth 100000 in
theorem e_behind (l : Launch) (D : va_G) (cy : Nat → ClassId) (K : Kp) (L : List Nat) (M : Hp) (sz : Nat) (xa : Nat) (x0 : Nat) (x1 : Nat) (x2 : Nat) (x3 : Nat) (x4 : Nat) (x5 : Nat) (x6 : Nat) (x7 : Int32) (x8 : Nat) (x9 : Int32) (x10 : Int32) (k1 : Nat) (k2 : Int32) (kk : Nat) (Bo : Nat → Nat × Nat) (T : Int) (PK : Nat → Int32) (PT : Nat → Int32) (SX : Nat → Nat → Int) (SY : Nat → Nat → Nat → Int32) (hW : WOK cy K L M) (i0 : isk K L x0 17 8) (b1 : x1 ≤ 8) (i2 : isk K L x2 19 40) (b3 : x3 ≤ 40) (i4 : isk K L x4 7 0) (i5 : isk K L x5 5 0) (i6 : isk K L x6 60 24) (i8 : isk K L x8 73 25) (ik1 : isk K L k1 2 0) (hC : CX Bo K L x0 x1 T x3 PK PT SX SY M) (hSV : ∀ k, k < x1 → SV (SX k) (SY k)) (hkk : kk < x1) (hk1 : RFc (M x0) kk = some k1) : Met l yX11_firstHouseBehind (wsM yX11_firstHouseBehind cX11_firstHouseBehind 5 (some .int)) ({ frames := 2, cells := 0, slots := 0, locals := 46 }) (va_Pc [.ref xa, .ref k1, .int k2] (PG D cy [(xa, (b11_1 x0 (nI x1) x2 (nI x3) x4 x5 x6 x7 x8 x9 x10))] L M sz)) (va_Qi (fun (r : Int32) (_ : Unit) => (r = (-1) ∧ (∀ b : Nat, b < x1 → ¬ (LAG PK PT SX SY kk k2.toInt b))) ∨ (∃ (j : Nat), r = (nI j) ∧ j < x1 ∧ (LAG PK PT SX SY kk k2.toInt j) ∧ (∀ b : Nat, b < j → ¬ (LAG PK PT SX SY kk k2.toInt b)))) (fun _ t => PQ D [(xa, (b11_1 x0 (nI x1) x2 (nI x3) x4 x5 x6 x7 x8 x9 x10))] L M (va_A ([(xa, (b11_1 x0 (nI x1) x2 (nI x3) x4 x5 x6 x7 x8 x9 x10))] ++ va_pl L M) sz) t) (va_A ([(xa, (b11_1 x0 (nI x1) x2 (nI x3) x4 x5 x6 x7 x8 x9 x10))] ++ va_pl L M) sz)) 0 0 (va_A ([(xa, (b11_1 x0 (nI x1) x2 (nI x3) x4 x5 x6 x7 x8 x9 x10))] ++ va_pl L M) sz) := by
  refine Met.ofW (cc := cX11_firstHouseBehind) (maxL := 5) (ret := (some .int)) (by decide) rfl ?_
  intro p e s m args below meth c s₁ B hml hv
  obtain ⟨rfl, hsz, hP, hK, hD0, hN⟩ := hv
  have hx := B.exec
  have hb := B.bytes
  have hr := B.returns
  have hts := atoms_spec (ws := (wsM yX11_firstHouseBehind cX11_firstHouseBehind 5 (some .int))) B.pre
  have hg : ∀ w ∈ lw_good, w.before _ s = true := fun w h => hts w (List.mem_cons_of_mem _ h)
  have hown : s.vm.findClass RX11 = some m.cls := findClass_of_methodNamed B.named
  have hlocks := B.notSynchronized
  subst hsz
  have hD := hD0.self (sz := s.heap.size)
  generalize hAe : va_A ([(xa, (b11_1 x0 (nI x1) x2 (nI x3) x4 x5 x6 x7 x8 x9 x10))] ++ va_pl L M) s.heap.size = A at hD ⊢
  have hA : ∀ q : Nat, s.heap.size ≤ q → A q := fun q h => by rw [← hAe]; exact Or.inr h
  have hS : va_S A s.heap s.heap [] := va_S.rf
  have hl := lv_entry ([.ref xa, .ref k1, .int k2]) (n := 5) (Nat.le_of_ble_eq_true rfl)
  rw [lg_entry_eq]
  generalize (lg_sl ([.ref xa, .ref k1, .int k2]) ++ List.replicate (5 - (lg_sl ([.ref xa, .ref k1, .int k2])).length) Slot.unset).toArray = ls at hl ⊢
  refine W.nameQ (fun Q hQ => ?_)
  refine W.nameR (fun R hR => ?_)
  have hRf : 2 ≤ R.frames := by rw [hR]; exact Nat.le_of_ble_eq_true rfl
  have hRl : 46 ≤ R.locals := by rw [hR]; exact Nat.le_of_ble_eq_true rfl
  have hRc : 0 ≤ R.cells := by rw [hR]; exact Nat.le_of_ble_eq_true rfl
  have hRs : 0 ≤ R.slots := by rw [hR]; exact Nat.le_of_ble_eq_true rfl
  have hl : lv_has ls 5 [(0, .ref xa), (1, .ref k1), (2, .int k2)] := hl
  refine lv_iconst (v := 0) hx hb dX11_firstHouseBehind_0 (by decide) ?_
  refine lv_istore_n (lv' := [(3, .int 0), (0, .ref xa), (1, .ref k1), (2, .int k2)]) hx hb dX11_firstHouseBehind_1 rfl hl (by decide) rfl (fun ls hl => ?_)
  obtain ⟨f1, hM1, hf1⟩ := hW.open_17 i0
  have key_2 : ∀ (fu_4 : Nat) (v3w5 : Nat) (H_8 : Heap) (locs : List Loc) (ls : Array Slot), 8 - v3w5 < fu_4 → v3w5 ≤ x1 → (∀ b : Nat, b < v3w5 → ¬ (LAG PK PT SX SY kk k2.toInt b)) → WOK cy K L M → va_P D vwCl ([(xa, (b11_1 x0 (nI x1) x2 (nI x3) x4 x5 x6 x7 x8 x9 x10))] ++ va_pl L M) H_8 → va_D A ([(xa, (b11_1 x0 (nI x1) x2 (nI x3) x4 x5 x6 x7 x8 x9 x10))] ++ va_pl L M) → va_S A s.heap H_8 locs → lv_has ls 5 [(3, .int (nI v3w5)), (0, .ref xa), (1, .ref k1), (2, .int k2)] → W p l e R s m ([.ref xa, .ref k1, .int k2] : List Value).toArray below meth c H_8 locs 0 0 Q (F0 m 2 ls []) := by
    intro fu_4
    induction fu_4 with
    | zero => intro v3w5 H_8 locs ls h; exact absurd h (Nat.not_lt_zero _)
    | succ fu_4 ih_3 =>
      intro v3w5 H_8 locs ls hfu hx_6 hx_7 hW hP hD hS hl
      refine lv_iload_n hx hb dX11_firstHouseBehind_2 rfl (lv_at hl 0 rfl) ?_
      refine lv_aload_n hx hb dX11_firstHouseBehind_3 rfl (lv_at hl 1 rfl) ?_
      refine va_get (D := D) (ci := 11) (v := .int (nI x1)) (C := RX11) (T := TX11) (N := 11) hx hb hg inG11 hown hK hP 0 rfl rfl 1 (by decide) (hg _ wd_336) (fun _ h9 => h9) rfl dX11_firstHouseBehind_4 ?_
      refine lv_icmp_ge (tgt := 47) hx hb dX11_firstHouseBehind_7 (by decide) (fun c_9 => ?_) (fun c_9 => ?_)
      · have hz := rfl (a := 0)
        have n_10 : x1 ≤ v3w5 := (iLE (a := x1) (b := v3w5) (by omega) (by omega)).mp c_9
        refine lv_iconst (v := (-1)) hx hb dX11_firstHouseBehind_47 (by decide) ?_
        rw [hQ]
        exact W.iret (v := (-1)) hx hb hr (fun t ht hW9 => ⟨⟨(-1), (), rfl, (Or.inl ⟨rfl, fun b hb => hx_7 b (by omega)⟩), ⟨by rw [ht]; exact hP, hD⟩⟩, hS.F ht⟩) hS.2.2 dX11_firstHouseBehind_48
      · have hz := rfl (a := 0)
        have n_11 : ¬ (x1 ≤ v3w5) := fun q => c_9 ((iLE (a := x1) (b := v3w5) (by omega) (by omega)).mpr q)
        refine lv_iload_n hx hb dX11_firstHouseBehind_10 rfl (lv_at hl 0 rfl) ?_
        refine lv_bipush (v := 8) hx hb dX11_firstHouseBehind_11 (by decide) ?_
        refine lv_icmp_ge (tgt := 47) hx hb dX11_firstHouseBehind_13 (by decide) (fun c_12 => ?_) (fun c_12 => ?_)
        · have hz := rfl (a := 0)
          have n_13 : 8 ≤ v3w5 := (iLE (a := 8) (b := v3w5) (by omega) (by omega)).mp c_12
          refine lv_iconst (v := (-1)) hx hb dX11_firstHouseBehind_47 (by decide) ?_
          rw [hQ]
          exact W.iret (v := (-1)) hx hb hr (fun t ht hW9 => ⟨⟨(-1), (), rfl, (Or.inl ⟨rfl, fun b hb => hx_7 b (by omega)⟩), ⟨by rw [ht]; exact hP, hD⟩⟩, hS.F ht⟩) hS.2.2 dX11_firstHouseBehind_48
        · have hz := rfl (a := 0)
          have n_14 : ¬ (8 ≤ v3w5) := fun q => c_12 ((iLE (a := 8) (b := v3w5) (by omega) (by omega)).mpr q)
          refine lv_aload_n hx hb dX11_firstHouseBehind_16 rfl (lv_at hl 1 rfl) ?_
          refine va_get (D := D) (ci := 11) (v := .ref x0) (C := RX11) (T := TX11) (N := 11) hx hb hg inG11 hown hK hP 0 rfl rfl 0 (by decide) (hg _ wd_337) (fun _ h9 => h9) rfl dX11_firstHouseBehind_17 ?_
          refine lv_iload_n hx hb dX11_firstHouseBehind_20 rfl (lv_at hl 0 rfl) ?_
          have hi_15 : vp_in (nI v3w5) 8 := (inbN v3w5 8 (by omega) (by omega))
          refine pg_aldq hx hb hK hP i0.1 3 hM1 rfl hi_15 dX11_firstHouseBehind_21 ?_
          obtain ⟨q_16, ho_17⟩ : ∃ q : Option Nat, q = f1 ((nI v3w5) : Int32).toNatClampNeg := ⟨_, rfl⟩
          rw [← ho_17]
          have hq_18 : iskN K L q_16 2 0 := by rw [ho_17]; exact hf1 _ (vp_lt hi_15)
          rcases q_16 with _ | bq_16
          · have hz := rfl (a := 0)
            refine lv_astoreN (lv' := [(4, .null), (3, .int (nI v3w5)), (0, .ref xa), (1, .ref k1), (2, .int k2)]) hx hb dX11_firstHouseBehind_22 hl (by decide) rfl (fun ls hl => ?_)
            obtain ⟨a9, e9, _⟩ := hC.hs v3w5 (by omega)
            rw [RFc_of hM1] at e9
            have e8 := ho_17
            rw [nI_cl (by omega), e9] at e8
            cases e8
          · have hb_19 := hq_18 bq_16 rfl
            refine lv_astore (lv' := [(4, .ref bq_16), (3, .int (nI v3w5)), (0, .ref xa), (1, .ref k1), (2, .int k2)]) hx hb dX11_firstHouseBehind_22 hl (by decide) rfl (fun ls hl => ?_)
            have hb9 : RFc (M x0) v3w5 = some bq_16 := by rw [RFc_of hM1]; have h9 := (Eq.symm ho_17); rw [nI_cl (by omega)] at h9; exact h9
            have hSM := hC.at (by omega) hb9
            have hSVk := hSV v3w5 (by omega)
            have hc10 : (cV 2 M bq_16 9).toInt = SX v3w5 10 := hSM.x10
            have hc1 : (cV 2 M bq_16 2).toInt = SX v3w5 1 := hSM.x1
            have hb10 := hSVk.b10
            have hLE : LGX M bq_16 k1 k2 ↔ (LAG PK PT SX SY kk k2.toInt v3w5) := exists_congr (fun i => lagE hC hW i0 b1 hkk hk1 hSM hb_19 (by omega) hc10 hc1 i)
            refine lv_aload hx hb dX11_firstHouseBehind_24 (lv_at hl 0 rfl) ?_
            refine lv_ifnull hx hb dX11_firstHouseBehind_26 ?_
            refine lv_aload hx hb dX11_firstHouseBehind_29 (lv_at hl 0 rfl) ?_
            refine lv_aload_n hx hb dX11_firstHouseBehind_31 rfl (lv_at hl 3 rfl) ?_
            refine lv_iload_n hx hb dX11_firstHouseBehind_32 rfl (lv_at hl 4 rfl) ?_
            obtain ⟨v20_0, v20_1, v20_2, v20_3, v20_4, v20_5, v20_6, v20_7, v20_8, v20_9, v20_10, v20_11, v20_12, v20_13, v20_14, v20_15, v20_16, v20_17, v20_18, v20_19, hM20, h20_3, h20_4, h20_5, h20_6, h20_7, h20_8, h20_9, h20_10, h20_11, h20_12, h20_13, h20_16, h20_17, h20_18, h20_19⟩ := hW.open_2 hb_19
            have hPc : va_P D vwCl ([] ++ va_pl L M) H_8 := hP.part (cx := []) [] rfl
            have hDc : va_D A ([] ++ va_pl L M) := hD.part (cx := []) [] (by decide) rfl
            have hFc : ∀ q, va_A ([] ++ va_pl L M) H_8.size q → A q := pg_free hDc hS hA
            refine va_calli (va_runV (As := [.ref k1, .int k2]) (rest := []) ⟨hx, hb, hml, hown, hg⟩ (e_lags l D cy K L M H_8.size bq_16 k1 k2  hW hb_19 ik1) (cwV 2 hg (gV wd_456 wd_457 wd_458 wd_57 wd_459) rfl rfl rfl (by decide +kernel) ⟨(Nat.le_trans (Nat.le_of_ble_eq_true rfl) hRf), (Nat.le_trans (Nat.le_of_ble_eq_true rfl) hRl)⟩) ⟨PG.blind, pg_recv hK hP hb_19.1 hM20 rfl, fun U hU hW => ⟨rfl, PG.at hPc hK hDc hN hU hW⟩⟩ rfl rfl hl.1 rfl (lv_room (Nat.le_of_ble_eq_true rfl)) dX11_firstHouseBehind_33 ⟨(Nat.le_trans (Nat.le_of_ble_eq_true rfl) hRc), (Nat.le_trans (Nat.le_of_ble_eq_true rfl) hRs)⟩) hS (fun q _ h => hFc q h) hFc (fun r_22 M_23 t H_21 locs ht hvm hw hB hz1 hk1 hS => ?_)
            have hp_24 := hw
            obtain ⟨hP1, hD1⟩ := hB
            rw [ht] at hP1
            obtain ⟨hP, hD⟩ := va_joinP (X := [(xa, (b11_1 x0 (nI x1) x2 (nI x3) x4 x5 x6 x7 x8 x9 x10))]) (cx := []) (wr := [(xa, (b11_1 x0 (nI x1) x2 (nI x3) x4 x5 x6 x7 x8 x9 x10))]) (rx := []) (pl := va_pl L M) (pl1 := va_pl L M) hP hD [] [0] rfl rfl (by decide) (by decide) hk1 hFc hP1 hD1
            have hP : va_P D vwCl ([(xa, (b11_1 x0 (nI x1) x2 (nI x3) x4 x5 x6 x7 x8 x9 x10))] ++ va_pl L M) H_21 := hP
            have hD : va_D A ([(xa, (b11_1 x0 (nI x1) x2 (nI x3) x4 x5 x6 x7 x8 x9 x10))] ++ va_pl L M) := hD
            rcases hp_24 with ⟨rfl, c_25⟩ | ⟨rfl, c_26⟩
            · have hz := rfl (a := 0)
              refine lv_if_eq (tgt := 41) hx hb dX11_firstHouseBehind_36 (by decide) (fun c_27 => absurd c_27 (by decide)) (fun _ => ?_)
              refine lv_iload_n hx hb dX11_firstHouseBehind_39 rfl (lv_at hl 1 rfl) ?_
              rw [hQ]
              exact W.iret (v := (nI v3w5)) hx hb hr (fun t ht hW9 => ⟨⟨(nI v3w5), (), rfl, (Or.inr ⟨v3w5, rfl, by omega, hLE.mp c_25, hx_7⟩), ⟨by rw [ht]; exact hP, hD⟩⟩, hS.F ht⟩) hS.2.2 dX11_firstHouseBehind_40
            · have hz := rfl (a := 0)
              refine lv_if_eq (tgt := 41) hx hb dX11_firstHouseBehind_36 (by decide) (fun _ => ?_) (fun c_28 => absurd c_28 (by decide))
              refine lv_iinc (v := (nI (v3w5 + 1))) (lv' := [(3, .int (nI (v3w5 + 1))), (4, .ref bq_16), (0, .ref xa), (1, .ref k1), (2, .int k2)]) hx hb dX11_firstHouseBehind_41 hl (k := 1) rfl (nI_1 v3w5) (by decide) rfl (fun ls hl => ?_)
              refine lv_goto (tgt := 2) hx hb dX11_firstHouseBehind_44 (by decide) ?_
              exact ih_3 (v3w5 + 1) H_21 _ _ (by omega) (by omega) (fun b hb => by by_cases z9 : ¬ b = v3w5; exact hx_7 b (by omega); rw [Classical.not_not.mp z9]; exact fun w9 => c_26 (hLE.mpr w9)) hW hP hD hS (lv_sub hl [0, 2, 3, 4] rfl)
  exact key_2 (8 - 0 + 1) 0 s.heap _ _ (by omega) (by omega) (fun b h => absurd h (Nat.not_lt_zero _)) hW hP hD hS (lv_sub hl [0, 1, 2, 3] rfl)
