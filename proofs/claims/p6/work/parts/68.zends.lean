theorem insE_pos {Y : Nat → Nat → Int32} {e : Int} {i : Nat} (h : 1 ≤ (Y 23 i).toInt) : 1 ≤ (insE Y e i).toInt := by
  unfold insE
  by_cases q : (Y 22 i).toInt ≠ -1 ∧ (Y 22 i).toInt ≤ e + 1
  · rw [if_pos q]
    by_cases w : (Y 25 i).toInt = -1 ∧ 1 < (Y 23 i).toInt
    · unfold insC
      rw [if_pos w]
      have hl := Int32.toInt_lt (Y 23 i)
      have w2 := w.2
      have hy : (Y 23 i - 1).toInt = (Y 23 i).toInt - 1 := isubI (a := (Y 23 i).toInt) (b := 1) rfl rfl rfl (by omega) (by omega)
      omega
    · rw [insC_n w]
      exact h
  · rw [if_neg q]
    exact h
theorem HC.insg {t e : Int} {Y : Nat → Nat → Int32} {g : Nat → Int32} (h : HC t (Y 22) (Y 23)) (hg : ∀ i : Nat, (i : Int) < t → g i = insE Y e i) : HC t (Y 22) g := fun j hj hjt => (h j hj hjt).elim Or.inl (fun q => Or.inr (by rw [hg j hjt]; exact insE_pos q))
theorem insUn {g : Nat → Int32} {Y : Nat → Nat → Int32} {e : Int} {k n : Nat} {v w : Int32} (h : ∀ i : Nat, i < n → g i = insE Y e i) (q : insE Y e n = w) (hk : k = n) (hv : v = w) : ∀ i : Nat, i < n + 1 → upd g k v i = insE Y e i := fun i hi => by
  subst hk
  by_cases z : i = k
  · rw [z, upd_self, hv, q]
  · rw [upd_ne _ _ z]
    exact h i (by omega)
theorem insWn {g : Nat → Int32} {Y : Nat → Nat → Int32} {k n : Nat} {v : Int32} (h : ∀ i : Nat, n ≤ i → g i = Y 23 i) (hk : k = n) : ∀ i : Nat, n + 1 ≤ i → upd g k v i = Y 23 i := fun i hi => by
  rw [upd_ne _ _ (by omega)]
  exact h i (by omega)
set_option maxHeartbeats 4000000 in
set_option maxRecDepth 100000 in
theorem z_ends (l : Launch) (D : va_G) (cy : Nat → ClassId) (K : Kp) (L : List Nat) (M : Hp) (sz : Nat) (k1 : Nat) (k2 : Nat) (hW : WOM cy K L M) (ik1 : isk K L k1 12 0) (nk2 : k2 < 1000) (hO : OWN K L M) (hC : HC (fx M k1 10) (ax M k1 22) (ax M k1 23)) : Met l yX13_ends (wsM yX13_ends cX13_ends 5 none) ({ frames := 0, cells := 0, slots := 0, locals := 0 }) (va_Pc [.ref k1, .int (nI k2)] (PG D cy [] L M sz)) (va_Qv (fun (M9 : Hp) => WOM cy K L M9 ∧ fr K L [15, 42, 87, 88, 90, 91] M M9 ∧ fG K L [] M M9 ∧ (∃ g9 : Nat → Int32, (∀ i : Nat, (i : Int) < fx M k1 10 → g9 i = insE (ax M k1) ((k2 : Nat) : Int) i) ∧ VW K L M M9 k1 (fx M k1) (va_up (ax M k1) 23 g9)) ∧ (True)) (fun M9 t => PQ D [] L M9 (va_A ([] ++ va_pl L M) sz) t) (va_A ([] ++ va_pl L M) sz)) 0 0 (va_A ([] ++ va_pl L M) sz) := by
  refine Met.ofW (cc := cX13_ends) (maxL := 5) (ret := none) (by decide) rfl ?_
  intro p e s m args below meth c s₁ B hml hv
  obtain ⟨rfl, hsz, hP, hK, hD0, hN⟩ := hv
  have hx := B.exec
  have hb := B.bytes
  have hr := B.returns
  have hts := atoms_spec (ws := (wsM yX13_ends cX13_ends 5 none)) B.pre
  have hg : ∀ w ∈ lw_good, w.before _ s = true := fun w h => hts w (List.mem_cons_of_mem _ h)
  have hown : s.vm.findClass RX13 = some m.cls := findClass_of_methodNamed B.named
  have hlocks := B.notSynchronized
  subst hsz
  have hD := hD0.self (sz := s.heap.size)
  generalize hAe : va_A ([] ++ va_pl L M) s.heap.size = A at hD ⊢
  have hA : ∀ q : Nat, s.heap.size ≤ q → A q := fun q h => by rw [← hAe]; exact Or.inr h
  have hS : va_S A s.heap s.heap [] := va_S.rf
  have hl := lv_entry ([.ref k1, .int (nI k2)]) (n := 5) (Nat.le_of_ble_eq_true rfl)
  rw [lg_entry_eq]
  generalize (lg_sl ([.ref k1, .int (nI k2)]) ++ List.replicate (5 - (lg_sl ([.ref k1, .int (nI k2)])).length) Slot.unset).toArray = ls at hl ⊢
  refine W.nameQ (fun Q hQ => ?_)
  refine W.nameR (fun R hR => ?_)
  have hRf : 0 ≤ R.frames := by rw [hR]; exact Nat.le_of_ble_eq_true rfl
  have hRl : 0 ≤ R.locals := by rw [hR]; exact Nat.le_of_ble_eq_true rfl
  have hRc : 0 ≤ R.cells := by rw [hR]; exact Nat.le_of_ble_eq_true rfl
  have hRs : 0 ≤ R.slots := by rw [hR]; exact Nat.le_of_ble_eq_true rfl
  have hF : fr K L [15, 42, 87, 88, 90, 91] M M := fr.rf
  have hG : fG K L [] M M := fG.rf
  have hl : lv_has ls 5 [(0, .ref k1), (1, .int (nI k2))] := hl
  have hW0 := hW
  have hV : VW K L M M k1 (fx M k1) (ax M k1) := VW.rf k1 hO
  obtain ⟨fs1, hM1, hn1, hl1⟩ := hW.open_12 ik1
  obtain ⟨v2, hv2, hc2⟩ : ∃ v : Nat, fs1[10]? = some (.int (nI v) : Value) ∧ v ≤ 24 := hl1 10 (by decide)
  have hx10 : (fx M k1 10) = ((v2 : Nat) : Int) := (congrFun hV.2.1 10).symm.trans ((fx_of hM1 rfl hv2).trans (nI_toInt (by omega)))
  refine lv_iconst (v := 0) hx hb dX13_ends_0 (by decide) ?_
  refine lv_istore_n (lv' := [(2, .int 0), (0, .ref k1), (1, .int (nI k2))]) hx hb dX13_ends_1 rfl hl (by decide) rfl (fun ls hl => ?_)
  have key_3 : ∀ (fu_5 : Nat) (v2w6 : Nat) (gw6 : Nat → Int32) (M_11 : Hp) (H_12 : Heap) (locs : List Loc) (ls : Array Slot), 24 - v2w6 < fu_5 → M_11 k1 = .inr (12, fs1) → v2w6 ≤ 24 → ((v2w6 : Nat) : Int) ≤ fx M k1 10 → (∀ i : Nat, i < v2w6 → gw6 i = insE (ax M k1) ((k2 : Nat) : Int) i) → (∀ i : Nat, v2w6 ≤ i → gw6 i = ax M k1 23 i) → WOM cy K L M_11 → fr K L [15, 42, 87, 88, 90, 91] M M_11 → fG K L [] M M_11 → VW K L M M_11 k1 (fx M k1) (va_up (ax M k1) 23 gw6) → va_P D vwCl ([] ++ va_pl L M_11) H_12 → va_D A ([] ++ va_pl L M_11) → va_S A s.heap H_12 locs → lv_has ls 5 [(2, .int (nI v2w6)), (0, .ref k1), (1, .int (nI k2))] → W p l e R s m ([.ref k1, .int (nI k2)] : List Value).toArray below meth c H_12 locs 0 0 Q (F0 m 2 ls []) := by
    intro fu_5
    induction fu_5 with
    | zero => intro v2w6 gw6 M_11 H_12 locs ls h; exact absurd h (Nat.not_lt_zero _)
    | succ fu_5 ih_4 =>
      intro v2w6 gw6 M_11 H_12 locs ls hfu hM_13 hx_7 hx_8 hx_9 hx_10 hW hF hG hV hP hD hS hl
      have hx10 : (fx M k1 10) = ((v2 : Nat) : Int) := (congrFun hV.2.1 10).symm.trans ((fx_of hM_13 rfl hv2).trans (nI_toInt (by omega)))
      refine lv_iload_n hx hb dX13_ends_2 rfl (lv_at hl 0 rfl) ?_
      refine lv_aload_n hx hb dX13_ends_3 rfl (lv_at hl 1 rfl) ?_
      refine pg_getN (D := D) (ci := 12) (v := .int (nI v2)) (C := RX12) (T := TX12) (N := 51) hx hb hg inG12 hown hK hP ik1.1 hM_13 rfl 10 (by decide) (hN.use (Cond.fieldLinkNest RX13 68 RX12 "tenures" "I" RX13) 19 rfl rfl) (fun _ h9 => h9) hv2 dX13_ends_4 ?_
      refine lv_icmp_ge (tgt := 218) hx hb dX13_ends_7 (by decide) (fun c_14 => ?_) (fun c_14 => ?_)
      · have hz := rfl (a := 0)
        have n_15 : v2 ≤ v2w6 := (iLE (a := v2) (b := v2w6) (by omega) (by omega)).mp c_14
        rw [hQ]
        exact W.vret hx hb hr (fun t ht hW9 => ⟨⟨M_11, rfl, ⟨hW, hF, hG, ⟨_, (fun i hi => hx_9 i (by omega)), hV⟩, trivial⟩, ⟨by rw [ht]; exact hP, hD⟩⟩, hS.F ht⟩) hS.2.2 dX13_ends_218
      · have hz := rfl (a := 0)
        have n_16 : ¬ (v2 ≤ v2w6) := fun q => c_14 ((iLE (a := v2) (b := v2w6) (by omega) (by omega)).mpr q)
        refine lv_aload_n hx hb dX13_ends_10 rfl (lv_at hl 1 rfl) ?_
        obtain ⟨v17, hv17, hc17⟩ : ∃ v : Nat, fs1[22]? = some (.ref v : Value) ∧ isk K L v 41 24 := hl1 22 (by decide)
        refine pg_getN (D := D) (ci := 12) (v := .ref v17) (C := RX12) (T := TX12) (N := 51) hx hb hg inG12 hown hK hP ik1.1 hM_13 rfl 22 (by decide) (hN.use (Cond.fieldLinkNest RX13 95 RX12 "ended" "[I" RX13) 31 rfl rfl) (fun _ h9 => h9) hv17 dX13_ends_11 ?_
        refine lv_iload_n hx hb dX13_ends_14 rfl (lv_at hl 0 rfl) ?_
        obtain ⟨f18, hM18⟩ := hW.open_41 hc17
        refine pg_iald hx hb hK hP hc17.1 0 hM18 rfl (inbN v2w6 24 (by omega) (by omega)) dX13_ends_15 ?_
        refine lv_topi (fun f_19 ef_19 => ?_)
        have hy22 : (ax M k1 22) = f18 := (congrFun hV.2.2.1 22).symm.trans (ax_of hM_13 (by decide) hv17 hM18)
        have hr22e : (ax M k1 22) v2w6 = f_19 := by
          have h9 := ef_19.symm
          rw [nI_cl (by omega)] at h9
          rw [hy22]; exact h9
        have hr22 : ((ax M k1 22) v2w6).toInt = (f_19 : Int32).toInt := congrArg Int32.toInt hr22e
        refine lv_iconst (v := (-1)) hx hb dX13_ends_16 (by decide) ?_
        refine lv_icmp_eq (tgt := 212) hx hb dX13_ends_17 (by decide) (fun c_20 => ?_) (fun c_20 => ?_)
        · have hz := rfl (a := 0)
          have hI_21 : ((v2w6 : Nat) : Int) < ((v2 : Nat) : Int) := inleI (nI_toInt (by omega)) (nI_toInt (by omega)) c_14
          have hI_22 : (f_19 : Int32).toInt = (-1) := ieqI rfl rfl c_20
          have hins9 : insE (ax M k1) ((k2 : Nat) : Int) v2w6 = ax M k1 23 v2w6 := by unfold insE; by_cases z9 : (ax M k1 22 v2w6).toInt ≠ -1 ∧ (ax M k1 22 v2w6).toInt ≤ ((k2 : Nat) : Int) + 1; all_goals first | (rw [if_neg z9]; done) | (rw [if_pos z9, insC_n]; omega)
          refine lv_iinc (v := (nI (v2w6 + 1))) (lv' := [(2, .int (nI (v2w6 + 1))), (0, .ref k1), (1, .int (nI k2))]) hx hb dX13_ends_212 hl (k := 0) rfl (nI_1 v2w6) (by decide) rfl (fun ls hl => ?_)
          refine lv_goto (tgt := 2) hx hb dX13_ends_215 (by decide) ?_
          exact ih_4 (v2w6 + 1) gw6 M_11 H_12 _ _ (by omega) hM_13 (by omega) (by omega) (insK hx_9 hx_10 hins9) (fun i hi => hx_10 i (by omega)) hW hF hG hV hP hD hS (lv_sub hl [0, 1, 2] rfl)
        · have hz := rfl (a := 0)
          refine lv_aload_n hx hb dX13_ends_20 rfl (lv_at hl 1 rfl) ?_
          refine pg_getN (D := D) (ci := 12) (v := .ref v17) (C := RX12) (T := TX12) (N := 51) hx hb hg inG12 hown hK hP ik1.1 hM_13 rfl 22 (by decide) (hN.use (Cond.fieldLinkNest RX13 95 RX12 "ended" "[I" RX13) 31 rfl rfl) (fun _ h9 => h9) hv17 dX13_ends_21 ?_
          refine lv_iload_n hx hb dX13_ends_24 rfl (lv_at hl 0 rfl) ?_
          refine pg_iald hx hb hK hP hc17.1 0 hM18 rfl (inbN v2w6 24 (by omega) (by omega)) dX13_ends_25 ?_
          refine lv_topi (fun f_23 ef_23 => ?_)
          have hy22 : (ax M k1 22) = f18 := (congrFun hV.2.2.1 22).symm.trans (ax_of hM_13 (by decide) hv17 hM18)
          have hr22e : (ax M k1 22) v2w6 = f_23 := by
            have h9 := ef_23.symm
            rw [nI_cl (by omega)] at h9
            rw [hy22]; exact h9
          have hr22 : ((ax M k1 22) v2w6).toInt = (f_23 : Int32).toInt := congrArg Int32.toInt hr22e
          refine lv_iload_n hx hb dX13_ends_26 rfl (lv_at hl 2 rfl) ?_
          refine lv_iconst (v := 1) hx hb dX13_ends_27 (by decide) ?_
          refine lv_iadd hx hb dX13_ends_28 ?_
          refine lv_topi (fun f_24 ef_24 => ?_)
          obtain rfl : f_24 = (nI (k2 + 1)) := ef_24.trans (nI_add k2 1)
          refine lv_icmp_le (tgt := 35) hx hb dX13_ends_29 (by decide) (fun c_25 => ?_) (fun c_25 => ?_)
          · have hz := rfl (a := 0)
            refine lv_aload_n hx hb dX13_ends_35 rfl (lv_at hl 1 rfl) ?_
            obtain ⟨v26, hv26, hc26⟩ : ∃ v : Nat, fs1[25]? = some (.ref v : Value) ∧ isk K L v 34 24 := hl1 25 (by decide)
            refine pg_getN (D := D) (ci := 12) (v := .ref v26) (C := RX12) (T := TX12) (N := 51) hx hb hg inG12 hown hK hP ik1.1 hM_13 rfl 25 (by decide) (hN.use (Cond.fieldLinkNest RX13 121 RX12 "heir" "[I" RX13) 34 rfl rfl) (fun _ h9 => h9) hv26 dX13_ends_36 ?_
            refine lv_iload_n hx hb dX13_ends_39 rfl (lv_at hl 0 rfl) ?_
            obtain ⟨f27, hM27, hf27⟩ := hW.open_34 hc26
            have hi_28 : vp_in (nI v2w6) 24 := (inbN v2w6 24 (by omega) (by omega))
            refine pg_iald hx hb hK hP hc26.1 0 hM27 rfl hi_28 dX13_ends_40 ?_
            have hp_29 := hf27 _ (vp_lt hi_28)
            rcases hp_29 with ec_32 | ⟨c_30, hc_31, ec_32⟩
            · rw [ec_32]
              have hy25 : (ax M k1 25) = f27 := (congrFun hV.2.2.1 25).symm.trans (ax_of hM_13 (by decide) hv26 hM27)
              have hr25e : (ax M k1 25) v2w6 = (-1) := by
                have h9 := ec_32
                rw [nI_cl (by omega)] at h9
                rw [hy25]; exact h9
              have hr25 : ((ax M k1 25) v2w6).toInt = (-1) := by rw [hr25e]; rfl
              refine lv_iconst (v := (-1)) hx hb dX13_ends_41 (by decide) ?_
              refine lv_icmp_eq (tgt := 102) hx hb dX13_ends_42 (by decide) (fun _ => ?_) (fun c_33 => absurd c_33 (by decide))
              refine lv_aload_n hx hb dX13_ends_102 rfl (lv_at hl 1 rfl) ?_
              obtain ⟨v34, hv34, hc34⟩ : ∃ v : Nat, fs1[27]? = some (.ref v : Value) ∧ isk K L v 87 24 := hl1 27 (by decide)
              refine pg_getN (D := D) (ci := 12) (v := .ref v34) (C := RX12) (T := TX12) (N := 51) hx hb hg inG12 hown hK hP ik1.1 hM_13 rfl 27 (by decide) (hN.use (Cond.fieldLinkNest RX13 307 RX12 "credit" "[J" RX13) 36 rfl rfl) (fun _ h9 => h9) hv34 dX13_ends_103 ?_
              refine lv_iload_n hx hb dX13_ends_106 rfl (lv_at hl 0 rfl) ?_
              obtain ⟨f35, hM35⟩ := hW.open_87 hc34
              refine pg_lald hx hb hK hP hc34.1 1 hM35 rfl (inbN v2w6 24 (by omega) (by omega)) dX13_ends_107 ?_
              refine lv_topl (fun f_36 ef_36 => ?_)
              refine lv_lconst (v := 0) hx hb dX13_ends_108 (by decide) ?_
              refine W.lcmp hx hb dX13_ends_109 ?_
              refine lv_if_le (tgt := 135) hx hb dX13_ends_110 (by decide) (fun c_37 => ?_) (fun c_37 => ?_)
              · have hz := rfl (a := 0)
                have d_38 : f_36 ≤ 0 := lc_let c_37
                refine lv_aload_n hx hb dX13_ends_135 rfl (lv_at hl 1 rfl) ?_
                obtain ⟨v39, hv39, hc39⟩ : ∃ v : Nat, fs1[31]? = some (.ref v : Value) ∧ isk K L v 90 24 := hl1 31 (by decide)
                refine pg_getN (D := D) (ci := 12) (v := .ref v39) (C := RX12) (T := TX12) (N := 51) hx hb hg inG12 hown hK hP ik1.1 hM_13 rfl 31 (by decide) (hN.use (Cond.fieldLinkNest RX13 373 RX12 "payable" "[J" RX13) 40 rfl rfl) (fun _ h9 => h9) hv39 dX13_ends_136 ?_
                refine lv_iload_n hx hb dX13_ends_139 rfl (lv_at hl 0 rfl) ?_
                refine lv_dup2_11 hx hb dX13_ends_140 rfl rfl ?_
                obtain ⟨f40, hM40⟩ := hW.open_90 hc39
                refine pg_lald hx hb hK hP hc39.1 1 hM40 rfl (inbN v2w6 24 (by omega) (by omega)) dX13_ends_141 ?_
                refine lv_topl (fun f_41 ef_41 => ?_)
                refine lv_aload_n hx hb dX13_ends_142 rfl (lv_at hl 1 rfl) ?_
                obtain ⟨v42, hv42, hc42⟩ : ∃ v : Nat, fs1[28]? = some (.ref v : Value) ∧ isk K L v 88 24 := hl1 28 (by decide)
                refine pg_getN (D := D) (ci := 12) (v := .ref v42) (C := RX12) (T := TX12) (N := 51) hx hb hg inG12 hown hK hP ik1.1 hM_13 rfl 28 (by decide) (hN.use (Cond.fieldLinkNest RX13 370 RX12 "hidden" "[J" RX13) 37 rfl rfl) (fun _ h9 => h9) hv42 dX13_ends_143 ?_
                refine lv_iload_n hx hb dX13_ends_146 rfl (lv_at hl 0 rfl) ?_
                obtain ⟨f43, hM43⟩ := hW.open_88 hc42
                refine pg_lald hx hb hK hP hc42.1 1 hM43 rfl (inbN v2w6 24 (by omega) (by omega)) dX13_ends_147 ?_
                refine lv_topl (fun f_44 ef_44 => ?_)
                refine lv_ladd hx hb dX13_ends_148 ?_
                refine lv_topl (fun f_45 ef_45 => ?_)
                refine pg_last hx hb hK hP hD hS hc39.1 1 hM40 rfl (inbN v2w6 24 (by omega) (by omega)) dX13_ends_149 (fun H_46 locs hP hD hS => ?_)
                obtain ⟨M_47, eM_47⟩ : ∃ M1 : Hp, M1 = va_up M_11 v39 (.inl (cy 15, 24, .inr (.inl (vp_updL f40 ((nI v2w6) : Int32).toNatClampNeg f_45)))) := ⟨_, rfl⟩
                have hV : VW K L M M_47 k1 (fx M k1) (va_up (ax M k1) 23 gw6) := by rw [eM_47]; exact hV.oth hW ik1 hc39 (by decide)
                have hP : va_P D vwCl ([] ++ va_pl L M_47) H_46 := by rw [eM_47]; exact hP
                have hD : va_D A ([] ++ va_pl L M_47) := by rw [eM_47]; exact hD
                have hW : WOM cy K L M_47 := by rw [eM_47]; exact hW.up_90 hc39 ⟨_, rfl⟩
                have hF : fr K L [15, 42, 87, 88, 90, 91] M M_47 := by rw [eM_47]; exact hF.up hc39 (by decide)
                have hG : fG K L [] M M_47 := by rw [eM_47]; exact hG.arr hc39 (by decide)
                have hM_48 : M_47 v39 = .inl (cy 15, 24, .inr (.inl (vp_updL f40 ((nI v2w6) : Int32).toNatClampNeg f_45))) := by rw [eM_47]; exact va_up_self _ _ _
                have hM_49 : M_47 k1 = .inr (12, fs1) := by rw [eM_47, va_up_ne _ _ (ik1.neT hc39 (by decide))]; exact hM_13
                have hM_50 : M_47 v17 = .inl (cy 14, 24, .inl (f18)) := by rw [eM_47, va_up_ne _ _ (hc17.neT hc39 (by decide))]; exact hM18
                have hM_51 : M_47 v26 = .inl (cy 14, 24, .inl (f27)) := by rw [eM_47, va_up_ne _ _ (hc26.neT hc39 (by decide))]; exact hM27
                have hM_52 : M_47 v34 = .inl (cy 15, 24, .inr (.inl (f35))) := by rw [eM_47, va_up_ne _ _ (hc34.neT hc39 (by decide))]; exact hM35
                have hM_53 : M_47 v42 = .inl (cy 15, 24, .inr (.inl (f43))) := by rw [eM_47, va_up_ne _ _ (hc42.neT hc39 (by decide))]; exact hM43
                obtain ⟨f_54, ef_54⟩ : ∃ f : Nat → Int64, f = vp_updL f40 ((nI v2w6) : Int32).toNatClampNeg f_45 := ⟨_, rfl⟩
                rw [← ef_54] at hM_48
                refine lv_aload_n hx hb dX13_ends_150 rfl (lv_at hl 1 rfl) ?_
                refine pg_getN (D := D) (ci := 12) (v := .ref v42) (C := RX12) (T := TX12) (N := 51) hx hb hg inG12 hown hK hP ik1.1 hM_49 rfl 28 (by decide) (hN.use (Cond.fieldLinkNest RX13 370 RX12 "hidden" "[J" RX13) 37 rfl rfl) (fun _ h9 => h9) hv42 dX13_ends_151 ?_
                refine lv_iload_n hx hb dX13_ends_154 rfl (lv_at hl 0 rfl) ?_
                refine lv_lconst (v := 0) hx hb dX13_ends_155 (by decide) ?_
                refine pg_last hx hb hK hP hD hS hc42.1 1 hM_53 rfl (inbN v2w6 24 (by omega) (by omega)) dX13_ends_156 (fun H_55 locs hP hD hS => ?_)
                obtain ⟨M_56, eM_56⟩ : ∃ M1 : Hp, M1 = va_up M_47 v42 (.inl (cy 15, 24, .inr (.inl (vp_updL f43 ((nI v2w6) : Int32).toNatClampNeg 0)))) := ⟨_, rfl⟩
                have hV : VW K L M M_56 k1 (fx M k1) (va_up (ax M k1) 23 gw6) := by rw [eM_56]; exact hV.oth hW ik1 hc42 (by decide)
                have hP : va_P D vwCl ([] ++ va_pl L M_56) H_55 := by rw [eM_56]; exact hP
                have hD : va_D A ([] ++ va_pl L M_56) := by rw [eM_56]; exact hD
                have hW : WOM cy K L M_56 := by rw [eM_56]; exact hW.up_88 hc42 ⟨_, rfl⟩
                have hF : fr K L [15, 42, 87, 88, 90, 91] M M_56 := by rw [eM_56]; exact hF.up hc42 (by decide)
                have hG : fG K L [] M M_56 := by rw [eM_56]; exact hG.arr hc42 (by decide)
                have hM_57 : M_56 v42 = .inl (cy 15, 24, .inr (.inl (vp_updL f43 ((nI v2w6) : Int32).toNatClampNeg 0))) := by rw [eM_56]; exact va_up_self _ _ _
                have hM_58 : M_56 v39 = .inl (cy 15, 24, .inr (.inl (f_54))) := by rw [eM_56, va_up_ne _ _ (hc39.neT hc42 (by decide))]; exact hM_48
                have hM_59 : M_56 k1 = .inr (12, fs1) := by rw [eM_56, va_up_ne _ _ (ik1.neT hc42 (by decide))]; exact hM_49
                have hM_60 : M_56 v17 = .inl (cy 14, 24, .inl (f18)) := by rw [eM_56, va_up_ne _ _ (hc17.neT hc42 (by decide))]; exact hM_50
                have hM_61 : M_56 v26 = .inl (cy 14, 24, .inl (f27)) := by rw [eM_56, va_up_ne _ _ (hc26.neT hc42 (by decide))]; exact hM_51
                have hM_62 : M_56 v34 = .inl (cy 15, 24, .inr (.inl (f35))) := by rw [eM_56, va_up_ne _ _ (hc34.neT hc42 (by decide))]; exact hM_52
                obtain ⟨f_63, ef_63⟩ : ∃ f : Nat → Int64, f = vp_updL f43 ((nI v2w6) : Int32).toNatClampNeg 0 := ⟨_, rfl⟩
                rw [← ef_63] at hM_57
                refine lv_aload_n hx hb dX13_ends_157 rfl (lv_at hl 1 rfl) ?_
                refine pg_getN (D := D) (ci := 12) (v := .ref v39) (C := RX12) (T := TX12) (N := 51) hx hb hg inG12 hown hK hP ik1.1 hM_59 rfl 31 (by decide) (hN.use (Cond.fieldLinkNest RX13 373 RX12 "payable" "[J" RX13) 40 rfl rfl) (fun _ h9 => h9) hv39 dX13_ends_158 ?_
                refine lv_iload_n hx hb dX13_ends_161 rfl (lv_at hl 0 rfl) ?_
                refine pg_lald hx hb hK hP hc39.1 1 hM_58 rfl (inbN v2w6 24 (by omega) (by omega)) dX13_ends_162 ?_
                refine lv_topl (fun f_64 ef_64 => ?_)
                refine lv_aload_n hx hb dX13_ends_163 rfl (lv_at hl 1 rfl) ?_
                obtain ⟨v65, hv65, hc65⟩ : ∃ v : Nat, fs1[23]? = some (.ref v : Value) ∧ isk K L v 42 24 := hl1 23 (by decide)
                refine pg_getN (D := D) (ci := 12) (v := .ref v65) (C := RX12) (T := TX12) (N := 51) hx hb hg inG12 hown hK hP ik1.1 hM_59 rfl 23 (by decide) (hN.use (Cond.fieldLinkNest RX13 115 RX12 "instalments" "[I" RX13) 32 rfl rfl) (fun _ h9 => h9) hv65 dX13_ends_164 ?_
                refine lv_iload_n hx hb dX13_ends_167 rfl (lv_at hl 0 rfl) ?_
                obtain ⟨f66, hM66⟩ := hW.open_42 hc65
                refine pg_iald hx hb hK hP hc65.1 0 hM66 rfl (inbN v2w6 24 (by omega) (by omega)) dX13_ends_168 ?_
                refine lv_topi (fun f_67 ef_67 => ?_)
                have hx10 : (fx M k1 10) = ((v2 : Nat) : Int) := (congrFun hV.2.1 10).symm.trans ((fx_of hM_59 rfl hv2).trans (nI_toInt (by omega)))
                have hy22 : (ax M k1 22) = f18 := (congrFun hV.2.2.1 22).symm.trans (ax_of hM_59 (by decide) hv17 hM_60)
                have hy23 : gw6 = f66 := (congrFun hV.2.2.1 23).symm.trans (ax_of hM_59 (by decide) hv65 hM66)
                have hins : ¬ f_67 ≤ 0 := by
                  apply nle0
                  rcases hC v2w6 (by omega) (by omega) with q | q
                  · exact absurd (show f_19 = -1 by rw [ef_19, nI_cl (by omega), ← hy22]; exact q) c_20
                  · rw [ef_67, nI_cl (by omega), ← hy23, hx_10 v2w6 (Nat.le_refl _)]
                    exact q
                refine lv_i2l hx hb dX13_ends_169 rfl ?_
                refine lv_topl (fun f_68 ef_68 => ?_)
                refine lv_ldiv hx hb dX13_ends_170 (i2l_nz ef_68 hins) ?_
                refine lv_topl (fun f_69 ef_69 => ?_)
                refine lv_lstore_n (lv' := [(3, .long f_69), (2, .int (nI v2w6)), (0, .ref k1), (1, .int (nI k2))]) hx hb dX13_ends_171 rfl hl (by decide) rfl (fun ls hl => ?_)
                refine lv_aload_n hx hb dX13_ends_172 rfl (lv_at hl 2 rfl) ?_
                obtain ⟨v70, hv70, hc70⟩ : ∃ v : Nat, fs1[32]? = some (.ref v : Value) ∧ isk K L v 91 24 := hl1 32 (by decide)
                refine pg_getN (D := D) (ci := 12) (v := .ref v70) (C := RX12) (T := TX12) (N := 51) hx hb hg inG12 hown hK hP ik1.1 hM_59 rfl 32 (by decide) (hN.use (Cond.fieldLinkNest RX13 376 RX12 "paid" "[J" RX13) 41 rfl rfl) (fun _ h9 => h9) hv70 dX13_ends_173 ?_
                refine lv_iload_n hx hb dX13_ends_176 rfl (lv_at hl 1 rfl) ?_
                refine lv_dup2_11 hx hb dX13_ends_177 rfl rfl ?_
                obtain ⟨f71, hM71⟩ := hW.open_91 hc70
                refine pg_lald hx hb hK hP hc70.1 1 hM71 rfl (inbN v2w6 24 (by omega) (by omega)) dX13_ends_178 ?_
                refine lv_topl (fun f_72 ef_72 => ?_)
                refine lv_lload_n hx hb dX13_ends_179 rfl (lv_at hl 0 rfl) ?_
                refine lv_ladd hx hb dX13_ends_180 ?_
                refine lv_topl (fun f_73 ef_73 => ?_)
                refine pg_last hx hb hK hP hD hS hc70.1 1 hM71 rfl (inbN v2w6 24 (by omega) (by omega)) dX13_ends_181 (fun H_74 locs hP hD hS => ?_)
                obtain ⟨M_75, eM_75⟩ : ∃ M1 : Hp, M1 = va_up M_56 v70 (.inl (cy 15, 24, .inr (.inl (vp_updL f71 ((nI v2w6) : Int32).toNatClampNeg f_73)))) := ⟨_, rfl⟩
                have hV : VW K L M M_75 k1 (fx M k1) (va_up (ax M k1) 23 gw6) := by rw [eM_75]; exact hV.oth hW ik1 hc70 (by decide)
                have hP : va_P D vwCl ([] ++ va_pl L M_75) H_74 := by rw [eM_75]; exact hP
                have hD : va_D A ([] ++ va_pl L M_75) := by rw [eM_75]; exact hD
                have hW : WOM cy K L M_75 := by rw [eM_75]; exact hW.up_91 hc70 ⟨_, rfl⟩
                have hF : fr K L [15, 42, 87, 88, 90, 91] M M_75 := by rw [eM_75]; exact hF.up hc70 (by decide)
                have hG : fG K L [] M M_75 := by rw [eM_75]; exact hG.arr hc70 (by decide)
                have hM_76 : M_75 v70 = .inl (cy 15, 24, .inr (.inl (vp_updL f71 ((nI v2w6) : Int32).toNatClampNeg f_73))) := by rw [eM_75]; exact va_up_self _ _ _
                have hM_77 : M_75 v42 = .inl (cy 15, 24, .inr (.inl (f_63))) := by rw [eM_75, va_up_ne _ _ (hc42.neT hc70 (by decide))]; exact hM_57
                have hM_78 : M_75 v39 = .inl (cy 15, 24, .inr (.inl (f_54))) := by rw [eM_75, va_up_ne _ _ (hc39.neT hc70 (by decide))]; exact hM_58
                have hM_79 : M_75 k1 = .inr (12, fs1) := by rw [eM_75, va_up_ne _ _ (ik1.neT hc70 (by decide))]; exact hM_59
                have hM_80 : M_75 v17 = .inl (cy 14, 24, .inl (f18)) := by rw [eM_75, va_up_ne _ _ (hc17.neT hc70 (by decide))]; exact hM_60
                have hM_81 : M_75 v26 = .inl (cy 14, 24, .inl (f27)) := by rw [eM_75, va_up_ne _ _ (hc26.neT hc70 (by decide))]; exact hM_61
                have hM_82 : M_75 v34 = .inl (cy 15, 24, .inr (.inl (f35))) := by rw [eM_75, va_up_ne _ _ (hc34.neT hc70 (by decide))]; exact hM_62
                have hM_83 : M_75 v65 = .inl (cy 14, 24, .inl (f66)) := by rw [eM_75, va_up_ne _ _ (hc65.neT hc70 (by decide))]; exact hM66
                obtain ⟨f_84, ef_84⟩ : ∃ f : Nat → Int64, f = vp_updL f71 ((nI v2w6) : Int32).toNatClampNeg f_73 := ⟨_, rfl⟩
                rw [← ef_84] at hM_76
                refine lv_aload_n hx hb dX13_ends_182 rfl (lv_at hl 2 rfl) ?_
                refine pg_getN (D := D) (ci := 12) (v := .ref v39) (C := RX12) (T := TX12) (N := 51) hx hb hg inG12 hown hK hP ik1.1 hM_79 rfl 31 (by decide) (hN.use (Cond.fieldLinkNest RX13 373 RX12 "payable" "[J" RX13) 40 rfl rfl) (fun _ h9 => h9) hv39 dX13_ends_183 ?_
                refine lv_iload_n hx hb dX13_ends_186 rfl (lv_at hl 1 rfl) ?_
                refine lv_dup2_11 hx hb dX13_ends_187 rfl rfl ?_
                refine pg_lald hx hb hK hP hc39.1 1 hM_78 rfl (inbN v2w6 24 (by omega) (by omega)) dX13_ends_188 ?_
                refine lv_topl (fun f_85 ef_85 => ?_)
                refine lv_lload_n hx hb dX13_ends_189 rfl (lv_at hl 0 rfl) ?_
                refine lv_lsub hx hb dX13_ends_190 ?_
                refine lv_topl (fun f_86 ef_86 => ?_)
                refine pg_last hx hb hK hP hD hS hc39.1 1 hM_78 rfl (inbN v2w6 24 (by omega) (by omega)) dX13_ends_191 (fun H_87 locs hP hD hS => ?_)
                obtain ⟨M_88, eM_88⟩ : ∃ M1 : Hp, M1 = va_up M_75 v39 (.inl (cy 15, 24, .inr (.inl (vp_updL f_54 ((nI v2w6) : Int32).toNatClampNeg f_86)))) := ⟨_, rfl⟩
                have hV : VW K L M M_88 k1 (fx M k1) (va_up (ax M k1) 23 gw6) := by rw [eM_88]; exact hV.oth hW ik1 hc39 (by decide)
                have hP : va_P D vwCl ([] ++ va_pl L M_88) H_87 := by rw [eM_88]; exact hP
                have hD : va_D A ([] ++ va_pl L M_88) := by rw [eM_88]; exact hD
                have hW : WOM cy K L M_88 := by rw [eM_88]; exact hW.up_90 hc39 ⟨_, rfl⟩
                have hF : fr K L [15, 42, 87, 88, 90, 91] M M_88 := by rw [eM_88]; exact hF.up hc39 (by decide)
                have hG : fG K L [] M M_88 := by rw [eM_88]; exact hG.arr hc39 (by decide)
                have hM_89 : M_88 v39 = .inl (cy 15, 24, .inr (.inl (vp_updL f_54 ((nI v2w6) : Int32).toNatClampNeg f_86))) := by rw [eM_88]; exact va_up_self _ _ _
                have hM_90 : M_88 v70 = .inl (cy 15, 24, .inr (.inl (f_84))) := by rw [eM_88, va_up_ne _ _ (hc70.neT hc39 (by decide))]; exact hM_76
                have hM_91 : M_88 v42 = .inl (cy 15, 24, .inr (.inl (f_63))) := by rw [eM_88, va_up_ne _ _ (hc42.neT hc39 (by decide))]; exact hM_77
                have hM_92 : M_88 k1 = .inr (12, fs1) := by rw [eM_88, va_up_ne _ _ (ik1.neT hc39 (by decide))]; exact hM_79
                have hM_93 : M_88 v17 = .inl (cy 14, 24, .inl (f18)) := by rw [eM_88, va_up_ne _ _ (hc17.neT hc39 (by decide))]; exact hM_80
                have hM_94 : M_88 v26 = .inl (cy 14, 24, .inl (f27)) := by rw [eM_88, va_up_ne _ _ (hc26.neT hc39 (by decide))]; exact hM_81
                have hM_95 : M_88 v34 = .inl (cy 15, 24, .inr (.inl (f35))) := by rw [eM_88, va_up_ne _ _ (hc34.neT hc39 (by decide))]; exact hM_82
                have hM_96 : M_88 v65 = .inl (cy 14, 24, .inl (f66)) := by rw [eM_88, va_up_ne _ _ (hc65.neT hc39 (by decide))]; exact hM_83
                obtain ⟨f_97, ef_97⟩ : ∃ f : Nat → Int64, f = vp_updL f_54 ((nI v2w6) : Int32).toNatClampNeg f_86 := ⟨_, rfl⟩
                rw [← ef_97] at hM_89
                refine lv_aload_n hx hb dX13_ends_192 rfl (lv_at hl 2 rfl) ?_
                refine pg_getN (D := D) (ci := 12) (v := .ref v65) (C := RX12) (T := TX12) (N := 51) hx hb hg inG12 hown hK hP ik1.1 hM_92 rfl 23 (by decide) (hN.use (Cond.fieldLinkNest RX13 115 RX12 "instalments" "[I" RX13) 32 rfl rfl) (fun _ h9 => h9) hv65 dX13_ends_193 ?_
                refine lv_iload_n hx hb dX13_ends_196 rfl (lv_at hl 1 rfl) ?_
                refine pg_iald hx hb hK hP hc65.1 0 hM_96 rfl (inbN v2w6 24 (by omega) (by omega)) dX13_ends_197 ?_
                refine lv_topi (fun f_98 ef_98 => ?_)
                have hy23 : gw6 = f66 := (congrFun hV.2.2.1 23).symm.trans (ax_of hM_92 (by decide) hv65 hM_96)
                have hq23e : gw6 v2w6 = f_98 := by
                  have h9 := ef_98.symm
                  rw [nI_cl (by omega)] at h9
                  rw [hy23]; exact h9
                have hq23 : (gw6 v2w6).toInt = (f_98 : Int32).toInt := congrArg Int32.toInt hq23e
                have hq23y : gw6 v2w6 = ax M k1 23 v2w6 := hx_10 v2w6 (Nat.le_refl _)
                have hq23i := congrArg Int32.toInt hq23y
                refine lv_iconst (v := 1) hx hb dX13_ends_198 (by decide) ?_
                refine lv_icmp_le (tgt := 212) hx hb dX13_ends_199 (by decide) (fun c_99 => ?_) (fun c_99 => ?_)
                · have hz := rfl (a := 0)
                  have hI_100 : ((v2w6 : Nat) : Int) < ((v2 : Nat) : Int) := inleI (nI_toInt (by omega)) (nI_toInt (by omega)) c_14
                  have hI_101 : (f_19 : Int32).toInt ≠ (-1) := ineI rfl rfl c_20
                  have hI_102 : (f_23 : Int32).toInt ≤ (((k2 + 1) : Nat) : Int) := ileI rfl (nI_toInt (by omega)) c_25
                  have hI_103 : (0 : Int) < (f_67 : Int32).toInt := inleI rfl rfl hins
                  have hI_104 : (f_98 : Int32).toInt ≤ (1 : Int) := ileI rfl rfl c_99
                  have hins9 : insE (ax M k1) ((k2 : Nat) : Int) v2w6 = ax M k1 23 v2w6 := by unfold insE; by_cases z9 : (ax M k1 22 v2w6).toInt ≠ -1 ∧ (ax M k1 22 v2w6).toInt ≤ ((k2 : Nat) : Int) + 1; all_goals first | (rw [if_neg z9]; done) | (rw [if_pos z9, insC_n]; omega)
                  refine lv_iinc (v := (nI (v2w6 + 1))) (lv' := [(2, .int (nI (v2w6 + 1))), (3, .long f_69), (0, .ref k1), (1, .int (nI k2))]) hx hb dX13_ends_212 hl (k := 1) rfl (nI_1 v2w6) (by decide) rfl (fun ls hl => ?_)
                  refine lv_goto (tgt := 2) hx hb dX13_ends_215 (by decide) ?_
                  exact ih_4 (v2w6 + 1) gw6 M_88 H_87 _ _ (by omega) hM_92 (by omega) (by omega) (insK hx_9 hx_10 hins9) (fun i hi => hx_10 i (by omega)) hW hF hG hV hP hD hS (lv_sub hl [0, 2, 3] rfl)
                · have hz := rfl (a := 0)
                  refine lv_aload_n hx hb dX13_ends_202 rfl (lv_at hl 2 rfl) ?_
                  refine pg_getN (D := D) (ci := 12) (v := .ref v65) (C := RX12) (T := TX12) (N := 51) hx hb hg inG12 hown hK hP ik1.1 hM_92 rfl 23 (by decide) (hN.use (Cond.fieldLinkNest RX13 115 RX12 "instalments" "[I" RX13) 32 rfl rfl) (fun _ h9 => h9) hv65 dX13_ends_203 ?_
                  refine lv_iload_n hx hb dX13_ends_206 rfl (lv_at hl 1 rfl) ?_
                  refine lv_dup2_11 hx hb dX13_ends_207 rfl rfl ?_
                  refine pg_iald hx hb hK hP hc65.1 0 hM_96 rfl (inbN v2w6 24 (by omega) (by omega)) dX13_ends_208 ?_
                  refine lv_topi (fun f_105 ef_105 => ?_)
                  refine lv_iconst (v := 1) hx hb dX13_ends_209 (by decide) ?_
                  refine lv_isub hx hb dX13_ends_210 ?_
                  refine lv_topi (fun f_106 ef_106 => ?_)
                  have hy23 : gw6 = f66 := (congrFun hV.2.2.1 23).symm.trans (ax_of hM_92 (by decide) hv65 hM_96)
                  have hdec : f_106 = ax M k1 23 v2w6 - 1 := by rw [ef_106, ef_105, nI_cl (by omega), ← hy23, hx_10 v2w6 (Nat.le_refl _)]
                  refine pg_iast hx hb hK hP hD hS hc65.1 0 hM_96 rfl (inbN v2w6 24 (by omega) (by omega)) dX13_ends_211 (fun H_107 locs hP hD hS => ?_)
                  obtain ⟨M_108, eM_108⟩ : ∃ M1 : Hp, M1 = va_up M_88 v65 (.inl (cy 14, 24, .inl (upd f66 ((nI v2w6) : Int32).toNatClampNeg f_106))) := ⟨_, rfl⟩
                  have hy23 : gw6 = f66 := (congrFun hV.2.2.1 23).symm.trans (ax_of hM_92 (by decide) hv65 hM_96)
                  have hV : VW K L M M_108 k1 (fx M k1) (va_up (va_up (ax M k1) 23 gw6) 23 (upd gw6 ((nI v2w6) : Int32).toNatClampNeg f_106)) := by rw [eM_108]; exact hV.ast (j := 23) hW ik1 hM_92 (by decide) hv65 hc65 hM_96
                  have hP : va_P D vwCl ([] ++ va_pl L M_108) H_107 := by rw [eM_108]; exact hP
                  have hD : va_D A ([] ++ va_pl L M_108) := by rw [eM_108]; exact hD
                  have hW : WOM cy K L M_108 := by rw [eM_108]; exact hW.up_42 hc65 ⟨_, rfl⟩
                  have hF : fr K L [15, 42, 87, 88, 90, 91] M M_108 := by rw [eM_108]; exact hF.up hc65 (by decide)
                  have hG : fG K L [] M M_108 := by rw [eM_108]; exact hG.arr hc65 (by decide)
                  have hM_109 : M_108 v65 = .inl (cy 14, 24, .inl (upd f66 ((nI v2w6) : Int32).toNatClampNeg f_106)) := by rw [eM_108]; exact va_up_self _ _ _
                  have hM_110 : M_108 v39 = .inl (cy 15, 24, .inr (.inl (f_97))) := by rw [eM_108, va_up_ne _ _ (hc39.neT hc65 (by decide))]; exact hM_89
                  have hM_111 : M_108 v70 = .inl (cy 15, 24, .inr (.inl (f_84))) := by rw [eM_108, va_up_ne _ _ (hc70.neT hc65 (by decide))]; exact hM_90
                  have hM_112 : M_108 v42 = .inl (cy 15, 24, .inr (.inl (f_63))) := by rw [eM_108, va_up_ne _ _ (hc42.neT hc65 (by decide))]; exact hM_91
                  have hM_113 : M_108 k1 = .inr (12, fs1) := by rw [eM_108, va_up_ne _ _ (ik1.neT hc65 (by decide))]; exact hM_92
                  have hM_114 : M_108 v17 = .inl (cy 14, 24, .inl (f18)) := by rw [eM_108, va_up_ne _ _ (hc17.neT hc65 (by decide))]; exact hM_93
                  have hM_115 : M_108 v26 = .inl (cy 14, 24, .inl (f27)) := by rw [eM_108, va_up_ne _ _ (hc26.neT hc65 (by decide))]; exact hM_94
                  have hM_116 : M_108 v34 = .inl (cy 15, 24, .inr (.inl (f35))) := by rw [eM_108, va_up_ne _ _ (hc34.neT hc65 (by decide))]; exact hM_95
                  obtain ⟨f_117, ef_117⟩ : ∃ f : Nat → Int32, f = upd f66 ((nI v2w6) : Int32).toNatClampNeg f_106 := ⟨_, rfl⟩
                  rw [← ef_117] at hM_109
                  have hI_118 : ((v2w6 : Nat) : Int) < ((v2 : Nat) : Int) := inleI (nI_toInt (by omega)) (nI_toInt (by omega)) c_14
                  have hI_119 : (f_19 : Int32).toInt ≠ (-1) := ineI rfl rfl c_20
                  have hI_120 : (f_23 : Int32).toInt ≤ (((k2 + 1) : Nat) : Int) := ileI rfl (nI_toInt (by omega)) c_25
                  have hI_121 : (0 : Int) < (f_67 : Int32).toInt := inleI rfl rfl hins
                  have hI_122 : (1 : Int) < (f_98 : Int32).toInt := inleI rfl rfl c_99
                  have hins9 : insE (ax M k1) ((k2 : Nat) : Int) v2w6 = ax M k1 23 v2w6 - 1 := by unfold insE; rw [if_pos ⟨by omega, by omega⟩]; unfold insC; exact if_pos ⟨by omega, by omega⟩
                  refine lv_iinc (v := (nI (v2w6 + 1))) (lv' := [(2, .int (nI (v2w6 + 1))), (3, .long f_69), (0, .ref k1), (1, .int (nI k2))]) hx hb dX13_ends_212 hl (k := 1) rfl (nI_1 v2w6) (by decide) rfl (fun ls hl => ?_)
                  refine lv_goto (tgt := 2) hx hb dX13_ends_215 (by decide) ?_
                  exact ih_4 (v2w6 + 1) (upd gw6 ((nI v2w6) : Int32).toNatClampNeg f_106) M_108 H_107 _ _ (by omega) hM_113 (by omega) (by omega) (insUn hx_9 hins9 (nI_cl (by omega)) hdec) (insWn hx_10 (nI_cl (by omega))) hW hF hG (by have h := hV; simp only [va_up_up] at h; exact h) hP hD hS (lv_sub hl [0, 2, 3] rfl)
              · have hz := rfl (a := 0)
                have d_38 : ¬ f_36 ≤ 0 := lc_lef c_37
                refine lv_aload_n hx hb dX13_ends_113 rfl (lv_at hl 1 rfl) ?_
                obtain ⟨v123, hv123, hc123⟩ : ∃ v : Nat, fs1[31]? = some (.ref v : Value) ∧ isk K L v 90 24 := hl1 31 (by decide)
                refine pg_getN (D := D) (ci := 12) (v := .ref v123) (C := RX12) (T := TX12) (N := 51) hx hb hg inG12 hown hK hP ik1.1 hM_13 rfl 31 (by decide) (hN.use (Cond.fieldLinkNest RX13 373 RX12 "payable" "[J" RX13) 40 rfl rfl) (fun _ h9 => h9) hv123 dX13_ends_114 ?_
                refine lv_iload_n hx hb dX13_ends_117 rfl (lv_at hl 0 rfl) ?_
                refine lv_dup2_11 hx hb dX13_ends_118 rfl rfl ?_
                obtain ⟨f124, hM124⟩ := hW.open_90 hc123
                refine pg_lald hx hb hK hP hc123.1 1 hM124 rfl (inbN v2w6 24 (by omega) (by omega)) dX13_ends_119 ?_
                refine lv_topl (fun f_125 ef_125 => ?_)
                refine lv_aload_n hx hb dX13_ends_120 rfl (lv_at hl 1 rfl) ?_
                refine pg_getN (D := D) (ci := 12) (v := .ref v34) (C := RX12) (T := TX12) (N := 51) hx hb hg inG12 hown hK hP ik1.1 hM_13 rfl 27 (by decide) (hN.use (Cond.fieldLinkNest RX13 307 RX12 "credit" "[J" RX13) 36 rfl rfl) (fun _ h9 => h9) hv34 dX13_ends_121 ?_
                refine lv_iload_n hx hb dX13_ends_124 rfl (lv_at hl 0 rfl) ?_
                refine pg_lald hx hb hK hP hc34.1 1 hM35 rfl (inbN v2w6 24 (by omega) (by omega)) dX13_ends_125 ?_
                refine lv_topl (fun f_126 ef_126 => ?_)
                refine lv_ladd hx hb dX13_ends_126 ?_
                refine lv_topl (fun f_127 ef_127 => ?_)
                refine pg_last hx hb hK hP hD hS hc123.1 1 hM124 rfl (inbN v2w6 24 (by omega) (by omega)) dX13_ends_127 (fun H_128 locs hP hD hS => ?_)
                obtain ⟨M_129, eM_129⟩ : ∃ M1 : Hp, M1 = va_up M_11 v123 (.inl (cy 15, 24, .inr (.inl (vp_updL f124 ((nI v2w6) : Int32).toNatClampNeg f_127)))) := ⟨_, rfl⟩
                have hV : VW K L M M_129 k1 (fx M k1) (va_up (ax M k1) 23 gw6) := by rw [eM_129]; exact hV.oth hW ik1 hc123 (by decide)
                have hP : va_P D vwCl ([] ++ va_pl L M_129) H_128 := by rw [eM_129]; exact hP
                have hD : va_D A ([] ++ va_pl L M_129) := by rw [eM_129]; exact hD
                have hW : WOM cy K L M_129 := by rw [eM_129]; exact hW.up_90 hc123 ⟨_, rfl⟩
                have hF : fr K L [15, 42, 87, 88, 90, 91] M M_129 := by rw [eM_129]; exact hF.up hc123 (by decide)
                have hG : fG K L [] M M_129 := by rw [eM_129]; exact hG.arr hc123 (by decide)
                have hM_130 : M_129 v123 = .inl (cy 15, 24, .inr (.inl (vp_updL f124 ((nI v2w6) : Int32).toNatClampNeg f_127))) := by rw [eM_129]; exact va_up_self _ _ _
                have hM_131 : M_129 k1 = .inr (12, fs1) := by rw [eM_129, va_up_ne _ _ (ik1.neT hc123 (by decide))]; exact hM_13
                have hM_132 : M_129 v17 = .inl (cy 14, 24, .inl (f18)) := by rw [eM_129, va_up_ne _ _ (hc17.neT hc123 (by decide))]; exact hM18
                have hM_133 : M_129 v26 = .inl (cy 14, 24, .inl (f27)) := by rw [eM_129, va_up_ne _ _ (hc26.neT hc123 (by decide))]; exact hM27
                have hM_134 : M_129 v34 = .inl (cy 15, 24, .inr (.inl (f35))) := by rw [eM_129, va_up_ne _ _ (hc34.neT hc123 (by decide))]; exact hM35
                obtain ⟨f_135, ef_135⟩ : ∃ f : Nat → Int64, f = vp_updL f124 ((nI v2w6) : Int32).toNatClampNeg f_127 := ⟨_, rfl⟩
                rw [← ef_135] at hM_130
                refine lv_aload_n hx hb dX13_ends_128 rfl (lv_at hl 1 rfl) ?_
                refine pg_getN (D := D) (ci := 12) (v := .ref v34) (C := RX12) (T := TX12) (N := 51) hx hb hg inG12 hown hK hP ik1.1 hM_131 rfl 27 (by decide) (hN.use (Cond.fieldLinkNest RX13 307 RX12 "credit" "[J" RX13) 36 rfl rfl) (fun _ h9 => h9) hv34 dX13_ends_129 ?_
                refine lv_iload_n hx hb dX13_ends_132 rfl (lv_at hl 0 rfl) ?_
                refine lv_lconst (v := 0) hx hb dX13_ends_133 (by decide) ?_
                refine pg_last hx hb hK hP hD hS hc34.1 1 hM_134 rfl (inbN v2w6 24 (by omega) (by omega)) dX13_ends_134 (fun H_136 locs hP hD hS => ?_)
                obtain ⟨M_137, eM_137⟩ : ∃ M1 : Hp, M1 = va_up M_129 v34 (.inl (cy 15, 24, .inr (.inl (vp_updL f35 ((nI v2w6) : Int32).toNatClampNeg 0)))) := ⟨_, rfl⟩
                have hV : VW K L M M_137 k1 (fx M k1) (va_up (ax M k1) 23 gw6) := by rw [eM_137]; exact hV.oth hW ik1 hc34 (by decide)
                have hP : va_P D vwCl ([] ++ va_pl L M_137) H_136 := by rw [eM_137]; exact hP
                have hD : va_D A ([] ++ va_pl L M_137) := by rw [eM_137]; exact hD
                have hW : WOM cy K L M_137 := by rw [eM_137]; exact hW.up_87 hc34 ⟨_, rfl⟩
                have hF : fr K L [15, 42, 87, 88, 90, 91] M M_137 := by rw [eM_137]; exact hF.up hc34 (by decide)
                have hG : fG K L [] M M_137 := by rw [eM_137]; exact hG.arr hc34 (by decide)
                have hM_138 : M_137 v34 = .inl (cy 15, 24, .inr (.inl (vp_updL f35 ((nI v2w6) : Int32).toNatClampNeg 0))) := by rw [eM_137]; exact va_up_self _ _ _
                have hM_139 : M_137 v123 = .inl (cy 15, 24, .inr (.inl (f_135))) := by rw [eM_137, va_up_ne _ _ (hc123.neT hc34 (by decide))]; exact hM_130
                have hM_140 : M_137 k1 = .inr (12, fs1) := by rw [eM_137, va_up_ne _ _ (ik1.neT hc34 (by decide))]; exact hM_131
                have hM_141 : M_137 v17 = .inl (cy 14, 24, .inl (f18)) := by rw [eM_137, va_up_ne _ _ (hc17.neT hc34 (by decide))]; exact hM_132
                have hM_142 : M_137 v26 = .inl (cy 14, 24, .inl (f27)) := by rw [eM_137, va_up_ne _ _ (hc26.neT hc34 (by decide))]; exact hM_133
                obtain ⟨f_143, ef_143⟩ : ∃ f : Nat → Int64, f = vp_updL f35 ((nI v2w6) : Int32).toNatClampNeg 0 := ⟨_, rfl⟩
                rw [← ef_143] at hM_138
                refine lv_aload_n hx hb dX13_ends_135 rfl (lv_at hl 1 rfl) ?_
                refine pg_getN (D := D) (ci := 12) (v := .ref v123) (C := RX12) (T := TX12) (N := 51) hx hb hg inG12 hown hK hP ik1.1 hM_140 rfl 31 (by decide) (hN.use (Cond.fieldLinkNest RX13 373 RX12 "payable" "[J" RX13) 40 rfl rfl) (fun _ h9 => h9) hv123 dX13_ends_136 ?_
                refine lv_iload_n hx hb dX13_ends_139 rfl (lv_at hl 0 rfl) ?_
                refine lv_dup2_11 hx hb dX13_ends_140 rfl rfl ?_
                refine pg_lald hx hb hK hP hc123.1 1 hM_139 rfl (inbN v2w6 24 (by omega) (by omega)) dX13_ends_141 ?_
                refine lv_topl (fun f_144 ef_144 => ?_)
                refine lv_aload_n hx hb dX13_ends_142 rfl (lv_at hl 1 rfl) ?_
                obtain ⟨v145, hv145, hc145⟩ : ∃ v : Nat, fs1[28]? = some (.ref v : Value) ∧ isk K L v 88 24 := hl1 28 (by decide)
                refine pg_getN (D := D) (ci := 12) (v := .ref v145) (C := RX12) (T := TX12) (N := 51) hx hb hg inG12 hown hK hP ik1.1 hM_140 rfl 28 (by decide) (hN.use (Cond.fieldLinkNest RX13 370 RX12 "hidden" "[J" RX13) 37 rfl rfl) (fun _ h9 => h9) hv145 dX13_ends_143 ?_
                refine lv_iload_n hx hb dX13_ends_146 rfl (lv_at hl 0 rfl) ?_
                obtain ⟨f146, hM146⟩ := hW.open_88 hc145
                refine pg_lald hx hb hK hP hc145.1 1 hM146 rfl (inbN v2w6 24 (by omega) (by omega)) dX13_ends_147 ?_
                refine lv_topl (fun f_147 ef_147 => ?_)
                refine lv_ladd hx hb dX13_ends_148 ?_
                refine lv_topl (fun f_148 ef_148 => ?_)
                refine pg_last hx hb hK hP hD hS hc123.1 1 hM_139 rfl (inbN v2w6 24 (by omega) (by omega)) dX13_ends_149 (fun H_149 locs hP hD hS => ?_)
                obtain ⟨M_150, eM_150⟩ : ∃ M1 : Hp, M1 = va_up M_137 v123 (.inl (cy 15, 24, .inr (.inl (vp_updL f_135 ((nI v2w6) : Int32).toNatClampNeg f_148)))) := ⟨_, rfl⟩
                have hV : VW K L M M_150 k1 (fx M k1) (va_up (ax M k1) 23 gw6) := by rw [eM_150]; exact hV.oth hW ik1 hc123 (by decide)
                have hP : va_P D vwCl ([] ++ va_pl L M_150) H_149 := by rw [eM_150]; exact hP
                have hD : va_D A ([] ++ va_pl L M_150) := by rw [eM_150]; exact hD
                have hW : WOM cy K L M_150 := by rw [eM_150]; exact hW.up_90 hc123 ⟨_, rfl⟩
                have hF : fr K L [15, 42, 87, 88, 90, 91] M M_150 := by rw [eM_150]; exact hF.up hc123 (by decide)
                have hG : fG K L [] M M_150 := by rw [eM_150]; exact hG.arr hc123 (by decide)
                have hM_151 : M_150 v123 = .inl (cy 15, 24, .inr (.inl (vp_updL f_135 ((nI v2w6) : Int32).toNatClampNeg f_148))) := by rw [eM_150]; exact va_up_self _ _ _
                have hM_152 : M_150 v34 = .inl (cy 15, 24, .inr (.inl (f_143))) := by rw [eM_150, va_up_ne _ _ (hc34.neT hc123 (by decide))]; exact hM_138
                have hM_153 : M_150 k1 = .inr (12, fs1) := by rw [eM_150, va_up_ne _ _ (ik1.neT hc123 (by decide))]; exact hM_140
                have hM_154 : M_150 v17 = .inl (cy 14, 24, .inl (f18)) := by rw [eM_150, va_up_ne _ _ (hc17.neT hc123 (by decide))]; exact hM_141
                have hM_155 : M_150 v26 = .inl (cy 14, 24, .inl (f27)) := by rw [eM_150, va_up_ne _ _ (hc26.neT hc123 (by decide))]; exact hM_142
                have hM_156 : M_150 v145 = .inl (cy 15, 24, .inr (.inl (f146))) := by rw [eM_150, va_up_ne _ _ (hc145.neT hc123 (by decide))]; exact hM146
                obtain ⟨f_157, ef_157⟩ : ∃ f : Nat → Int64, f = vp_updL f_135 ((nI v2w6) : Int32).toNatClampNeg f_148 := ⟨_, rfl⟩
                rw [← ef_157] at hM_151
                refine lv_aload_n hx hb dX13_ends_150 rfl (lv_at hl 1 rfl) ?_
                refine pg_getN (D := D) (ci := 12) (v := .ref v145) (C := RX12) (T := TX12) (N := 51) hx hb hg inG12 hown hK hP ik1.1 hM_153 rfl 28 (by decide) (hN.use (Cond.fieldLinkNest RX13 370 RX12 "hidden" "[J" RX13) 37 rfl rfl) (fun _ h9 => h9) hv145 dX13_ends_151 ?_
                refine lv_iload_n hx hb dX13_ends_154 rfl (lv_at hl 0 rfl) ?_
                refine lv_lconst (v := 0) hx hb dX13_ends_155 (by decide) ?_
                refine pg_last hx hb hK hP hD hS hc145.1 1 hM_156 rfl (inbN v2w6 24 (by omega) (by omega)) dX13_ends_156 (fun H_158 locs hP hD hS => ?_)
                obtain ⟨M_159, eM_159⟩ : ∃ M1 : Hp, M1 = va_up M_150 v145 (.inl (cy 15, 24, .inr (.inl (vp_updL f146 ((nI v2w6) : Int32).toNatClampNeg 0)))) := ⟨_, rfl⟩
                have hV : VW K L M M_159 k1 (fx M k1) (va_up (ax M k1) 23 gw6) := by rw [eM_159]; exact hV.oth hW ik1 hc145 (by decide)
                have hP : va_P D vwCl ([] ++ va_pl L M_159) H_158 := by rw [eM_159]; exact hP
                have hD : va_D A ([] ++ va_pl L M_159) := by rw [eM_159]; exact hD
                have hW : WOM cy K L M_159 := by rw [eM_159]; exact hW.up_88 hc145 ⟨_, rfl⟩
                have hF : fr K L [15, 42, 87, 88, 90, 91] M M_159 := by rw [eM_159]; exact hF.up hc145 (by decide)
                have hG : fG K L [] M M_159 := by rw [eM_159]; exact hG.arr hc145 (by decide)
                have hM_160 : M_159 v145 = .inl (cy 15, 24, .inr (.inl (vp_updL f146 ((nI v2w6) : Int32).toNatClampNeg 0))) := by rw [eM_159]; exact va_up_self _ _ _
                have hM_161 : M_159 v123 = .inl (cy 15, 24, .inr (.inl (f_157))) := by rw [eM_159, va_up_ne _ _ (hc123.neT hc145 (by decide))]; exact hM_151
                have hM_162 : M_159 v34 = .inl (cy 15, 24, .inr (.inl (f_143))) := by rw [eM_159, va_up_ne _ _ (hc34.neT hc145 (by decide))]; exact hM_152
                have hM_163 : M_159 k1 = .inr (12, fs1) := by rw [eM_159, va_up_ne _ _ (ik1.neT hc145 (by decide))]; exact hM_153
                have hM_164 : M_159 v17 = .inl (cy 14, 24, .inl (f18)) := by rw [eM_159, va_up_ne _ _ (hc17.neT hc145 (by decide))]; exact hM_154
                have hM_165 : M_159 v26 = .inl (cy 14, 24, .inl (f27)) := by rw [eM_159, va_up_ne _ _ (hc26.neT hc145 (by decide))]; exact hM_155
                obtain ⟨f_166, ef_166⟩ : ∃ f : Nat → Int64, f = vp_updL f146 ((nI v2w6) : Int32).toNatClampNeg 0 := ⟨_, rfl⟩
                rw [← ef_166] at hM_160
                refine lv_aload_n hx hb dX13_ends_157 rfl (lv_at hl 1 rfl) ?_
                refine pg_getN (D := D) (ci := 12) (v := .ref v123) (C := RX12) (T := TX12) (N := 51) hx hb hg inG12 hown hK hP ik1.1 hM_163 rfl 31 (by decide) (hN.use (Cond.fieldLinkNest RX13 373 RX12 "payable" "[J" RX13) 40 rfl rfl) (fun _ h9 => h9) hv123 dX13_ends_158 ?_
                refine lv_iload_n hx hb dX13_ends_161 rfl (lv_at hl 0 rfl) ?_
                refine pg_lald hx hb hK hP hc123.1 1 hM_161 rfl (inbN v2w6 24 (by omega) (by omega)) dX13_ends_162 ?_
                refine lv_topl (fun f_167 ef_167 => ?_)
                refine lv_aload_n hx hb dX13_ends_163 rfl (lv_at hl 1 rfl) ?_
                obtain ⟨v168, hv168, hc168⟩ : ∃ v : Nat, fs1[23]? = some (.ref v : Value) ∧ isk K L v 42 24 := hl1 23 (by decide)
                refine pg_getN (D := D) (ci := 12) (v := .ref v168) (C := RX12) (T := TX12) (N := 51) hx hb hg inG12 hown hK hP ik1.1 hM_163 rfl 23 (by decide) (hN.use (Cond.fieldLinkNest RX13 115 RX12 "instalments" "[I" RX13) 32 rfl rfl) (fun _ h9 => h9) hv168 dX13_ends_164 ?_
                refine lv_iload_n hx hb dX13_ends_167 rfl (lv_at hl 0 rfl) ?_
                obtain ⟨f169, hM169⟩ := hW.open_42 hc168
                refine pg_iald hx hb hK hP hc168.1 0 hM169 rfl (inbN v2w6 24 (by omega) (by omega)) dX13_ends_168 ?_
                refine lv_topi (fun f_170 ef_170 => ?_)
                have hx10 : (fx M k1 10) = ((v2 : Nat) : Int) := (congrFun hV.2.1 10).symm.trans ((fx_of hM_163 rfl hv2).trans (nI_toInt (by omega)))
                have hy22 : (ax M k1 22) = f18 := (congrFun hV.2.2.1 22).symm.trans (ax_of hM_163 (by decide) hv17 hM_164)
                have hy23 : gw6 = f169 := (congrFun hV.2.2.1 23).symm.trans (ax_of hM_163 (by decide) hv168 hM169)
                have hins : ¬ f_170 ≤ 0 := by
                  apply nle0
                  rcases hC v2w6 (by omega) (by omega) with q | q
                  · exact absurd (show f_19 = -1 by rw [ef_19, nI_cl (by omega), ← hy22]; exact q) c_20
                  · rw [ef_170, nI_cl (by omega), ← hy23, hx_10 v2w6 (Nat.le_refl _)]
                    exact q
                refine lv_i2l hx hb dX13_ends_169 rfl ?_
                refine lv_topl (fun f_171 ef_171 => ?_)
                refine lv_ldiv hx hb dX13_ends_170 (i2l_nz ef_171 hins) ?_
                refine lv_topl (fun f_172 ef_172 => ?_)
                refine lv_lstore_n (lv' := [(3, .long f_172), (2, .int (nI v2w6)), (0, .ref k1), (1, .int (nI k2))]) hx hb dX13_ends_171 rfl hl (by decide) rfl (fun ls hl => ?_)
                refine lv_aload_n hx hb dX13_ends_172 rfl (lv_at hl 2 rfl) ?_
                obtain ⟨v173, hv173, hc173⟩ : ∃ v : Nat, fs1[32]? = some (.ref v : Value) ∧ isk K L v 91 24 := hl1 32 (by decide)
                refine pg_getN (D := D) (ci := 12) (v := .ref v173) (C := RX12) (T := TX12) (N := 51) hx hb hg inG12 hown hK hP ik1.1 hM_163 rfl 32 (by decide) (hN.use (Cond.fieldLinkNest RX13 376 RX12 "paid" "[J" RX13) 41 rfl rfl) (fun _ h9 => h9) hv173 dX13_ends_173 ?_
                refine lv_iload_n hx hb dX13_ends_176 rfl (lv_at hl 1 rfl) ?_
                refine lv_dup2_11 hx hb dX13_ends_177 rfl rfl ?_
                obtain ⟨f174, hM174⟩ := hW.open_91 hc173
                refine pg_lald hx hb hK hP hc173.1 1 hM174 rfl (inbN v2w6 24 (by omega) (by omega)) dX13_ends_178 ?_
                refine lv_topl (fun f_175 ef_175 => ?_)
                refine lv_lload_n hx hb dX13_ends_179 rfl (lv_at hl 0 rfl) ?_
                refine lv_ladd hx hb dX13_ends_180 ?_
                refine lv_topl (fun f_176 ef_176 => ?_)
                refine pg_last hx hb hK hP hD hS hc173.1 1 hM174 rfl (inbN v2w6 24 (by omega) (by omega)) dX13_ends_181 (fun H_177 locs hP hD hS => ?_)
                obtain ⟨M_178, eM_178⟩ : ∃ M1 : Hp, M1 = va_up M_159 v173 (.inl (cy 15, 24, .inr (.inl (vp_updL f174 ((nI v2w6) : Int32).toNatClampNeg f_176)))) := ⟨_, rfl⟩
                have hV : VW K L M M_178 k1 (fx M k1) (va_up (ax M k1) 23 gw6) := by rw [eM_178]; exact hV.oth hW ik1 hc173 (by decide)
                have hP : va_P D vwCl ([] ++ va_pl L M_178) H_177 := by rw [eM_178]; exact hP
                have hD : va_D A ([] ++ va_pl L M_178) := by rw [eM_178]; exact hD
                have hW : WOM cy K L M_178 := by rw [eM_178]; exact hW.up_91 hc173 ⟨_, rfl⟩
                have hF : fr K L [15, 42, 87, 88, 90, 91] M M_178 := by rw [eM_178]; exact hF.up hc173 (by decide)
                have hG : fG K L [] M M_178 := by rw [eM_178]; exact hG.arr hc173 (by decide)
                have hM_179 : M_178 v173 = .inl (cy 15, 24, .inr (.inl (vp_updL f174 ((nI v2w6) : Int32).toNatClampNeg f_176))) := by rw [eM_178]; exact va_up_self _ _ _
                have hM_180 : M_178 v145 = .inl (cy 15, 24, .inr (.inl (f_166))) := by rw [eM_178, va_up_ne _ _ (hc145.neT hc173 (by decide))]; exact hM_160
                have hM_181 : M_178 v123 = .inl (cy 15, 24, .inr (.inl (f_157))) := by rw [eM_178, va_up_ne _ _ (hc123.neT hc173 (by decide))]; exact hM_161
                have hM_182 : M_178 v34 = .inl (cy 15, 24, .inr (.inl (f_143))) := by rw [eM_178, va_up_ne _ _ (hc34.neT hc173 (by decide))]; exact hM_162
                have hM_183 : M_178 k1 = .inr (12, fs1) := by rw [eM_178, va_up_ne _ _ (ik1.neT hc173 (by decide))]; exact hM_163
                have hM_184 : M_178 v17 = .inl (cy 14, 24, .inl (f18)) := by rw [eM_178, va_up_ne _ _ (hc17.neT hc173 (by decide))]; exact hM_164
                have hM_185 : M_178 v26 = .inl (cy 14, 24, .inl (f27)) := by rw [eM_178, va_up_ne _ _ (hc26.neT hc173 (by decide))]; exact hM_165
                have hM_186 : M_178 v168 = .inl (cy 14, 24, .inl (f169)) := by rw [eM_178, va_up_ne _ _ (hc168.neT hc173 (by decide))]; exact hM169
                obtain ⟨f_187, ef_187⟩ : ∃ f : Nat → Int64, f = vp_updL f174 ((nI v2w6) : Int32).toNatClampNeg f_176 := ⟨_, rfl⟩
                rw [← ef_187] at hM_179
                refine lv_aload_n hx hb dX13_ends_182 rfl (lv_at hl 2 rfl) ?_
                refine pg_getN (D := D) (ci := 12) (v := .ref v123) (C := RX12) (T := TX12) (N := 51) hx hb hg inG12 hown hK hP ik1.1 hM_183 rfl 31 (by decide) (hN.use (Cond.fieldLinkNest RX13 373 RX12 "payable" "[J" RX13) 40 rfl rfl) (fun _ h9 => h9) hv123 dX13_ends_183 ?_
                refine lv_iload_n hx hb dX13_ends_186 rfl (lv_at hl 1 rfl) ?_
                refine lv_dup2_11 hx hb dX13_ends_187 rfl rfl ?_
                refine pg_lald hx hb hK hP hc123.1 1 hM_181 rfl (inbN v2w6 24 (by omega) (by omega)) dX13_ends_188 ?_
                refine lv_topl (fun f_188 ef_188 => ?_)
                refine lv_lload_n hx hb dX13_ends_189 rfl (lv_at hl 0 rfl) ?_
                refine lv_lsub hx hb dX13_ends_190 ?_
                refine lv_topl (fun f_189 ef_189 => ?_)
                refine pg_last hx hb hK hP hD hS hc123.1 1 hM_181 rfl (inbN v2w6 24 (by omega) (by omega)) dX13_ends_191 (fun H_190 locs hP hD hS => ?_)
                obtain ⟨M_191, eM_191⟩ : ∃ M1 : Hp, M1 = va_up M_178 v123 (.inl (cy 15, 24, .inr (.inl (vp_updL f_157 ((nI v2w6) : Int32).toNatClampNeg f_189)))) := ⟨_, rfl⟩
                have hV : VW K L M M_191 k1 (fx M k1) (va_up (ax M k1) 23 gw6) := by rw [eM_191]; exact hV.oth hW ik1 hc123 (by decide)
                have hP : va_P D vwCl ([] ++ va_pl L M_191) H_190 := by rw [eM_191]; exact hP
                have hD : va_D A ([] ++ va_pl L M_191) := by rw [eM_191]; exact hD
                have hW : WOM cy K L M_191 := by rw [eM_191]; exact hW.up_90 hc123 ⟨_, rfl⟩
                have hF : fr K L [15, 42, 87, 88, 90, 91] M M_191 := by rw [eM_191]; exact hF.up hc123 (by decide)
                have hG : fG K L [] M M_191 := by rw [eM_191]; exact hG.arr hc123 (by decide)
                have hM_192 : M_191 v123 = .inl (cy 15, 24, .inr (.inl (vp_updL f_157 ((nI v2w6) : Int32).toNatClampNeg f_189))) := by rw [eM_191]; exact va_up_self _ _ _
                have hM_193 : M_191 v173 = .inl (cy 15, 24, .inr (.inl (f_187))) := by rw [eM_191, va_up_ne _ _ (hc173.neT hc123 (by decide))]; exact hM_179
                have hM_194 : M_191 v145 = .inl (cy 15, 24, .inr (.inl (f_166))) := by rw [eM_191, va_up_ne _ _ (hc145.neT hc123 (by decide))]; exact hM_180
                have hM_195 : M_191 v34 = .inl (cy 15, 24, .inr (.inl (f_143))) := by rw [eM_191, va_up_ne _ _ (hc34.neT hc123 (by decide))]; exact hM_182
                have hM_196 : M_191 k1 = .inr (12, fs1) := by rw [eM_191, va_up_ne _ _ (ik1.neT hc123 (by decide))]; exact hM_183
                have hM_197 : M_191 v17 = .inl (cy 14, 24, .inl (f18)) := by rw [eM_191, va_up_ne _ _ (hc17.neT hc123 (by decide))]; exact hM_184
                have hM_198 : M_191 v26 = .inl (cy 14, 24, .inl (f27)) := by rw [eM_191, va_up_ne _ _ (hc26.neT hc123 (by decide))]; exact hM_185
                have hM_199 : M_191 v168 = .inl (cy 14, 24, .inl (f169)) := by rw [eM_191, va_up_ne _ _ (hc168.neT hc123 (by decide))]; exact hM_186
                obtain ⟨f_200, ef_200⟩ : ∃ f : Nat → Int64, f = vp_updL f_157 ((nI v2w6) : Int32).toNatClampNeg f_189 := ⟨_, rfl⟩
                rw [← ef_200] at hM_192
                refine lv_aload_n hx hb dX13_ends_192 rfl (lv_at hl 2 rfl) ?_
                refine pg_getN (D := D) (ci := 12) (v := .ref v168) (C := RX12) (T := TX12) (N := 51) hx hb hg inG12 hown hK hP ik1.1 hM_196 rfl 23 (by decide) (hN.use (Cond.fieldLinkNest RX13 115 RX12 "instalments" "[I" RX13) 32 rfl rfl) (fun _ h9 => h9) hv168 dX13_ends_193 ?_
                refine lv_iload_n hx hb dX13_ends_196 rfl (lv_at hl 1 rfl) ?_
                refine pg_iald hx hb hK hP hc168.1 0 hM_199 rfl (inbN v2w6 24 (by omega) (by omega)) dX13_ends_197 ?_
                refine lv_topi (fun f_201 ef_201 => ?_)
                have hy23 : gw6 = f169 := (congrFun hV.2.2.1 23).symm.trans (ax_of hM_196 (by decide) hv168 hM_199)
                have hq23e : gw6 v2w6 = f_201 := by
                  have h9 := ef_201.symm
                  rw [nI_cl (by omega)] at h9
                  rw [hy23]; exact h9
                have hq23 : (gw6 v2w6).toInt = (f_201 : Int32).toInt := congrArg Int32.toInt hq23e
                have hq23y : gw6 v2w6 = ax M k1 23 v2w6 := hx_10 v2w6 (Nat.le_refl _)
                have hq23i := congrArg Int32.toInt hq23y
                refine lv_iconst (v := 1) hx hb dX13_ends_198 (by decide) ?_
                refine lv_icmp_le (tgt := 212) hx hb dX13_ends_199 (by decide) (fun c_202 => ?_) (fun c_202 => ?_)
                · have hz := rfl (a := 0)
                  have hI_203 : ((v2w6 : Nat) : Int) < ((v2 : Nat) : Int) := inleI (nI_toInt (by omega)) (nI_toInt (by omega)) c_14
                  have hI_204 : (f_19 : Int32).toInt ≠ (-1) := ineI rfl rfl c_20
                  have hI_205 : (f_23 : Int32).toInt ≤ (((k2 + 1) : Nat) : Int) := ileI rfl (nI_toInt (by omega)) c_25
                  have hI_206 : (0 : Int) < (f_170 : Int32).toInt := inleI rfl rfl hins
                  have hI_207 : (f_201 : Int32).toInt ≤ (1 : Int) := ileI rfl rfl c_202
                  have hins9 : insE (ax M k1) ((k2 : Nat) : Int) v2w6 = ax M k1 23 v2w6 := by unfold insE; by_cases z9 : (ax M k1 22 v2w6).toInt ≠ -1 ∧ (ax M k1 22 v2w6).toInt ≤ ((k2 : Nat) : Int) + 1; all_goals first | (rw [if_neg z9]; done) | (rw [if_pos z9, insC_n]; omega)
                  refine lv_iinc (v := (nI (v2w6 + 1))) (lv' := [(2, .int (nI (v2w6 + 1))), (3, .long f_172), (0, .ref k1), (1, .int (nI k2))]) hx hb dX13_ends_212 hl (k := 1) rfl (nI_1 v2w6) (by decide) rfl (fun ls hl => ?_)
                  refine lv_goto (tgt := 2) hx hb dX13_ends_215 (by decide) ?_
                  exact ih_4 (v2w6 + 1) gw6 M_191 H_190 _ _ (by omega) hM_196 (by omega) (by omega) (insK hx_9 hx_10 hins9) (fun i hi => hx_10 i (by omega)) hW hF hG hV hP hD hS (lv_sub hl [0, 2, 3] rfl)
                · have hz := rfl (a := 0)
                  refine lv_aload_n hx hb dX13_ends_202 rfl (lv_at hl 2 rfl) ?_
                  refine pg_getN (D := D) (ci := 12) (v := .ref v168) (C := RX12) (T := TX12) (N := 51) hx hb hg inG12 hown hK hP ik1.1 hM_196 rfl 23 (by decide) (hN.use (Cond.fieldLinkNest RX13 115 RX12 "instalments" "[I" RX13) 32 rfl rfl) (fun _ h9 => h9) hv168 dX13_ends_203 ?_
                  refine lv_iload_n hx hb dX13_ends_206 rfl (lv_at hl 1 rfl) ?_
                  refine lv_dup2_11 hx hb dX13_ends_207 rfl rfl ?_
                  refine pg_iald hx hb hK hP hc168.1 0 hM_199 rfl (inbN v2w6 24 (by omega) (by omega)) dX13_ends_208 ?_
                  refine lv_topi (fun f_208 ef_208 => ?_)
                  refine lv_iconst (v := 1) hx hb dX13_ends_209 (by decide) ?_
                  refine lv_isub hx hb dX13_ends_210 ?_
                  refine lv_topi (fun f_209 ef_209 => ?_)
                  have hy23 : gw6 = f169 := (congrFun hV.2.2.1 23).symm.trans (ax_of hM_196 (by decide) hv168 hM_199)
                  have hdec : f_209 = ax M k1 23 v2w6 - 1 := by rw [ef_209, ef_208, nI_cl (by omega), ← hy23, hx_10 v2w6 (Nat.le_refl _)]
                  refine pg_iast hx hb hK hP hD hS hc168.1 0 hM_199 rfl (inbN v2w6 24 (by omega) (by omega)) dX13_ends_211 (fun H_210 locs hP hD hS => ?_)
                  obtain ⟨M_211, eM_211⟩ : ∃ M1 : Hp, M1 = va_up M_191 v168 (.inl (cy 14, 24, .inl (upd f169 ((nI v2w6) : Int32).toNatClampNeg f_209))) := ⟨_, rfl⟩
                  have hy23 : gw6 = f169 := (congrFun hV.2.2.1 23).symm.trans (ax_of hM_196 (by decide) hv168 hM_199)
                  have hV : VW K L M M_211 k1 (fx M k1) (va_up (va_up (ax M k1) 23 gw6) 23 (upd gw6 ((nI v2w6) : Int32).toNatClampNeg f_209)) := by rw [eM_211]; exact hV.ast (j := 23) hW ik1 hM_196 (by decide) hv168 hc168 hM_199
                  have hP : va_P D vwCl ([] ++ va_pl L M_211) H_210 := by rw [eM_211]; exact hP
                  have hD : va_D A ([] ++ va_pl L M_211) := by rw [eM_211]; exact hD
                  have hW : WOM cy K L M_211 := by rw [eM_211]; exact hW.up_42 hc168 ⟨_, rfl⟩
                  have hF : fr K L [15, 42, 87, 88, 90, 91] M M_211 := by rw [eM_211]; exact hF.up hc168 (by decide)
                  have hG : fG K L [] M M_211 := by rw [eM_211]; exact hG.arr hc168 (by decide)
                  have hM_212 : M_211 v168 = .inl (cy 14, 24, .inl (upd f169 ((nI v2w6) : Int32).toNatClampNeg f_209)) := by rw [eM_211]; exact va_up_self _ _ _
                  have hM_213 : M_211 v123 = .inl (cy 15, 24, .inr (.inl (f_200))) := by rw [eM_211, va_up_ne _ _ (hc123.neT hc168 (by decide))]; exact hM_192
                  have hM_214 : M_211 v173 = .inl (cy 15, 24, .inr (.inl (f_187))) := by rw [eM_211, va_up_ne _ _ (hc173.neT hc168 (by decide))]; exact hM_193
                  have hM_215 : M_211 v145 = .inl (cy 15, 24, .inr (.inl (f_166))) := by rw [eM_211, va_up_ne _ _ (hc145.neT hc168 (by decide))]; exact hM_194
                  have hM_216 : M_211 v34 = .inl (cy 15, 24, .inr (.inl (f_143))) := by rw [eM_211, va_up_ne _ _ (hc34.neT hc168 (by decide))]; exact hM_195
                  have hM_217 : M_211 k1 = .inr (12, fs1) := by rw [eM_211, va_up_ne _ _ (ik1.neT hc168 (by decide))]; exact hM_196
                  have hM_218 : M_211 v17 = .inl (cy 14, 24, .inl (f18)) := by rw [eM_211, va_up_ne _ _ (hc17.neT hc168 (by decide))]; exact hM_197
                  have hM_219 : M_211 v26 = .inl (cy 14, 24, .inl (f27)) := by rw [eM_211, va_up_ne _ _ (hc26.neT hc168 (by decide))]; exact hM_198
                  obtain ⟨f_220, ef_220⟩ : ∃ f : Nat → Int32, f = upd f169 ((nI v2w6) : Int32).toNatClampNeg f_209 := ⟨_, rfl⟩
                  rw [← ef_220] at hM_212
                  have hI_221 : ((v2w6 : Nat) : Int) < ((v2 : Nat) : Int) := inleI (nI_toInt (by omega)) (nI_toInt (by omega)) c_14
                  have hI_222 : (f_19 : Int32).toInt ≠ (-1) := ineI rfl rfl c_20
                  have hI_223 : (f_23 : Int32).toInt ≤ (((k2 + 1) : Nat) : Int) := ileI rfl (nI_toInt (by omega)) c_25
                  have hI_224 : (0 : Int) < (f_170 : Int32).toInt := inleI rfl rfl hins
                  have hI_225 : (1 : Int) < (f_201 : Int32).toInt := inleI rfl rfl c_202
                  have hins9 : insE (ax M k1) ((k2 : Nat) : Int) v2w6 = ax M k1 23 v2w6 - 1 := by unfold insE; rw [if_pos ⟨by omega, by omega⟩]; unfold insC; exact if_pos ⟨by omega, by omega⟩
                  refine lv_iinc (v := (nI (v2w6 + 1))) (lv' := [(2, .int (nI (v2w6 + 1))), (3, .long f_172), (0, .ref k1), (1, .int (nI k2))]) hx hb dX13_ends_212 hl (k := 1) rfl (nI_1 v2w6) (by decide) rfl (fun ls hl => ?_)
                  refine lv_goto (tgt := 2) hx hb dX13_ends_215 (by decide) ?_
                  exact ih_4 (v2w6 + 1) (upd gw6 ((nI v2w6) : Int32).toNatClampNeg f_209) M_211 H_210 _ _ (by omega) hM_217 (by omega) (by omega) (insUn hx_9 hins9 (nI_cl (by omega)) hdec) (insWn hx_10 (nI_cl (by omega))) hW hF hG (by have h := hV; simp only [va_up_up] at h; exact h) hP hD hS (lv_sub hl [0, 2, 3] rfl)
            · rw [ec_32]
              have hy25 : (ax M k1 25) = f27 := (congrFun hV.2.2.1 25).symm.trans (ax_of hM_13 (by decide) hv26 hM27)
              have hr25e : (ax M k1 25) v2w6 = (nI c_30) := by
                have h9 := ec_32
                rw [nI_cl (by omega)] at h9
                rw [hy25]; exact h9
              have hr25 : ((ax M k1 25) v2w6).toInt = ((c_30 : Nat) : Int) := by rw [hr25e]; exact nI_toInt (by omega)
              refine lv_iconst (v := (-1)) hx hb dX13_ends_41 (by decide) ?_
              refine lv_icmp_eq (tgt := 102) hx hb dX13_ends_42 (by decide) (fun c_226 => absurd c_226 (nI_ne_m1 (by omega))) (fun _ => ?_)
              refine lv_aload_n hx hb dX13_ends_45 rfl (lv_at hl 1 rfl) ?_
              obtain ⟨v227, hv227, hc227⟩ : ∃ v : Nat, fs1[27]? = some (.ref v : Value) ∧ isk K L v 87 24 := hl1 27 (by decide)
              refine pg_getN (D := D) (ci := 12) (v := .ref v227) (C := RX12) (T := TX12) (N := 51) hx hb hg inG12 hown hK hP ik1.1 hM_13 rfl 27 (by decide) (hN.use (Cond.fieldLinkNest RX13 307 RX12 "credit" "[J" RX13) 36 rfl rfl) (fun _ h9 => h9) hv227 dX13_ends_46 ?_
              refine lv_aload_n hx hb dX13_ends_49 rfl (lv_at hl 1 rfl) ?_
              refine pg_getN (D := D) (ci := 12) (v := .ref v26) (C := RX12) (T := TX12) (N := 51) hx hb hg inG12 hown hK hP ik1.1 hM_13 rfl 25 (by decide) (hN.use (Cond.fieldLinkNest RX13 121 RX12 "heir" "[I" RX13) 34 rfl rfl) (fun _ h9 => h9) hv26 dX13_ends_50 ?_
              refine lv_iload_n hx hb dX13_ends_53 rfl (lv_at hl 0 rfl) ?_
              refine pg_iald hx hb hK hP hc26.1 0 hM27 rfl (inbN v2w6 24 (by omega) (by omega)) dX13_ends_54 ?_
              rw [ec_32]
              refine lv_dup2_11 hx hb dX13_ends_55 rfl rfl ?_
              obtain ⟨f228, hM228⟩ := hW.open_87 hc227
              refine pg_lald hx hb hK hP hc227.1 1 hM228 rfl (inbN c_30 24 (by omega) (by omega)) dX13_ends_56 ?_
              refine lv_topl (fun f_229 ef_229 => ?_)
              refine lv_aload_n hx hb dX13_ends_57 rfl (lv_at hl 1 rfl) ?_
              refine pg_getN (D := D) (ci := 12) (v := .ref v227) (C := RX12) (T := TX12) (N := 51) hx hb hg inG12 hown hK hP ik1.1 hM_13 rfl 27 (by decide) (hN.use (Cond.fieldLinkNest RX13 307 RX12 "credit" "[J" RX13) 36 rfl rfl) (fun _ h9 => h9) hv227 dX13_ends_58 ?_
              refine lv_iload_n hx hb dX13_ends_61 rfl (lv_at hl 0 rfl) ?_
              refine pg_lald hx hb hK hP hc227.1 1 hM228 rfl (inbN v2w6 24 (by omega) (by omega)) dX13_ends_62 ?_
              refine lv_topl (fun f_230 ef_230 => ?_)
              refine lv_ladd hx hb dX13_ends_63 ?_
              refine lv_topl (fun f_231 ef_231 => ?_)
              refine pg_last hx hb hK hP hD hS hc227.1 1 hM228 rfl (inbN c_30 24 (by omega) (by omega)) dX13_ends_64 (fun H_232 locs hP hD hS => ?_)
              obtain ⟨M_233, eM_233⟩ : ∃ M1 : Hp, M1 = va_up M_11 v227 (.inl (cy 15, 24, .inr (.inl (vp_updL f228 ((nI c_30) : Int32).toNatClampNeg f_231)))) := ⟨_, rfl⟩
              have hV : VW K L M M_233 k1 (fx M k1) (va_up (ax M k1) 23 gw6) := by rw [eM_233]; exact hV.oth hW ik1 hc227 (by decide)
              have hP : va_P D vwCl ([] ++ va_pl L M_233) H_232 := by rw [eM_233]; exact hP
              have hD : va_D A ([] ++ va_pl L M_233) := by rw [eM_233]; exact hD
              have hW : WOM cy K L M_233 := by rw [eM_233]; exact hW.up_87 hc227 ⟨_, rfl⟩
              have hF : fr K L [15, 42, 87, 88, 90, 91] M M_233 := by rw [eM_233]; exact hF.up hc227 (by decide)
              have hG : fG K L [] M M_233 := by rw [eM_233]; exact hG.arr hc227 (by decide)
              have hM_234 : M_233 v227 = .inl (cy 15, 24, .inr (.inl (vp_updL f228 ((nI c_30) : Int32).toNatClampNeg f_231))) := by rw [eM_233]; exact va_up_self _ _ _
              have hM_235 : M_233 k1 = .inr (12, fs1) := by rw [eM_233, va_up_ne _ _ (ik1.neT hc227 (by decide))]; exact hM_13
              have hM_236 : M_233 v17 = .inl (cy 14, 24, .inl (f18)) := by rw [eM_233, va_up_ne _ _ (hc17.neT hc227 (by decide))]; exact hM18
              have hM_237 : M_233 v26 = .inl (cy 14, 24, .inl (f27)) := by rw [eM_233, va_up_ne _ _ (hc26.neT hc227 (by decide))]; exact hM27
              obtain ⟨f_238, ef_238⟩ : ∃ f : Nat → Int64, f = vp_updL f228 ((nI c_30) : Int32).toNatClampNeg f_231 := ⟨_, rfl⟩
              rw [← ef_238] at hM_234
              refine lv_aload_n hx hb dX13_ends_65 rfl (lv_at hl 1 rfl) ?_
              obtain ⟨v239, hv239, hc239⟩ : ∃ v : Nat, fs1[28]? = some (.ref v : Value) ∧ isk K L v 88 24 := hl1 28 (by decide)
              refine pg_getN (D := D) (ci := 12) (v := .ref v239) (C := RX12) (T := TX12) (N := 51) hx hb hg inG12 hown hK hP ik1.1 hM_235 rfl 28 (by decide) (hN.use (Cond.fieldLinkNest RX13 370 RX12 "hidden" "[J" RX13) 37 rfl rfl) (fun _ h9 => h9) hv239 dX13_ends_66 ?_
              refine lv_aload_n hx hb dX13_ends_69 rfl (lv_at hl 1 rfl) ?_
              refine pg_getN (D := D) (ci := 12) (v := .ref v26) (C := RX12) (T := TX12) (N := 51) hx hb hg inG12 hown hK hP ik1.1 hM_235 rfl 25 (by decide) (hN.use (Cond.fieldLinkNest RX13 121 RX12 "heir" "[I" RX13) 34 rfl rfl) (fun _ h9 => h9) hv26 dX13_ends_70 ?_
              refine lv_iload_n hx hb dX13_ends_73 rfl (lv_at hl 0 rfl) ?_
              refine pg_iald hx hb hK hP hc26.1 0 hM_237 rfl (inbN v2w6 24 (by omega) (by omega)) dX13_ends_74 ?_
              rw [ec_32]
              refine lv_dup2_11 hx hb dX13_ends_75 rfl rfl ?_
              obtain ⟨f240, hM240⟩ := hW.open_88 hc239
              refine pg_lald hx hb hK hP hc239.1 1 hM240 rfl (inbN c_30 24 (by omega) (by omega)) dX13_ends_76 ?_
              refine lv_topl (fun f_241 ef_241 => ?_)
              refine lv_aload_n hx hb dX13_ends_77 rfl (lv_at hl 1 rfl) ?_
              refine pg_getN (D := D) (ci := 12) (v := .ref v239) (C := RX12) (T := TX12) (N := 51) hx hb hg inG12 hown hK hP ik1.1 hM_235 rfl 28 (by decide) (hN.use (Cond.fieldLinkNest RX13 370 RX12 "hidden" "[J" RX13) 37 rfl rfl) (fun _ h9 => h9) hv239 dX13_ends_78 ?_
              refine lv_iload_n hx hb dX13_ends_81 rfl (lv_at hl 0 rfl) ?_
              refine pg_lald hx hb hK hP hc239.1 1 hM240 rfl (inbN v2w6 24 (by omega) (by omega)) dX13_ends_82 ?_
              refine lv_topl (fun f_242 ef_242 => ?_)
              refine lv_ladd hx hb dX13_ends_83 ?_
              refine lv_topl (fun f_243 ef_243 => ?_)
              refine pg_last hx hb hK hP hD hS hc239.1 1 hM240 rfl (inbN c_30 24 (by omega) (by omega)) dX13_ends_84 (fun H_244 locs hP hD hS => ?_)
              obtain ⟨M_245, eM_245⟩ : ∃ M1 : Hp, M1 = va_up M_233 v239 (.inl (cy 15, 24, .inr (.inl (vp_updL f240 ((nI c_30) : Int32).toNatClampNeg f_243)))) := ⟨_, rfl⟩
              have hV : VW K L M M_245 k1 (fx M k1) (va_up (ax M k1) 23 gw6) := by rw [eM_245]; exact hV.oth hW ik1 hc239 (by decide)
              have hP : va_P D vwCl ([] ++ va_pl L M_245) H_244 := by rw [eM_245]; exact hP
              have hD : va_D A ([] ++ va_pl L M_245) := by rw [eM_245]; exact hD
              have hW : WOM cy K L M_245 := by rw [eM_245]; exact hW.up_88 hc239 ⟨_, rfl⟩
              have hF : fr K L [15, 42, 87, 88, 90, 91] M M_245 := by rw [eM_245]; exact hF.up hc239 (by decide)
              have hG : fG K L [] M M_245 := by rw [eM_245]; exact hG.arr hc239 (by decide)
              have hM_246 : M_245 v239 = .inl (cy 15, 24, .inr (.inl (vp_updL f240 ((nI c_30) : Int32).toNatClampNeg f_243))) := by rw [eM_245]; exact va_up_self _ _ _
              have hM_247 : M_245 v227 = .inl (cy 15, 24, .inr (.inl (f_238))) := by rw [eM_245, va_up_ne _ _ (hc227.neT hc239 (by decide))]; exact hM_234
              have hM_248 : M_245 k1 = .inr (12, fs1) := by rw [eM_245, va_up_ne _ _ (ik1.neT hc239 (by decide))]; exact hM_235
              have hM_249 : M_245 v17 = .inl (cy 14, 24, .inl (f18)) := by rw [eM_245, va_up_ne _ _ (hc17.neT hc239 (by decide))]; exact hM_236
              have hM_250 : M_245 v26 = .inl (cy 14, 24, .inl (f27)) := by rw [eM_245, va_up_ne _ _ (hc26.neT hc239 (by decide))]; exact hM_237
              obtain ⟨f_251, ef_251⟩ : ∃ f : Nat → Int64, f = vp_updL f240 ((nI c_30) : Int32).toNatClampNeg f_243 := ⟨_, rfl⟩
              rw [← ef_251] at hM_246
              refine lv_aload_n hx hb dX13_ends_85 rfl (lv_at hl 1 rfl) ?_
              refine pg_getN (D := D) (ci := 12) (v := .ref v227) (C := RX12) (T := TX12) (N := 51) hx hb hg inG12 hown hK hP ik1.1 hM_248 rfl 27 (by decide) (hN.use (Cond.fieldLinkNest RX13 307 RX12 "credit" "[J" RX13) 36 rfl rfl) (fun _ h9 => h9) hv227 dX13_ends_86 ?_
              refine lv_iload_n hx hb dX13_ends_89 rfl (lv_at hl 0 rfl) ?_
              refine lv_lconst (v := 0) hx hb dX13_ends_90 (by decide) ?_
              refine pg_last hx hb hK hP hD hS hc227.1 1 hM_247 rfl (inbN v2w6 24 (by omega) (by omega)) dX13_ends_91 (fun H_252 locs hP hD hS => ?_)
              obtain ⟨M_253, eM_253⟩ : ∃ M1 : Hp, M1 = va_up M_245 v227 (.inl (cy 15, 24, .inr (.inl (vp_updL f_238 ((nI v2w6) : Int32).toNatClampNeg 0)))) := ⟨_, rfl⟩
              have hV : VW K L M M_253 k1 (fx M k1) (va_up (ax M k1) 23 gw6) := by rw [eM_253]; exact hV.oth hW ik1 hc227 (by decide)
              have hP : va_P D vwCl ([] ++ va_pl L M_253) H_252 := by rw [eM_253]; exact hP
              have hD : va_D A ([] ++ va_pl L M_253) := by rw [eM_253]; exact hD
              have hW : WOM cy K L M_253 := by rw [eM_253]; exact hW.up_87 hc227 ⟨_, rfl⟩
              have hF : fr K L [15, 42, 87, 88, 90, 91] M M_253 := by rw [eM_253]; exact hF.up hc227 (by decide)
              have hG : fG K L [] M M_253 := by rw [eM_253]; exact hG.arr hc227 (by decide)
              have hM_254 : M_253 v227 = .inl (cy 15, 24, .inr (.inl (vp_updL f_238 ((nI v2w6) : Int32).toNatClampNeg 0))) := by rw [eM_253]; exact va_up_self _ _ _
              have hM_255 : M_253 v239 = .inl (cy 15, 24, .inr (.inl (f_251))) := by rw [eM_253, va_up_ne _ _ (hc239.neT hc227 (by decide))]; exact hM_246
              have hM_256 : M_253 k1 = .inr (12, fs1) := by rw [eM_253, va_up_ne _ _ (ik1.neT hc227 (by decide))]; exact hM_248
              have hM_257 : M_253 v17 = .inl (cy 14, 24, .inl (f18)) := by rw [eM_253, va_up_ne _ _ (hc17.neT hc227 (by decide))]; exact hM_249
              have hM_258 : M_253 v26 = .inl (cy 14, 24, .inl (f27)) := by rw [eM_253, va_up_ne _ _ (hc26.neT hc227 (by decide))]; exact hM_250
              obtain ⟨f_259, ef_259⟩ : ∃ f : Nat → Int64, f = vp_updL f_238 ((nI v2w6) : Int32).toNatClampNeg 0 := ⟨_, rfl⟩
              rw [← ef_259] at hM_254
              refine lv_aload_n hx hb dX13_ends_92 rfl (lv_at hl 1 rfl) ?_
              refine pg_getN (D := D) (ci := 12) (v := .ref v239) (C := RX12) (T := TX12) (N := 51) hx hb hg inG12 hown hK hP ik1.1 hM_256 rfl 28 (by decide) (hN.use (Cond.fieldLinkNest RX13 370 RX12 "hidden" "[J" RX13) 37 rfl rfl) (fun _ h9 => h9) hv239 dX13_ends_93 ?_
              refine lv_iload_n hx hb dX13_ends_96 rfl (lv_at hl 0 rfl) ?_
              refine lv_lconst (v := 0) hx hb dX13_ends_97 (by decide) ?_
              refine pg_last hx hb hK hP hD hS hc239.1 1 hM_255 rfl (inbN v2w6 24 (by omega) (by omega)) dX13_ends_98 (fun H_260 locs hP hD hS => ?_)
              obtain ⟨M_261, eM_261⟩ : ∃ M1 : Hp, M1 = va_up M_253 v239 (.inl (cy 15, 24, .inr (.inl (vp_updL f_251 ((nI v2w6) : Int32).toNatClampNeg 0)))) := ⟨_, rfl⟩
              have hV : VW K L M M_261 k1 (fx M k1) (va_up (ax M k1) 23 gw6) := by rw [eM_261]; exact hV.oth hW ik1 hc239 (by decide)
              have hP : va_P D vwCl ([] ++ va_pl L M_261) H_260 := by rw [eM_261]; exact hP
              have hD : va_D A ([] ++ va_pl L M_261) := by rw [eM_261]; exact hD
              have hW : WOM cy K L M_261 := by rw [eM_261]; exact hW.up_88 hc239 ⟨_, rfl⟩
              have hF : fr K L [15, 42, 87, 88, 90, 91] M M_261 := by rw [eM_261]; exact hF.up hc239 (by decide)
              have hG : fG K L [] M M_261 := by rw [eM_261]; exact hG.arr hc239 (by decide)
              have hM_262 : M_261 v239 = .inl (cy 15, 24, .inr (.inl (vp_updL f_251 ((nI v2w6) : Int32).toNatClampNeg 0))) := by rw [eM_261]; exact va_up_self _ _ _
              have hM_263 : M_261 v227 = .inl (cy 15, 24, .inr (.inl (f_259))) := by rw [eM_261, va_up_ne _ _ (hc227.neT hc239 (by decide))]; exact hM_254
              have hM_264 : M_261 k1 = .inr (12, fs1) := by rw [eM_261, va_up_ne _ _ (ik1.neT hc239 (by decide))]; exact hM_256
              have hM_265 : M_261 v17 = .inl (cy 14, 24, .inl (f18)) := by rw [eM_261, va_up_ne _ _ (hc17.neT hc239 (by decide))]; exact hM_257
              have hM_266 : M_261 v26 = .inl (cy 14, 24, .inl (f27)) := by rw [eM_261, va_up_ne _ _ (hc26.neT hc239 (by decide))]; exact hM_258
              obtain ⟨f_267, ef_267⟩ : ∃ f : Nat → Int64, f = vp_updL f_251 ((nI v2w6) : Int32).toNatClampNeg 0 := ⟨_, rfl⟩
              rw [← ef_267] at hM_262
              refine lv_goto (tgt := 212) hx hb dX13_ends_99 (by decide) ?_
              have hI_268 : ((v2w6 : Nat) : Int) < ((v2 : Nat) : Int) := inleI (nI_toInt (by omega)) (nI_toInt (by omega)) c_14
              have hI_269 : (f_19 : Int32).toInt ≠ (-1) := ineI rfl rfl c_20
              have hI_270 : (f_23 : Int32).toInt ≤ (((k2 + 1) : Nat) : Int) := ileI rfl (nI_toInt (by omega)) c_25
              have hins9 : insE (ax M k1) ((k2 : Nat) : Int) v2w6 = ax M k1 23 v2w6 := by unfold insE; by_cases z9 : (ax M k1 22 v2w6).toInt ≠ -1 ∧ (ax M k1 22 v2w6).toInt ≤ ((k2 : Nat) : Int) + 1; all_goals first | (rw [if_neg z9]; done) | (rw [if_pos z9, insC_n]; omega)
              refine lv_iinc (v := (nI (v2w6 + 1))) (lv' := [(2, .int (nI (v2w6 + 1))), (0, .ref k1), (1, .int (nI k2))]) hx hb dX13_ends_212 hl (k := 0) rfl (nI_1 v2w6) (by decide) rfl (fun ls hl => ?_)
              refine lv_goto (tgt := 2) hx hb dX13_ends_215 (by decide) ?_
              exact ih_4 (v2w6 + 1) gw6 M_261 H_260 _ _ (by omega) hM_264 (by omega) (by omega) (insK hx_9 hx_10 hins9) (fun i hi => hx_10 i (by omega)) hW hF hG hV hP hD hS (lv_sub hl [0, 1, 2] rfl)
          · have hz := rfl (a := 0)
            refine lv_goto (tgt := 212) hx hb dX13_ends_32 (by decide) ?_
            have hI_271 : ((v2w6 : Nat) : Int) < ((v2 : Nat) : Int) := inleI (nI_toInt (by omega)) (nI_toInt (by omega)) c_14
            have hI_272 : (f_19 : Int32).toInt ≠ (-1) := ineI rfl rfl c_20
            have hI_273 : (((k2 + 1) : Nat) : Int) < (f_23 : Int32).toInt := inleI rfl (nI_toInt (by omega)) c_25
            have hins9 : insE (ax M k1) ((k2 : Nat) : Int) v2w6 = ax M k1 23 v2w6 := by unfold insE; by_cases z9 : (ax M k1 22 v2w6).toInt ≠ -1 ∧ (ax M k1 22 v2w6).toInt ≤ ((k2 : Nat) : Int) + 1; all_goals first | (rw [if_neg z9]; done) | (rw [if_pos z9, insC_n]; omega)
            refine lv_iinc (v := (nI (v2w6 + 1))) (lv' := [(2, .int (nI (v2w6 + 1))), (0, .ref k1), (1, .int (nI k2))]) hx hb dX13_ends_212 hl (k := 0) rfl (nI_1 v2w6) (by decide) rfl (fun ls hl => ?_)
            refine lv_goto (tgt := 2) hx hb dX13_ends_215 (by decide) ?_
            exact ih_4 (v2w6 + 1) gw6 M_11 H_12 _ _ (by omega) hM_13 (by omega) (by omega) (insK hx_9 hx_10 hins9) (fun i hi => hx_10 i (by omega)) hW hF hG hV hP hD hS (lv_sub hl [0, 1, 2] rfl)
  exact key_3 (24 - 0 + 1) 0 (ax M k1 23) M s.heap _ _ (by omega) hM1 (by omega) (by omega) (fun i h => absurd h (Nat.not_lt_zero _)) (fun _ _ => rfl) hW hF hG (by rw [va_up_id]; exact hV) hP hD hS (lv_sub hl [0, 1, 2] rfl)
set_option maxHeartbeats 4000000 in
set_option maxRecDepth 100000 in
theorem f_isOpen (l : Launch) (D : va_G) (cy : Nat → ClassId) (K : Kp) (L : List Nat) (M : Hp) (sz : Nat) (oa : Nat) (k1 : Nat) (hW : WOM cy K L M) (ia : isk K L oa 12 0) (nk1 : k1 < 1000) : Met l yX12_isOpen (wsM yX12_isOpen cX12_isOpen 2 (some .boolean)) ({ frames := 0, cells := 0, slots := 0, locals := 0 }) (va_Pc [.ref oa, .int (nI k1)] (PG D cy [] L M sz)) (va_Qi (fun (r : Int32) (_ : Unit) => (r = 1 ∧ (opD (ax M oa) k1)) ∨ (r = 0 ∧ ¬ (opD (ax M oa) k1))) (fun _ t => PQ D [] L M (va_A ([] ++ va_pl L M) sz) t) (va_A ([] ++ va_pl L M) sz)) 0 0 (va_A ([] ++ va_pl L M) sz) := by
  refine Met.ofW (cc := cX12_isOpen) (maxL := 2) (ret := (some .boolean)) (by decide) rfl ?_
  intro p e s m args below meth c s₁ B hml hv
  obtain ⟨rfl, hsz, hP, hK, hD0, hN⟩ := hv
  have hx := B.exec
  have hb := B.bytes
  have hr := B.returns
  have hts := atoms_spec (ws := (wsM yX12_isOpen cX12_isOpen 2 (some .boolean))) B.pre
  have hg : ∀ w ∈ lw_good, w.before _ s = true := fun w h => hts w (List.mem_cons_of_mem _ h)
  have hown : s.vm.findClass RX12 = some m.cls := findClass_of_methodNamed B.named
  have hlocks := B.notSynchronized
  subst hsz
  have hD := hD0.self (sz := s.heap.size)
  generalize hAe : va_A ([] ++ va_pl L M) s.heap.size = A at hD ⊢
  have hA : ∀ q : Nat, s.heap.size ≤ q → A q := fun q h => by rw [← hAe]; exact Or.inr h
  have hS : va_S A s.heap s.heap [] := va_S.rf
  have hl := lv_entry ([.ref oa, .int (nI k1)]) (n := 2) (Nat.le_of_ble_eq_true rfl)
  rw [lg_entry_eq]
  generalize (lg_sl ([.ref oa, .int (nI k1)]) ++ List.replicate (2 - (lg_sl ([.ref oa, .int (nI k1)])).length) Slot.unset).toArray = ls at hl ⊢
  refine W.nameQ (fun Q hQ => ?_)
  refine W.nameR (fun R hR => ?_)
  have hRf : 0 ≤ R.frames := by rw [hR]; exact Nat.le_of_ble_eq_true rfl
  have hRl : 0 ≤ R.locals := by rw [hR]; exact Nat.le_of_ble_eq_true rfl
  have hRc : 0 ≤ R.cells := by rw [hR]; exact Nat.le_of_ble_eq_true rfl
  have hRs : 0 ≤ R.slots := by rw [hR]; exact Nat.le_of_ble_eq_true rfl
  have hl : lv_has ls 2 [(0, .ref oa), (1, .int (nI k1))] := hl
  refine lv_aload_n hx hb dX12_isOpen_0 rfl (lv_at hl 0 rfl) ?_
  obtain ⟨fs1, hM1, hn1, hl1⟩ := hW.open_12 ia
  obtain ⟨v2, hv2, hc2⟩ : ∃ v : Nat, fs1[2]? = some (.ref v : Value) ∧ isk K L v 37 1000 := hl1 2 (by decide)
  refine pg_get (D := D) (ci := 12) (v := .ref v2) (C := RX12) (T := TX12) (N := 51) hx hb hg inG12 hown hK hP ia.1 hM1 rfl 2 (by decide) (hg _ wd_703) (fun _ h9 => h9) hv2 dX12_isOpen_1 ?_
  refine lv_iload_n hx hb dX12_isOpen_4 rfl (lv_at hl 1 rfl) ?_
  obtain ⟨f3, hM3, hf3⟩ := hW.open_37 hc2
  have hi_4 : vp_in (nI k1) 1000 := (inbN k1 1000 (by omega) (by omega))
  refine pg_iald hx hb hK hP hc2.1 0 hM3 rfl hi_4 dX12_isOpen_5 ?_
  have hp_5 := hf3 _ (vp_lt hi_4)
  rcases hp_5 with ec_8 | ⟨c_6, hc_7, ec_8⟩
  · rw [ec_8]
    refine lv_iconst (v := (-1)) hx hb dX12_isOpen_6 (by decide) ?_
    refine lv_icmp_eq (tgt := 25) hx hb dX12_isOpen_7 (by decide) (fun _ => ?_) (fun c_9 => absurd c_9 (by decide))
    refine lv_iconst (v := 1) hx hb dX12_isOpen_25 (by decide) ?_
    refine lv_goto (tgt := 30) hx hb dX12_isOpen_26 (by decide) ?_
    have h2e : ax M oa 2 k1 = (-1) := by
      have h9 := ec_8
      rw [nI_cl (by omega)] at h9
      rw [ax_of hM1 (by decide) hv2 hM3]; exact h9
    have h2i : (ax M oa 2 k1).toInt = (-1) := by rw [h2e]; exact rfl
    rw [hQ]
    exact W.zret (v := 1) hx hb hr rfl (fun t ht hW9 => ⟨⟨1, (), rfl, (Or.inl ⟨rfl, by unfold opD; omega⟩), ⟨by rw [ht]; exact hP, hD⟩⟩, hS.F ht⟩) hS.2.2 dX12_isOpen_30
  · rw [ec_8]
    refine lv_iconst (v := (-1)) hx hb dX12_isOpen_6 (by decide) ?_
    refine lv_icmp_eq (tgt := 25) hx hb dX12_isOpen_7 (by decide) (fun c_10 => absurd c_10 (nI_ne_m1 (by omega))) (fun _ => ?_)
    refine lv_aload_n hx hb dX12_isOpen_10 rfl (lv_at hl 0 rfl) ?_
    obtain ⟨v11, hv11, hc11⟩ : ∃ v : Nat, fs1[3]? = some (.ref v : Value) ∧ isk K L v 35 1000 := hl1 3 (by decide)
    refine pg_get (D := D) (ci := 12) (v := .ref v11) (C := RX12) (T := TX12) (N := 51) hx hb hg inG12 hown hK hP ia.1 hM1 rfl 3 (by decide) (hg _ wd_704) (fun _ h9 => h9) hv11 dX12_isOpen_11 ?_
    refine lv_iload_n hx hb dX12_isOpen_14 rfl (lv_at hl 1 rfl) ?_
    obtain ⟨f12, hM12, hf12⟩ := hW.open_35 hc11
    have hi_13 : vp_in (nI k1) 1000 := (inbN k1 1000 (by omega) (by omega))
    refine pg_iald hx hb hK hP hc11.1 0 hM12 rfl hi_13 dX12_isOpen_15 ?_
    have hp_14 := hf12 _ (vp_lt hi_13)
    obtain ⟨c_15, hc_16, ec_17⟩ := hp_14
    rw [ec_17]
    refine lv_aload_n hx hb dX12_isOpen_16 rfl (lv_at hl 0 rfl) ?_
    refine pg_get (D := D) (ci := 12) (v := .ref v2) (C := RX12) (T := TX12) (N := 51) hx hb hg inG12 hown hK hP ia.1 hM1 rfl 2 (by decide) (hg _ wd_703) (fun _ h9 => h9) hv2 dX12_isOpen_17 ?_
    refine lv_iload_n hx hb dX12_isOpen_20 rfl (lv_at hl 1 rfl) ?_
    refine pg_iald hx hb hK hP hc2.1 0 hM3 rfl (inbN k1 1000 (by omega) (by omega)) dX12_isOpen_21 ?_
    rw [ec_8]
    refine lv_icmp_ge (tgt := 29) hx hb dX12_isOpen_22 (by decide) (fun c_18 => ?_) (fun c_18 => ?_)
    · have hz := rfl (a := 0)
      have n_19 : c_6 ≤ c_15 := (iLE (a := c_6) (b := c_15) (by omega) (by omega)).mp c_18
      refine lv_iconst (v := 0) hx hb dX12_isOpen_29 (by decide) ?_
      have hI_20 : ((c_6 : Nat) : Int) ≤ ((c_15 : Nat) : Int) := ileI (nI_toInt (by omega)) (nI_toInt (by omega)) c_18
      have h2e : ax M oa 2 k1 = (nI c_6) := by
        have h9 := ec_8
        rw [nI_cl (by omega)] at h9
        rw [ax_of hM1 (by decide) hv2 hM3]; exact h9
      have h2i : (ax M oa 2 k1).toInt = ((c_6 : Nat) : Int) := by rw [h2e]; exact (nI_toInt (by omega))
      have h3e : ax M oa 3 k1 = (nI c_15) := by
        have h9 := ec_17
        rw [nI_cl (by omega)] at h9
        rw [ax_of hM1 (by decide) hv11 hM12]; exact h9
      have h3i : (ax M oa 3 k1).toInt = ((c_15 : Nat) : Int) := by rw [h3e]; exact (nI_toInt (by omega))
      rw [hQ]
      exact W.zret (v := 0) hx hb hr rfl (fun t ht hW9 => ⟨⟨0, (), rfl, (Or.inr ⟨rfl, by unfold opD; omega⟩), ⟨by rw [ht]; exact hP, hD⟩⟩, hS.F ht⟩) hS.2.2 dX12_isOpen_30
    · have hz := rfl (a := 0)
      have n_21 : ¬ (c_6 ≤ c_15) := fun q => c_18 ((iLE (a := c_6) (b := c_15) (by omega) (by omega)).mpr q)
      refine lv_iconst (v := 1) hx hb dX12_isOpen_25 (by decide) ?_
      refine lv_goto (tgt := 30) hx hb dX12_isOpen_26 (by decide) ?_
      have hI_22 : ((c_15 : Nat) : Int) < ((c_6 : Nat) : Int) := inleI (nI_toInt (by omega)) (nI_toInt (by omega)) c_18
      have h2e : ax M oa 2 k1 = (nI c_6) := by
        have h9 := ec_8
        rw [nI_cl (by omega)] at h9
        rw [ax_of hM1 (by decide) hv2 hM3]; exact h9
      have h2i : (ax M oa 2 k1).toInt = ((c_6 : Nat) : Int) := by rw [h2e]; exact (nI_toInt (by omega))
      have h3e : ax M oa 3 k1 = (nI c_15) := by
        have h9 := ec_17
        rw [nI_cl (by omega)] at h9
        rw [ax_of hM1 (by decide) hv11 hM12]; exact h9
      have h3i : (ax M oa 3 k1).toInt = ((c_15 : Nat) : Int) := by rw [h3e]; exact (nI_toInt (by omega))
      rw [hQ]
      exact W.zret (v := 1) hx hb hr rfl (fun t ht hW9 => ⟨⟨1, (), rfl, (Or.inl ⟨rfl, by unfold opD; omega⟩), ⟨by rw [ht]; exact hP, hD⟩⟩, hS.F ht⟩) hS.2.2 dX12_isOpen_30
set_option maxHeartbeats 4000000 in
set_option maxRecDepth 100000 in
theorem z_unlike (l : Launch) (D : va_G) (cy : Nat → ClassId) (K : Kp) (L : List Nat) (M : Hp) (sz : Nat) (oa : Nat) (k1 : Nat) (hW : WOM cy K L M) (ia : isk K L oa 12 0) (nk1 : k1 < 16) (g1 : 1 ≤ k1) : Met l yX12_isUnlike (wsM yX12_isUnlike cX12_isUnlike 4 (some .boolean)) ({ frames := 0, cells := 0, slots := 0, locals := 0 }) (va_Pc [.ref oa, .int (nI k1)] (PG D cy [] L M sz)) (va_Qi (fun (r : Int32) (_ : Unit) => (r = 1 ∧ (unl (ax M oa) k1)) ∨ (r = 0 ∧ ¬ (unl (ax M oa) k1))) (fun _ t => PQ D [] L M (va_A ([] ++ va_pl L M) sz) t) (va_A ([] ++ va_pl L M) sz)) 0 0 (va_A ([] ++ va_pl L M) sz) := by
  refine Met.ofW (cc := cX12_isUnlike) (maxL := 4) (ret := (some .boolean)) (by decide) rfl ?_
  intro p e s m args below meth c s₁ B hml hv
  obtain ⟨rfl, hsz, hP, hK, hD0, hN⟩ := hv
  have hx := B.exec
  have hb := B.bytes
  have hr := B.returns
  have hts := atoms_spec (ws := (wsM yX12_isUnlike cX12_isUnlike 4 (some .boolean))) B.pre
  have hg : ∀ w ∈ lw_good, w.before _ s = true := fun w h => hts w (List.mem_cons_of_mem _ h)
  have hown : s.vm.findClass RX12 = some m.cls := findClass_of_methodNamed B.named
  have hlocks := B.notSynchronized
  subst hsz
  have hD := hD0.self (sz := s.heap.size)
  generalize hAe : va_A ([] ++ va_pl L M) s.heap.size = A at hD ⊢
  have hA : ∀ q : Nat, s.heap.size ≤ q → A q := fun q h => by rw [← hAe]; exact Or.inr h
  have hS : va_S A s.heap s.heap [] := va_S.rf
  have hl := lv_entry ([.ref oa, .int (nI k1)]) (n := 4) (Nat.le_of_ble_eq_true rfl)
  rw [lg_entry_eq]
  generalize (lg_sl ([.ref oa, .int (nI k1)]) ++ List.replicate (4 - (lg_sl ([.ref oa, .int (nI k1)])).length) Slot.unset).toArray = ls at hl ⊢
  refine W.nameQ (fun Q hQ => ?_)
  refine W.nameR (fun R hR => ?_)
  have hRf : 0 ≤ R.frames := by rw [hR]; exact Nat.le_of_ble_eq_true rfl
  have hRl : 0 ≤ R.locals := by rw [hR]; exact Nat.le_of_ble_eq_true rfl
  have hRc : 0 ≤ R.cells := by rw [hR]; exact Nat.le_of_ble_eq_true rfl
  have hRs : 0 ≤ R.slots := by rw [hR]; exact Nat.le_of_ble_eq_true rfl
  have hl : lv_has ls 4 [(0, .ref oa), (1, .int (nI k1))] := hl
  refine lv_aload_n hx hb dX12_isUnlike_0 rfl (lv_at hl 0 rfl) ?_
  obtain ⟨fs1, hM1, hn1, hl1⟩ := hW.open_12 ia
  obtain ⟨v2, hv2, hc2⟩ : ∃ v : Nat, fs1[35]? = some (.ref v : Value) ∧ isk K L v 77 16 := hl1 35 (by decide)
  refine pg_get (D := D) (ci := 12) (v := .ref v2) (C := RX12) (T := TX12) (N := 51) hx hb hg inG12 hown hK hP ia.1 hM1 rfl 35 (by decide) (hg _ wd_709) (fun _ h9 => h9) hv2 dX12_isUnlike_1 ?_
  refine lv_iload_n hx hb dX12_isUnlike_4 rfl (lv_at hl 1 rfl) ?_
  obtain ⟨f3, hM3⟩ := hW.open_77 hc2
  refine pg_iald hx hb hK hP hc2.1 0 hM3 rfl (inbN k1 16 (by omega) (by omega)) dX12_isUnlike_5 ?_
  refine lv_topi (fun f_4 ef_4 => ?_)
  have hr35e : ax M oa 35 k1 = f_4 := by
    have h9 := ef_4.symm
    rw [nI_cl (by omega)] at h9
    rw [ax_of hM1 (by decide) hv2 hM3]; exact h9
  refine lv_aload_n hx hb dX12_isUnlike_6 rfl (lv_at hl 0 rfl) ?_
  refine pg_get (D := D) (ci := 12) (v := .ref v2) (C := RX12) (T := TX12) (N := 51) hx hb hg inG12 hown hK hP ia.1 hM1 rfl 35 (by decide) (hg _ wd_709) (fun _ h9 => h9) hv2 dX12_isUnlike_7 ?_
  refine lv_iload_n hx hb dX12_isUnlike_10 rfl (lv_at hl 1 rfl) ?_
  refine lv_iconst (v := 1) hx hb dX12_isUnlike_11 (by decide) ?_
  refine lv_isub hx hb dX12_isUnlike_12 ?_
  refine lv_topi (fun f_5 ef_5 => ?_)
  obtain rfl : f_5 = (nI (k1 - 1)) := ef_5.trans (nI_prd (by omega))
  refine pg_iald hx hb hK hP hc2.1 0 hM3 rfl (inbN (k1 - 1) 16 (by omega) (by omega)) dX12_isUnlike_13 ?_
  refine lv_topi (fun f_6 ef_6 => ?_)
  have hs35e : ax M oa 35 (k1 - 1) = f_6 := by
    have h9 := ef_6.symm
    rw [nI_cl (by omega)] at h9
    rw [ax_of hM1 (by decide) hv2 hM3]; exact h9
  refine lv_icmp_eq (tgt := 21) hx hb dX12_isUnlike_14 (by decide) (fun c_7 => ?_) (fun c_7 => ?_)
  · have hz := rfl (a := 0)
    refine lv_iconst (v := 0) hx hb dX12_isUnlike_21 (by decide) ?_
    refine lv_istore_n (lv' := [(2, .int 0), (0, .ref oa), (1, .int (nI k1))]) hx hb dX12_isUnlike_22 rfl hl (by decide) rfl (fun ls hl => ?_)
    refine lv_iconst (v := 0) hx hb dX12_isUnlike_23 (by decide) ?_
    refine lv_istore_n (lv' := [(3, .int 0), (2, .int 0), (0, .ref oa), (1, .int (nI k1))]) hx hb dX12_isUnlike_24 rfl hl (by decide) rfl (fun ls hl => ?_)
    have key_8 : ∀ (fu_10 : Nat) (v2w11 : Int32) (v3w11 : Nat) (H_15 : Heap) (locs : List Loc) (ls : Array Slot), 24 - v3w11 < fu_10 → (v2w11 = 0 ∨ v2w11 = 1) → v3w11 ≤ 24 → (v2w11 = 1 ↔ unp (ax M oa) k1 v3w11) → WOM cy K L M → va_P D vwCl ([] ++ va_pl L M) H_15 → va_D A ([] ++ va_pl L M) → va_S A s.heap H_15 locs → lv_has ls 4 [(3, .int (nI v3w11)), (2, .int v2w11), (0, .ref oa), (1, .int (nI k1))] → W p l e R s m ([.ref oa, .int (nI k1)] : List Value).toArray below meth c H_15 locs 0 0 Q (F0 m 25 ls []) := by
      intro fu_10
      induction fu_10 with
      | zero => intro v2w11 v3w11 H_15 locs ls h; exact absurd h (Nat.not_lt_zero _)
      | succ fu_10 ih_9 =>
        intro v2w11 v3w11 H_15 locs ls hfu hq_12 hx_13 hx_14 hW hP hD hS hl
        rcases hq_12 with rfl | rfl
        · have hz := rfl (a := 0)
          refine lv_iload_n hx hb dX12_isUnlike_25 rfl (lv_at hl 0 rfl) ?_
          refine lv_bipush (v := 24) hx hb dX12_isUnlike_26 (by decide) ?_
          refine lv_icmp_ge (tgt := 74) hx hb dX12_isUnlike_28 (by decide) (fun c_16 => ?_) (fun c_16 => ?_)
          · have hz := rfl (a := 0)
            have n_17 : 24 ≤ v3w11 := (iLE (a := 24) (b := v3w11) (by omega) (by omega)).mp c_16
            refine lv_iload_n hx hb dX12_isUnlike_74 rfl (lv_at hl 1 rfl) ?_
            rw [hQ]
            exact W.zret (v := 0) hx hb hr rfl (fun t ht hW9 => ⟨⟨0, (), rfl, (Or.inr ⟨rfl, fun q => absurd (hx_14.mpr (by have q : unp (ax M oa) k1 24 := q; rw [show 24 = v3w11 from by omega] at q; exact q)) (by decide)⟩), ⟨by rw [ht]; exact hP, hD⟩⟩, hS.F ht⟩) hS.2.2 dX12_isUnlike_75
          · have hz := rfl (a := 0)
            have n_18 : ¬ (24 ≤ v3w11) := fun q => c_16 ((iLE (a := 24) (b := v3w11) (by omega) (by omega)).mpr q)
            refine lv_iload_n hx hb dX12_isUnlike_31 rfl (lv_at hl 1 rfl) ?_
            refine lv_if_ne (tgt := 62) hx hb dX12_isUnlike_32 (by decide) (fun c_19 => absurd c_19 (by decide)) (fun _ => ?_)
            refine lv_aload_n hx hb dX12_isUnlike_35 rfl (lv_at hl 2 rfl) ?_
            obtain ⟨v20, hv20, hc20⟩ : ∃ v : Nat, fs1[36]? = some (.ref v : Value) ∧ isk K L v 78 384 := hl1 36 (by decide)
            refine pg_get (D := D) (ci := 12) (v := .ref v20) (C := RX12) (T := TX12) (N := 51) hx hb hg inG12 hown hK hP ia.1 hM1 rfl 36 (by decide) (hg _ wd_705) (fun _ h9 => h9) hv20 dX12_isUnlike_36 ?_
            refine lv_bipush (v := 24) hx hb dX12_isUnlike_39 (by decide) ?_
            refine lv_iload_n hx hb dX12_isUnlike_41 rfl (lv_at hl 3 rfl) ?_
            refine lv_imul hx hb dX12_isUnlike_42 ?_
            refine lv_topi (fun f_21 ef_21 => ?_)
            obtain rfl : f_21 = (nI (24 * k1)) := ef_21.trans (nI_mul 24 k1)
            refine lv_iload_n hx hb dX12_isUnlike_43 rfl (lv_at hl 0 rfl) ?_
            refine lv_iadd hx hb dX12_isUnlike_44 ?_
            refine lv_topi (fun f_22 ef_22 => ?_)
            obtain rfl : f_22 = (nI ((24 * k1) + v3w11)) := ef_22.trans (nI_add (24 * k1) v3w11)
            obtain ⟨f23, hM23⟩ := hW.open_78 hc20
            refine pg_iald hx hb hK hP hc20.1 0 hM23 rfl (inbN ((24 * k1) + v3w11) 384 (by omega) (by omega)) dX12_isUnlike_45 ?_
            refine lv_topi (fun f_24 ef_24 => ?_)
            have hr36e : ax M oa 36 (24 * k1 + v3w11) = f_24 := by
              have h9 := ef_24.symm
              rw [nI_cl (by omega)] at h9
              rw [ax_of hM1 (by decide) hv20 hM23]; exact h9
            refine lv_aload_n hx hb dX12_isUnlike_46 rfl (lv_at hl 2 rfl) ?_
            refine pg_get (D := D) (ci := 12) (v := .ref v20) (C := RX12) (T := TX12) (N := 51) hx hb hg inG12 hown hK hP ia.1 hM1 rfl 36 (by decide) (hg _ wd_705) (fun _ h9 => h9) hv20 dX12_isUnlike_47 ?_
            refine lv_bipush (v := 24) hx hb dX12_isUnlike_50 (by decide) ?_
            refine lv_iload_n hx hb dX12_isUnlike_52 rfl (lv_at hl 3 rfl) ?_
            refine lv_iconst (v := 1) hx hb dX12_isUnlike_53 (by decide) ?_
            refine lv_isub hx hb dX12_isUnlike_54 ?_
            refine lv_topi (fun f_25 ef_25 => ?_)
            obtain rfl : f_25 = (nI (k1 - 1)) := ef_25.trans (nI_prd (by omega))
            refine lv_imul hx hb dX12_isUnlike_55 ?_
            refine lv_topi (fun f_26 ef_26 => ?_)
            obtain rfl : f_26 = (nI (24 * (k1 - 1))) := ef_26.trans (nI_mul 24 (k1 - 1))
            refine lv_iload_n hx hb dX12_isUnlike_56 rfl (lv_at hl 0 rfl) ?_
            refine lv_iadd hx hb dX12_isUnlike_57 ?_
            refine lv_topi (fun f_27 ef_27 => ?_)
            obtain rfl : f_27 = (nI ((24 * (k1 - 1)) + v3w11)) := ef_27.trans (nI_add (24 * (k1 - 1)) v3w11)
            refine pg_iald hx hb hK hP hc20.1 0 hM23 rfl (inbN ((24 * (k1 - 1)) + v3w11) 384 (by omega) (by omega)) dX12_isUnlike_58 ?_
            refine lv_topi (fun f_28 ef_28 => ?_)
            have hs36e : ax M oa 36 (24 * (k1 - 1) + v3w11) = f_28 := by
              have h9 := ef_28.symm
              rw [nI_cl (by omega)] at h9
              rw [ax_of hM1 (by decide) hv20 hM23]; exact h9
            refine lv_icmp_eq (tgt := 66) hx hb dX12_isUnlike_59 (by decide) (fun c_29 => ?_) (fun c_29 => ?_)
            · have hz := rfl (a := 0)
              refine lv_iconst (v := 0) hx hb dX12_isUnlike_66 (by decide) ?_
              refine lv_istore_n (lv' := [(2, .int 0), (3, .int (nI v3w11)), (0, .ref oa), (1, .int (nI k1))]) hx hb dX12_isUnlike_67 rfl hl (by decide) rfl (fun ls hl => ?_)
              refine lv_iinc (v := (nI (v3w11 + 1))) (lv' := [(3, .int (nI (v3w11 + 1))), (2, .int 0), (0, .ref oa), (1, .int (nI k1))]) hx hb dX12_isUnlike_68 hl (k := 1) rfl (nI_1 v3w11) (by decide) rfl (fun ls hl => ?_)
              refine lv_goto (tgt := 25) hx hb dX12_isUnlike_71 (by decide) ?_
              exact ih_9 0 (v3w11 + 1) H_15 _ _ (by omega) (Or.inl rfl) (by omega) (flN hx_14 (fun q => (unp_1.mp q).resolve_right (fun w => w (by rw [hr36e, hs36e]; exact c_29)))) hW hP hD hS (lv_sub hl [0, 1, 2, 3] rfl)
            · have hz := rfl (a := 0)
              refine lv_iconst (v := 1) hx hb dX12_isUnlike_62 (by decide) ?_
              refine lv_goto (tgt := 67) hx hb dX12_isUnlike_63 (by decide) ?_
              refine lv_istore_n (lv' := [(2, .int 1), (3, .int (nI v3w11)), (0, .ref oa), (1, .int (nI k1))]) hx hb dX12_isUnlike_67 rfl hl (by decide) rfl (fun ls hl => ?_)
              refine lv_iinc (v := (nI (v3w11 + 1))) (lv' := [(3, .int (nI (v3w11 + 1))), (2, .int 1), (0, .ref oa), (1, .int (nI k1))]) hx hb dX12_isUnlike_68 hl (k := 1) rfl (nI_1 v3w11) (by decide) rfl (fun ls hl => ?_)
              refine lv_goto (tgt := 25) hx hb dX12_isUnlike_71 (by decide) ?_
              exact ih_9 1 (v3w11 + 1) H_15 _ _ (by omega) (Or.inr rfl) (by omega) (flS (unp_1.mpr (Or.inr (by rw [hr36e, hs36e]; exact c_29)))) hW hP hD hS (lv_sub hl [0, 1, 2, 3] rfl)
        · have hz := rfl (a := 0)
          refine lv_iload_n hx hb dX12_isUnlike_25 rfl (lv_at hl 0 rfl) ?_
          refine lv_bipush (v := 24) hx hb dX12_isUnlike_26 (by decide) ?_
          refine lv_icmp_ge (tgt := 74) hx hb dX12_isUnlike_28 (by decide) (fun c_30 => ?_) (fun c_30 => ?_)
          · have hz := rfl (a := 0)
            have n_31 : 24 ≤ v3w11 := (iLE (a := 24) (b := v3w11) (by omega) (by omega)).mp c_30
            refine lv_iload_n hx hb dX12_isUnlike_74 rfl (lv_at hl 1 rfl) ?_
            rw [hQ]
            exact W.zret (v := 1) hx hb hr rfl (fun t ht hW9 => ⟨⟨1, (), rfl, (Or.inl ⟨rfl, by show unp (ax M oa) k1 24; rw [show 24 = v3w11 from by omega]; exact hx_14.mp rfl⟩), ⟨by rw [ht]; exact hP, hD⟩⟩, hS.F ht⟩) hS.2.2 dX12_isUnlike_75
          · have hz := rfl (a := 0)
            have n_32 : ¬ (24 ≤ v3w11) := fun q => c_30 ((iLE (a := 24) (b := v3w11) (by omega) (by omega)).mpr q)
            refine lv_iload_n hx hb dX12_isUnlike_31 rfl (lv_at hl 1 rfl) ?_
            refine lv_if_ne (tgt := 62) hx hb dX12_isUnlike_32 (by decide) (fun _ => ?_) (fun c_33 => absurd c_33 (by decide))
            refine lv_iconst (v := 1) hx hb dX12_isUnlike_62 (by decide) ?_
            refine lv_goto (tgt := 67) hx hb dX12_isUnlike_63 (by decide) ?_
            refine lv_istore_n (lv' := [(2, .int 1), (3, .int (nI v3w11)), (0, .ref oa), (1, .int (nI k1))]) hx hb dX12_isUnlike_67 rfl hl (by decide) rfl (fun ls hl => ?_)
            refine lv_iinc (v := (nI (v3w11 + 1))) (lv' := [(3, .int (nI (v3w11 + 1))), (2, .int 1), (0, .ref oa), (1, .int (nI k1))]) hx hb dX12_isUnlike_68 hl (k := 1) rfl (nI_1 v3w11) (by decide) rfl (fun ls hl => ?_)
            refine lv_goto (tgt := 25) hx hb dX12_isUnlike_71 (by decide) ?_
            exact ih_9 1 (v3w11 + 1) H_15 _ _ (by omega) (Or.inr rfl) (by omega) (flY hx_14 (fun q => unp_1.mpr (Or.inl q))) hW hP hD hS (lv_sub hl [0, 1, 2, 3] rfl)
    exact key_8 (24 - 0 + 1) 0 0 s.heap _ _ (by omega) (Or.inl rfl) (by omega) (unp_n (by rw [hr35e, hs35e]; exact c_7)) hW hP hD hS (lv_sub hl [0, 1, 2, 3] rfl)
  · have hz := rfl (a := 0)
    refine lv_iconst (v := 1) hx hb dX12_isUnlike_17 (by decide) ?_
    refine lv_goto (tgt := 22) hx hb dX12_isUnlike_18 (by decide) ?_
    refine lv_istore_n (lv' := [(2, .int 1), (0, .ref oa), (1, .int (nI k1))]) hx hb dX12_isUnlike_22 rfl hl (by decide) rfl (fun ls hl => ?_)
    refine lv_iconst (v := 0) hx hb dX12_isUnlike_23 (by decide) ?_
    refine lv_istore_n (lv' := [(3, .int 0), (2, .int 1), (0, .ref oa), (1, .int (nI k1))]) hx hb dX12_isUnlike_24 rfl hl (by decide) rfl (fun ls hl => ?_)
    have key_34 : ∀ (fu_36 : Nat) (v2w37 : Int32) (v3w37 : Nat) (H_41 : Heap) (locs : List Loc) (ls : Array Slot), 24 - v3w37 < fu_36 → (v2w37 = 0 ∨ v2w37 = 1) → v3w37 ≤ 24 → (v2w37 = 1 ↔ unp (ax M oa) k1 v3w37) → WOM cy K L M → va_P D vwCl ([] ++ va_pl L M) H_41 → va_D A ([] ++ va_pl L M) → va_S A s.heap H_41 locs → lv_has ls 4 [(3, .int (nI v3w37)), (2, .int v2w37), (0, .ref oa), (1, .int (nI k1))] → W p l e R s m ([.ref oa, .int (nI k1)] : List Value).toArray below meth c H_41 locs 0 0 Q (F0 m 25 ls []) := by
      intro fu_36
      induction fu_36 with
      | zero => intro v2w37 v3w37 H_41 locs ls h; exact absurd h (Nat.not_lt_zero _)
      | succ fu_36 ih_35 =>
        intro v2w37 v3w37 H_41 locs ls hfu hq_38 hx_39 hx_40 hW hP hD hS hl
        rcases hq_38 with rfl | rfl
        · have hz := rfl (a := 0)
          refine lv_iload_n hx hb dX12_isUnlike_25 rfl (lv_at hl 0 rfl) ?_
          refine lv_bipush (v := 24) hx hb dX12_isUnlike_26 (by decide) ?_
          refine lv_icmp_ge (tgt := 74) hx hb dX12_isUnlike_28 (by decide) (fun c_42 => ?_) (fun c_42 => ?_)
          · have hz := rfl (a := 0)
            have n_43 : 24 ≤ v3w37 := (iLE (a := 24) (b := v3w37) (by omega) (by omega)).mp c_42
            refine lv_iload_n hx hb dX12_isUnlike_74 rfl (lv_at hl 1 rfl) ?_
            rw [hQ]
            exact W.zret (v := 0) hx hb hr rfl (fun t ht hW9 => ⟨⟨0, (), rfl, (Or.inr ⟨rfl, fun q => absurd (hx_40.mpr (by have q : unp (ax M oa) k1 24 := q; rw [show 24 = v3w37 from by omega] at q; exact q)) (by decide)⟩), ⟨by rw [ht]; exact hP, hD⟩⟩, hS.F ht⟩) hS.2.2 dX12_isUnlike_75
          · have hz := rfl (a := 0)
            have n_44 : ¬ (24 ≤ v3w37) := fun q => c_42 ((iLE (a := 24) (b := v3w37) (by omega) (by omega)).mpr q)
            refine lv_iload_n hx hb dX12_isUnlike_31 rfl (lv_at hl 1 rfl) ?_
            refine lv_if_ne (tgt := 62) hx hb dX12_isUnlike_32 (by decide) (fun c_45 => absurd c_45 (by decide)) (fun _ => ?_)
            refine lv_aload_n hx hb dX12_isUnlike_35 rfl (lv_at hl 2 rfl) ?_
            obtain ⟨v46, hv46, hc46⟩ : ∃ v : Nat, fs1[36]? = some (.ref v : Value) ∧ isk K L v 78 384 := hl1 36 (by decide)
            refine pg_get (D := D) (ci := 12) (v := .ref v46) (C := RX12) (T := TX12) (N := 51) hx hb hg inG12 hown hK hP ia.1 hM1 rfl 36 (by decide) (hg _ wd_705) (fun _ h9 => h9) hv46 dX12_isUnlike_36 ?_
            refine lv_bipush (v := 24) hx hb dX12_isUnlike_39 (by decide) ?_
            refine lv_iload_n hx hb dX12_isUnlike_41 rfl (lv_at hl 3 rfl) ?_
            refine lv_imul hx hb dX12_isUnlike_42 ?_
            refine lv_topi (fun f_47 ef_47 => ?_)
            obtain rfl : f_47 = (nI (24 * k1)) := ef_47.trans (nI_mul 24 k1)
            refine lv_iload_n hx hb dX12_isUnlike_43 rfl (lv_at hl 0 rfl) ?_
            refine lv_iadd hx hb dX12_isUnlike_44 ?_
            refine lv_topi (fun f_48 ef_48 => ?_)
            obtain rfl : f_48 = (nI ((24 * k1) + v3w37)) := ef_48.trans (nI_add (24 * k1) v3w37)
            obtain ⟨f49, hM49⟩ := hW.open_78 hc46
            refine pg_iald hx hb hK hP hc46.1 0 hM49 rfl (inbN ((24 * k1) + v3w37) 384 (by omega) (by omega)) dX12_isUnlike_45 ?_
            refine lv_topi (fun f_50 ef_50 => ?_)
            have hr36e : ax M oa 36 (24 * k1 + v3w37) = f_50 := by
              have h9 := ef_50.symm
              rw [nI_cl (by omega)] at h9
              rw [ax_of hM1 (by decide) hv46 hM49]; exact h9
            refine lv_aload_n hx hb dX12_isUnlike_46 rfl (lv_at hl 2 rfl) ?_
            refine pg_get (D := D) (ci := 12) (v := .ref v46) (C := RX12) (T := TX12) (N := 51) hx hb hg inG12 hown hK hP ia.1 hM1 rfl 36 (by decide) (hg _ wd_705) (fun _ h9 => h9) hv46 dX12_isUnlike_47 ?_
            refine lv_bipush (v := 24) hx hb dX12_isUnlike_50 (by decide) ?_
            refine lv_iload_n hx hb dX12_isUnlike_52 rfl (lv_at hl 3 rfl) ?_
            refine lv_iconst (v := 1) hx hb dX12_isUnlike_53 (by decide) ?_
            refine lv_isub hx hb dX12_isUnlike_54 ?_
            refine lv_topi (fun f_51 ef_51 => ?_)
            obtain rfl : f_51 = (nI (k1 - 1)) := ef_51.trans (nI_prd (by omega))
            refine lv_imul hx hb dX12_isUnlike_55 ?_
            refine lv_topi (fun f_52 ef_52 => ?_)
            obtain rfl : f_52 = (nI (24 * (k1 - 1))) := ef_52.trans (nI_mul 24 (k1 - 1))
            refine lv_iload_n hx hb dX12_isUnlike_56 rfl (lv_at hl 0 rfl) ?_
            refine lv_iadd hx hb dX12_isUnlike_57 ?_
            refine lv_topi (fun f_53 ef_53 => ?_)
            obtain rfl : f_53 = (nI ((24 * (k1 - 1)) + v3w37)) := ef_53.trans (nI_add (24 * (k1 - 1)) v3w37)
            refine pg_iald hx hb hK hP hc46.1 0 hM49 rfl (inbN ((24 * (k1 - 1)) + v3w37) 384 (by omega) (by omega)) dX12_isUnlike_58 ?_
            refine lv_topi (fun f_54 ef_54 => ?_)
            have hs36e : ax M oa 36 (24 * (k1 - 1) + v3w37) = f_54 := by
              have h9 := ef_54.symm
              rw [nI_cl (by omega)] at h9
              rw [ax_of hM1 (by decide) hv46 hM49]; exact h9
            refine lv_icmp_eq (tgt := 66) hx hb dX12_isUnlike_59 (by decide) (fun c_55 => ?_) (fun c_55 => ?_)
            · have hz := rfl (a := 0)
              refine lv_iconst (v := 0) hx hb dX12_isUnlike_66 (by decide) ?_
              refine lv_istore_n (lv' := [(2, .int 0), (3, .int (nI v3w37)), (0, .ref oa), (1, .int (nI k1))]) hx hb dX12_isUnlike_67 rfl hl (by decide) rfl (fun ls hl => ?_)
              refine lv_iinc (v := (nI (v3w37 + 1))) (lv' := [(3, .int (nI (v3w37 + 1))), (2, .int 0), (0, .ref oa), (1, .int (nI k1))]) hx hb dX12_isUnlike_68 hl (k := 1) rfl (nI_1 v3w37) (by decide) rfl (fun ls hl => ?_)
              refine lv_goto (tgt := 25) hx hb dX12_isUnlike_71 (by decide) ?_
              exact ih_35 0 (v3w37 + 1) H_41 _ _ (by omega) (Or.inl rfl) (by omega) (flN hx_40 (fun q => (unp_1.mp q).resolve_right (fun w => w (by rw [hr36e, hs36e]; exact c_55)))) hW hP hD hS (lv_sub hl [0, 1, 2, 3] rfl)
            · have hz := rfl (a := 0)
              refine lv_iconst (v := 1) hx hb dX12_isUnlike_62 (by decide) ?_
              refine lv_goto (tgt := 67) hx hb dX12_isUnlike_63 (by decide) ?_
              refine lv_istore_n (lv' := [(2, .int 1), (3, .int (nI v3w37)), (0, .ref oa), (1, .int (nI k1))]) hx hb dX12_isUnlike_67 rfl hl (by decide) rfl (fun ls hl => ?_)
              refine lv_iinc (v := (nI (v3w37 + 1))) (lv' := [(3, .int (nI (v3w37 + 1))), (2, .int 1), (0, .ref oa), (1, .int (nI k1))]) hx hb dX12_isUnlike_68 hl (k := 1) rfl (nI_1 v3w37) (by decide) rfl (fun ls hl => ?_)
              refine lv_goto (tgt := 25) hx hb dX12_isUnlike_71 (by decide) ?_
              exact ih_35 1 (v3w37 + 1) H_41 _ _ (by omega) (Or.inr rfl) (by omega) (flS (unp_1.mpr (Or.inr (by rw [hr36e, hs36e]; exact c_55)))) hW hP hD hS (lv_sub hl [0, 1, 2, 3] rfl)
        · have hz := rfl (a := 0)
          refine lv_iload_n hx hb dX12_isUnlike_25 rfl (lv_at hl 0 rfl) ?_
          refine lv_bipush (v := 24) hx hb dX12_isUnlike_26 (by decide) ?_
          refine lv_icmp_ge (tgt := 74) hx hb dX12_isUnlike_28 (by decide) (fun c_56 => ?_) (fun c_56 => ?_)
          · have hz := rfl (a := 0)
            have n_57 : 24 ≤ v3w37 := (iLE (a := 24) (b := v3w37) (by omega) (by omega)).mp c_56
            refine lv_iload_n hx hb dX12_isUnlike_74 rfl (lv_at hl 1 rfl) ?_
            rw [hQ]
            exact W.zret (v := 1) hx hb hr rfl (fun t ht hW9 => ⟨⟨1, (), rfl, (Or.inl ⟨rfl, by show unp (ax M oa) k1 24; rw [show 24 = v3w37 from by omega]; exact hx_40.mp rfl⟩), ⟨by rw [ht]; exact hP, hD⟩⟩, hS.F ht⟩) hS.2.2 dX12_isUnlike_75
          · have hz := rfl (a := 0)
            have n_58 : ¬ (24 ≤ v3w37) := fun q => c_56 ((iLE (a := 24) (b := v3w37) (by omega) (by omega)).mpr q)
            refine lv_iload_n hx hb dX12_isUnlike_31 rfl (lv_at hl 1 rfl) ?_
            refine lv_if_ne (tgt := 62) hx hb dX12_isUnlike_32 (by decide) (fun _ => ?_) (fun c_59 => absurd c_59 (by decide))
            refine lv_iconst (v := 1) hx hb dX12_isUnlike_62 (by decide) ?_
            refine lv_goto (tgt := 67) hx hb dX12_isUnlike_63 (by decide) ?_
            refine lv_istore_n (lv' := [(2, .int 1), (3, .int (nI v3w37)), (0, .ref oa), (1, .int (nI k1))]) hx hb dX12_isUnlike_67 rfl hl (by decide) rfl (fun ls hl => ?_)
            refine lv_iinc (v := (nI (v3w37 + 1))) (lv' := [(3, .int (nI (v3w37 + 1))), (2, .int 1), (0, .ref oa), (1, .int (nI k1))]) hx hb dX12_isUnlike_68 hl (k := 1) rfl (nI_1 v3w37) (by decide) rfl (fun ls hl => ?_)
            refine lv_goto (tgt := 25) hx hb dX12_isUnlike_71 (by decide) ?_
            exact ih_35 1 (v3w37 + 1) H_41 _ _ (by omega) (Or.inr rfl) (by omega) (flY hx_40 (fun q => unp_1.mpr (Or.inl q))) hW hP hD hS (lv_sub hl [0, 1, 2, 3] rfl)
    exact key_34 (24 - 0 + 1) 1 0 s.heap _ _ (by omega) (Or.inr rfl) (by omega) (unp_y (by rw [hr35e, hs35e]; exact c_7)) hW hP hD hS (lv_sub hl [0, 1, 2, 3] rfl)
set_option maxHeartbeats 4000000 in
set_option maxRecDepth 100000 in
theorem z_parted (l : Launch) (D : va_G) (cy : Nat → ClassId) (K : Kp) (L : List Nat) (M : Hp) (sz : Nat) (k1 : Nat) (k2 : Int32) (hW : WOM cy K L M) (ik1 : isk K L k1 12 0) : Met l yX13_isParted (wsM yX13_isParted cX13_isParted 4 (some .boolean)) ({ frames := 1, cells := 0, slots := 0, locals := 23 }) (va_Pc [.ref k1, .int k2] (PG D cy [] L M sz)) (va_Qi (fun (r : Int32) (_ : Unit) => (r = 1 ∧ (prt (fx M k1) (ax M k1) k2.toInt)) ∨ (r = 0 ∧ ¬ (prt (fx M k1) (ax M k1) k2.toInt))) (fun _ t => PQ D [] L M (va_A ([] ++ va_pl L M) sz) t) (va_A ([] ++ va_pl L M) sz)) 0 0 (va_A ([] ++ va_pl L M) sz) := by
  refine Met.ofW (cc := cX13_isParted) (maxL := 4) (ret := (some .boolean)) (by decide) rfl ?_
  intro p e s m args below meth c s₁ B hml hv
  obtain ⟨rfl, hsz, hP, hK, hD0, hN⟩ := hv
  have hx := B.exec
  have hb := B.bytes
  have hr := B.returns
  have hts := atoms_spec (ws := (wsM yX13_isParted cX13_isParted 4 (some .boolean))) B.pre
  have hg : ∀ w ∈ lw_good, w.before _ s = true := fun w h => hts w (List.mem_cons_of_mem _ h)
  have hown : s.vm.findClass RX13 = some m.cls := findClass_of_methodNamed B.named
  have hlocks := B.notSynchronized
  subst hsz
  have hD := hD0.self (sz := s.heap.size)
  generalize hAe : va_A ([] ++ va_pl L M) s.heap.size = A at hD ⊢
  have hA : ∀ q : Nat, s.heap.size ≤ q → A q := fun q h => by rw [← hAe]; exact Or.inr h
  have hS : va_S A s.heap s.heap [] := va_S.rf
  have hl := lv_entry ([.ref k1, .int k2]) (n := 4) (Nat.le_of_ble_eq_true rfl)
  rw [lg_entry_eq]
  generalize (lg_sl ([.ref k1, .int k2]) ++ List.replicate (4 - (lg_sl ([.ref k1, .int k2])).length) Slot.unset).toArray = ls at hl ⊢
  refine W.nameQ (fun Q hQ => ?_)
  refine W.nameR (fun R hR => ?_)
  have hRf : 1 ≤ R.frames := by rw [hR]; exact Nat.le_of_ble_eq_true rfl
  have hRl : 23 ≤ R.locals := by rw [hR]; exact Nat.le_of_ble_eq_true rfl
  have hRc : 0 ≤ R.cells := by rw [hR]; exact Nat.le_of_ble_eq_true rfl
  have hRs : 0 ≤ R.slots := by rw [hR]; exact Nat.le_of_ble_eq_true rfl
  have hl : lv_has ls 4 [(0, .ref k1), (1, .int k2)] := hl
  obtain ⟨fs1, hM1, hn1, hl1⟩ := hW.open_12 ik1
  obtain ⟨v2, hv2, hc2⟩ : ∃ v : Nat, fs1[10]? = some (.int (nI v) : Value) ∧ v ≤ 24 := hl1 10 (by decide)
  have hf10 : fx M k1 10 = ((v2 : Nat) : Int) := (fx_of hM1 rfl hv2).trans (nI_toInt (by omega))
  obtain ⟨v3, hv3, hc3⟩ : ∃ v : Nat, fs1[11]? = some (.int (nI v) : Value) ∧ v ≤ 16 := hl1 11 (by decide)
  have hf11 : fx M k1 11 = ((v3 : Nat) : Int) := (fx_of hM1 rfl hv3).trans (nI_toInt (by omega))
  refine lv_iconst (v := 0) hx hb dX13_isParted_0 (by decide) ?_
  refine lv_istore_n (lv' := [(2, .int 0), (0, .ref k1), (1, .int k2)]) hx hb dX13_isParted_1 rfl hl (by decide) rfl (fun ls hl => ?_)
  refine lv_iconst (v := 0) hx hb dX13_isParted_2 (by decide) ?_
  refine lv_istore_n (lv' := [(3, .int 0), (2, .int 0), (0, .ref k1), (1, .int k2)]) hx hb dX13_isParted_3 rfl hl (by decide) rfl (fun ls hl => ?_)
  have key_4 : ∀ (fu_6 : Nat) (v2w7 : Int32) (v3w7 : Nat) (H_12 : Heap) (locs : List Loc) (ls : Array Slot), 24 - v3w7 < fu_6 → (v2w7 = 0 ∨ v2w7 = 1) → v3w7 ≤ 24 → v3w7 ≤ (fx M k1 10).toNat → (v2w7 = 1 ↔ ptn (ax M k1) k2.toInt v3w7) → WOM cy K L M → va_P D vwCl ([] ++ va_pl L M) H_12 → va_D A ([] ++ va_pl L M) → va_S A s.heap H_12 locs → lv_has ls 4 [(3, .int (nI v3w7)), (2, .int v2w7), (0, .ref k1), (1, .int k2)] → W p l e R s m ([.ref k1, .int k2] : List Value).toArray below meth c H_12 locs 0 0 Q (F0 m 4 ls []) := by
    intro fu_6
    induction fu_6 with
    | zero => intro v2w7 v3w7 H_12 locs ls h; exact absurd h (Nat.not_lt_zero _)
    | succ fu_6 ih_5 =>
      intro v2w7 v3w7 H_12 locs ls hfu hq_8 hx_9 hx_10 hx_11 hW hP hD hS hl
      rcases hq_8 with rfl | rfl
      · have hz := rfl (a := 0)
        refine lv_iload_n hx hb dX13_isParted_4 rfl (lv_at hl 0 rfl) ?_
        refine lv_aload_n hx hb dX13_isParted_5 rfl (lv_at hl 2 rfl) ?_
        refine pg_getN (D := D) (ci := 12) (v := .int (nI v2)) (C := RX12) (T := TX12) (N := 51) hx hb hg inG12 hown hK hP ik1.1 hM1 rfl 10 (by decide) (hN.use (Cond.fieldLinkNest RX13 68 RX12 "tenures" "I" RX13) 19 rfl rfl) (fun _ h9 => h9) hv2 dX13_isParted_6 ?_
        refine lv_icmp_ge (tgt := 48) hx hb dX13_isParted_9 (by decide) (fun c_13 => ?_) (fun c_13 => ?_)
        · have hz := rfl (a := 0)
          have n_14 : v2 ≤ v3w7 := (iLE (a := v2) (b := v3w7) (by omega) (by omega)).mp c_13
          have ht10 : (fx M k1 10).toNat = v3w7 := by omega
          refine lv_iconst (v := 1) hx hb dX13_isParted_48 (by decide) ?_
          refine lv_istore_n (lv' := [(3, .int 1), (2, .int 0), (0, .ref k1), (1, .int k2)]) hx hb dX13_isParted_49 rfl hl (by decide) rfl (fun ls hl => ?_)
          have key_15 : ∀ (fu_17 : Nat) (v2w18 : Int32) (v3w18 : Nat) (H_24 : Heap) (locs : List Loc) (ls : Array Slot), 16 - v3w18 < fu_17 → (v2w18 = 0 ∨ v2w18 = 1) → 1 ≤ v3w18 → v3w18 ≤ 16 → (v3w18 = 1 ∨ v3w18 ≤ (fx M k1 11).toNat) → (v2w18 = 1 ↔ ptn (ax M k1) k2.toInt (fx M k1 10).toNat ∨ prn (ax M k1) k2.toInt v3w18) → WOM cy K L M → va_P D vwCl ([] ++ va_pl L M) H_24 → va_D A ([] ++ va_pl L M) → va_S A s.heap H_24 locs → lv_has ls 4 [(3, .int (nI v3w18)), (2, .int v2w18), (0, .ref k1), (1, .int k2)] → W p l e R s m ([.ref k1, .int k2] : List Value).toArray below meth c H_24 locs 0 0 Q (F0 m 50 ls []) := by
            intro fu_17
            induction fu_17 with
            | zero => intro v2w18 v3w18 H_24 locs ls h; exact absurd h (Nat.not_lt_zero _)
            | succ fu_17 ih_16 =>
              intro v2w18 v3w18 H_24 locs ls hfu hq_19 hx_20 hx_21 hx_22 hx_23 hW hP hD hS hl
              rcases hq_19 with rfl | rfl
              · have hz := rfl (a := 0)
                refine lv_iload_n hx hb dX13_isParted_50 rfl (lv_at hl 0 rfl) ?_
                refine lv_aload_n hx hb dX13_isParted_51 rfl (lv_at hl 2 rfl) ?_
                refine pg_getN (D := D) (ci := 12) (v := .int (nI v3)) (C := RX12) (T := TX12) (N := 51) hx hb hg inG12 hown hK hP ik1.1 hM1 rfl 11 (by decide) (hN.use (Cond.fieldLinkNest RX13 142 RX12 "rules" "I" RX13) 20 rfl rfl) (fun _ h9 => h9) hv3 dX13_isParted_52 ?_
                refine lv_icmp_ge (tgt := 92) hx hb dX13_isParted_55 (by decide) (fun c_25 => ?_) (fun c_25 => ?_)
                · have hz := rfl (a := 0)
                  have n_26 : v3 ≤ v3w18 := (iLE (a := v3) (b := v3w18) (by omega) (by omega)).mp c_25
                  refine lv_iload_n hx hb dX13_isParted_92 rfl (lv_at hl 1 rfl) ?_
                  have hpz : prt (fx M k1) (ax M k1) k2.toInt ↔ (ptn (ax M k1) k2.toInt (fx M k1 10).toNat ∨ prn (ax M k1) k2.toInt v3w18) := by unfold prt; exact or_congr Iff.rfl (prn_end (by omega) (by omega))
                  rw [hQ]
                  exact W.zret (v := 0) hx hb hr rfl (fun t ht hW9 => ⟨⟨0, (), rfl, (Or.inr ⟨rfl, fun q => absurd (hx_23.mpr (hpz.mp q)) (by decide)⟩), ⟨by rw [ht]; exact hP, hD⟩⟩, hS.F ht⟩) hS.2.2 dX13_isParted_93
                · have hz := rfl (a := 0)
                  have n_27 : ¬ (v3 ≤ v3w18) := fun q => c_25 ((iLE (a := v3) (b := v3w18) (by omega) (by omega)).mpr q)
                  refine lv_iload_n hx hb dX13_isParted_58 rfl (lv_at hl 1 rfl) ?_
                  refine lv_if_ne (tgt := 80) hx hb dX13_isParted_59 (by decide) (fun c_28 => absurd c_28 (by decide)) (fun _ => ?_)
                  refine lv_aload_n hx hb dX13_isParted_62 rfl (lv_at hl 2 rfl) ?_
                  obtain ⟨v29, hv29, hc29⟩ : ∃ v : Nat, fs1[34]? = some (.ref v : Value) ∧ isk K L v 43 16 := hl1 34 (by decide)
                  refine pg_getN (D := D) (ci := 12) (v := .ref v29) (C := RX12) (T := TX12) (N := 51) hx hb hg inG12 hown hK hP ik1.1 hM1 rfl 34 (by decide) (hN.use (Cond.fieldLinkNest RX13 145 RX12 "ruleDay" "[I" RX13) 43 rfl rfl) (fun _ h9 => h9) hv29 dX13_isParted_63 ?_
                  refine lv_iload_n hx hb dX13_isParted_66 rfl (lv_at hl 0 rfl) ?_
                  obtain ⟨f30, hM30⟩ := hW.open_43 hc29
                  refine pg_iald hx hb hK hP hc29.1 0 hM30 rfl (inbN v3w18 16 (by omega) (by omega)) dX13_isParted_67 ?_
                  refine lv_topi (fun f_31 ef_31 => ?_)
                  have hr34e : ax M k1 34 v3w18 = f_31 := by
                    have h9 := ef_31.symm
                    rw [nI_cl (by omega)] at h9
                    rw [ax_of hM1 (by decide) hv29 hM30]; exact h9
                  have hr34 : (ax M k1 34 v3w18).toInt = (f_31 : Int32).toInt := by rw [hr34e]
                  refine lv_iload_n hx hb dX13_isParted_68 rfl (lv_at hl 3 rfl) ?_
                  refine lv_icmp_ne (tgt := 84) hx hb dX13_isParted_69 (by decide) (fun c_32 => ?_) (fun c_32 => ?_)
                  · have hz := rfl (a := 0)
                    refine lv_iconst (v := 0) hx hb dX13_isParted_84 (by decide) ?_
                    refine lv_istore_n (lv' := [(2, .int 0), (3, .int (nI v3w18)), (0, .ref k1), (1, .int k2)]) hx hb dX13_isParted_85 rfl hl (by decide) rfl (fun ls hl => ?_)
                    refine lv_iinc (v := (nI (v3w18 + 1))) (lv' := [(3, .int (nI (v3w18 + 1))), (2, .int 0), (0, .ref k1), (1, .int k2)]) hx hb dX13_isParted_86 hl (k := 1) rfl (nI_1 v3w18) (by decide) rfl (fun ls hl => ?_)
                    refine lv_goto (tgt := 50) hx hb dX13_isParted_89 (by decide) ?_
                    have hI_33 : ((v2 : Nat) : Int) ≤ ((v3w7 : Nat) : Int) := ileI (nI_toInt (by omega)) (nI_toInt (by omega)) c_13
                    have hI_34 : ((v3w18 : Nat) : Int) < ((v3 : Nat) : Int) := inleI (nI_toInt (by omega)) (nI_toInt (by omega)) c_25
                    have hI_35 : (f_31 : Int32).toInt ≠ (k2 : Int32).toInt := ineI rfl rfl c_32
                    exact ih_16 0 (v3w18 + 1) H_24 _ _ (by omega) (Or.inl rfl) (by omega) (by omega) (by omega) (flN hx_23 (fun q => by rcases q with q | q; exact Or.inl q; rcases (prn_1 (by omega)).mp q with q | q; exact Or.inr q; (have q1 := q.1; exfalso; omega))) hW hP hD hS (lv_sub hl [0, 1, 2, 3] rfl)
                  · have hz := rfl (a := 0)
                    refine lv_aload_n hx hb dX13_isParted_72 rfl (lv_at hl 2 rfl) ?_
                    refine lv_iload_n hx hb dX13_isParted_73 rfl (lv_at hl 0 rfl) ?_
                    have hPc : va_P D vwCl ([] ++ va_pl L M) H_24 := hP
                    have hDc : va_D A ([] ++ va_pl L M) := hD
                    have hFc : ∀ q, va_A ([] ++ va_pl L M) H_24.size q → A q := pg_free hDc hS hA
                    refine va_calli (va_runV (As := [.int (nI v3w18)]) (rest := []) ⟨hx, hb, hml, hown, hg⟩ (z_unlike l D cy K L M H_24.size k1 v3w18  hW ik1 (by omega) (by omega)) (cwV 1 hg (gV wd_734 wd_735 wd_736 wd_737 wd_738) rfl rfl rfl (by decide +kernel) ⟨(Nat.le_trans (Nat.le_of_ble_eq_true rfl) hRf), (Nat.le_trans (Nat.le_of_ble_eq_true rfl) hRl)⟩) ⟨PG.blind, pg_recv hK hP ik1.1 hM1 rfl, fun U hU hW => ⟨rfl, PG.at hPc hK hDc hN hU hW⟩⟩ rfl rfl hl.1 rfl (lv_room (Nat.le_of_ble_eq_true rfl)) dX13_isParted_74 ⟨(Nat.le_trans (Nat.le_of_ble_eq_true rfl) hRc), (Nat.le_trans (Nat.le_of_ble_eq_true rfl) hRs)⟩) hS (fun q _ h => hFc q h) hFc (fun r_37 M_38 t H_36 locs ht hvm hw hB hz1 hk1 hS => ?_)
                    have hp_39 := hw
                    obtain ⟨hP1, hD1⟩ := hB
                    rw [ht] at hP1
                    have hP : va_P D vwCl ([] ++ va_pl L M) H_36 := hP1
                    have hD : va_D A ([] ++ va_pl L M) := hD1.mono hFc
                    rcases hp_39 with ⟨rfl, c_40⟩ | ⟨rfl, c_41⟩
                    · have hz := rfl (a := 0)
                      refine lv_if_eq (tgt := 84) hx hb dX13_isParted_77 (by decide) (fun c_42 => absurd c_42 (by decide)) (fun _ => ?_)
                      refine lv_iconst (v := 1) hx hb dX13_isParted_80 (by decide) ?_
                      refine lv_goto (tgt := 85) hx hb dX13_isParted_81 (by decide) ?_
                      refine lv_istore_n (lv' := [(2, .int 1), (3, .int (nI v3w18)), (0, .ref k1), (1, .int k2)]) hx hb dX13_isParted_85 rfl hl (by decide) rfl (fun ls hl => ?_)
                      refine lv_iinc (v := (nI (v3w18 + 1))) (lv' := [(3, .int (nI (v3w18 + 1))), (2, .int 1), (0, .ref k1), (1, .int k2)]) hx hb dX13_isParted_86 hl (k := 1) rfl (nI_1 v3w18) (by decide) rfl (fun ls hl => ?_)
                      refine lv_goto (tgt := 50) hx hb dX13_isParted_89 (by decide) ?_
                      have hI_43 : ((v2 : Nat) : Int) ≤ ((v3w7 : Nat) : Int) := ileI (nI_toInt (by omega)) (nI_toInt (by omega)) c_13
                      have hI_44 : ((v3w18 : Nat) : Int) < ((v3 : Nat) : Int) := inleI (nI_toInt (by omega)) (nI_toInt (by omega)) c_25
                      have hI_45 : (f_31 : Int32).toInt = (k2 : Int32).toInt := ieqI rfl rfl c_32
                      exact ih_16 1 (v3w18 + 1) H_36 _ _ (by omega) (Or.inr rfl) (by omega) (by omega) (by omega) (flS (Or.inr ((prn_1 (by omega)).mpr (Or.inr ⟨by omega, c_40⟩)))) hW hP hD hS (lv_sub hl [0, 1, 2, 3] rfl)
                    · have hz := rfl (a := 0)
                      refine lv_if_eq (tgt := 84) hx hb dX13_isParted_77 (by decide) (fun _ => ?_) (fun c_46 => absurd c_46 (by decide))
                      refine lv_iconst (v := 0) hx hb dX13_isParted_84 (by decide) ?_
                      refine lv_istore_n (lv' := [(2, .int 0), (3, .int (nI v3w18)), (0, .ref k1), (1, .int k2)]) hx hb dX13_isParted_85 rfl hl (by decide) rfl (fun ls hl => ?_)
                      refine lv_iinc (v := (nI (v3w18 + 1))) (lv' := [(3, .int (nI (v3w18 + 1))), (2, .int 0), (0, .ref k1), (1, .int k2)]) hx hb dX13_isParted_86 hl (k := 1) rfl (nI_1 v3w18) (by decide) rfl (fun ls hl => ?_)
                      refine lv_goto (tgt := 50) hx hb dX13_isParted_89 (by decide) ?_
                      have hI_47 : ((v2 : Nat) : Int) ≤ ((v3w7 : Nat) : Int) := ileI (nI_toInt (by omega)) (nI_toInt (by omega)) c_13
                      have hI_48 : ((v3w18 : Nat) : Int) < ((v3 : Nat) : Int) := inleI (nI_toInt (by omega)) (nI_toInt (by omega)) c_25
                      have hI_49 : (f_31 : Int32).toInt = (k2 : Int32).toInt := ieqI rfl rfl c_32
                      exact ih_16 0 (v3w18 + 1) H_36 _ _ (by omega) (Or.inl rfl) (by omega) (by omega) (by omega) (flN hx_23 (fun q => by rcases q with q | q; exact Or.inl q; rcases (prn_1 (by omega)).mp q with q | q; exact Or.inr q; exact absurd q.2 c_41)) hW hP hD hS (lv_sub hl [0, 1, 2, 3] rfl)
              · have hz := rfl (a := 0)
                refine lv_iload_n hx hb dX13_isParted_50 rfl (lv_at hl 0 rfl) ?_
                refine lv_aload_n hx hb dX13_isParted_51 rfl (lv_at hl 2 rfl) ?_
                refine pg_getN (D := D) (ci := 12) (v := .int (nI v3)) (C := RX12) (T := TX12) (N := 51) hx hb hg inG12 hown hK hP ik1.1 hM1 rfl 11 (by decide) (hN.use (Cond.fieldLinkNest RX13 142 RX12 "rules" "I" RX13) 20 rfl rfl) (fun _ h9 => h9) hv3 dX13_isParted_52 ?_
                refine lv_icmp_ge (tgt := 92) hx hb dX13_isParted_55 (by decide) (fun c_50 => ?_) (fun c_50 => ?_)
                · have hz := rfl (a := 0)
                  have n_51 : v3 ≤ v3w18 := (iLE (a := v3) (b := v3w18) (by omega) (by omega)).mp c_50
                  refine lv_iload_n hx hb dX13_isParted_92 rfl (lv_at hl 1 rfl) ?_
                  have hpz : prt (fx M k1) (ax M k1) k2.toInt ↔ (ptn (ax M k1) k2.toInt (fx M k1 10).toNat ∨ prn (ax M k1) k2.toInt v3w18) := by unfold prt; exact or_congr Iff.rfl (prn_end (by omega) (by omega))
                  rw [hQ]
                  exact W.zret (v := 1) hx hb hr rfl (fun t ht hW9 => ⟨⟨1, (), rfl, (Or.inl ⟨rfl, hpz.mpr (hx_23.mp rfl)⟩), ⟨by rw [ht]; exact hP, hD⟩⟩, hS.F ht⟩) hS.2.2 dX13_isParted_93
                · have hz := rfl (a := 0)
                  have n_52 : ¬ (v3 ≤ v3w18) := fun q => c_50 ((iLE (a := v3) (b := v3w18) (by omega) (by omega)).mpr q)
                  refine lv_iload_n hx hb dX13_isParted_58 rfl (lv_at hl 1 rfl) ?_
                  refine lv_if_ne (tgt := 80) hx hb dX13_isParted_59 (by decide) (fun _ => ?_) (fun c_53 => absurd c_53 (by decide))
                  refine lv_iconst (v := 1) hx hb dX13_isParted_80 (by decide) ?_
                  refine lv_goto (tgt := 85) hx hb dX13_isParted_81 (by decide) ?_
                  refine lv_istore_n (lv' := [(2, .int 1), (3, .int (nI v3w18)), (0, .ref k1), (1, .int k2)]) hx hb dX13_isParted_85 rfl hl (by decide) rfl (fun ls hl => ?_)
                  refine lv_iinc (v := (nI (v3w18 + 1))) (lv' := [(3, .int (nI (v3w18 + 1))), (2, .int 1), (0, .ref k1), (1, .int k2)]) hx hb dX13_isParted_86 hl (k := 1) rfl (nI_1 v3w18) (by decide) rfl (fun ls hl => ?_)
                  refine lv_goto (tgt := 50) hx hb dX13_isParted_89 (by decide) ?_
                  exact ih_16 1 (v3w18 + 1) H_24 _ _ (by omega) (Or.inr rfl) (by omega) (by omega) (by omega) (flY hx_23 (fun q => q.imp id (prn_mono (Nat.le_succ _)))) hW hP hD hS (lv_sub hl [0, 1, 2, 3] rfl)
          exact key_15 (16 - 1 + 1) 0 1 H_12 _ _ (by omega) (Or.inl rfl) (by omega) (by omega) (by omega) (flN hx_11 (fun q => by rcases q with q | q; rw [ht10] at q; exact q; exact absurd q prn_0)) hW hP hD hS (lv_sub hl [0, 1, 2, 3] rfl)
        · have hz := rfl (a := 0)
          have n_54 : ¬ (v2 ≤ v3w7) := fun q => c_13 ((iLE (a := v2) (b := v3w7) (by omega) (by omega)).mpr q)
          refine lv_iload_n hx hb dX13_isParted_12 rfl (lv_at hl 1 rfl) ?_
          refine lv_if_ne (tgt := 36) hx hb dX13_isParted_13 (by decide) (fun c_55 => absurd c_55 (by decide)) (fun _ => ?_)
          refine lv_aload_n hx hb dX13_isParted_16 rfl (lv_at hl 2 rfl) ?_
          obtain ⟨v56, hv56, hc56⟩ : ∃ v : Nat, fs1[21]? = some (.ref v : Value) ∧ isk K L v 75 24 := hl1 21 (by decide)
          refine pg_getN (D := D) (ci := 12) (v := .ref v56) (C := RX12) (T := TX12) (N := 51) hx hb hg inG12 hown hK hP ik1.1 hM1 rfl 21 (by decide) (hN.use (Cond.fieldLinkNest RX13 112 RX12 "begin" "[I" RX13) 30 rfl rfl) (fun _ h9 => h9) hv56 dX13_isParted_17 ?_
          refine lv_iload_n hx hb dX13_isParted_20 rfl (lv_at hl 0 rfl) ?_
          obtain ⟨f57, hM57⟩ := hW.open_75 hc56
          refine pg_iald hx hb hK hP hc56.1 0 hM57 rfl (inbN v3w7 24 (by omega) (by omega)) dX13_isParted_21 ?_
          refine lv_topi (fun f_58 ef_58 => ?_)
          have hr21e : ax M k1 21 v3w7 = f_58 := by
            have h9 := ef_58.symm
            rw [nI_cl (by omega)] at h9
            rw [ax_of hM1 (by decide) hv56 hM57]; exact h9
          have hr21 : (ax M k1 21 v3w7).toInt = (f_58 : Int32).toInt := by rw [hr21e]
          refine lv_iload_n hx hb dX13_isParted_22 rfl (lv_at hl 3 rfl) ?_
          refine lv_icmp_eq (tgt := 36) hx hb dX13_isParted_23 (by decide) (fun c_59 => ?_) (fun c_59 => ?_)
          · have hz := rfl (a := 0)
            refine lv_iconst (v := 1) hx hb dX13_isParted_36 (by decide) ?_
            refine lv_goto (tgt := 41) hx hb dX13_isParted_37 (by decide) ?_
            refine lv_istore_n (lv' := [(2, .int 1), (3, .int (nI v3w7)), (0, .ref k1), (1, .int k2)]) hx hb dX13_isParted_41 rfl hl (by decide) rfl (fun ls hl => ?_)
            refine lv_iinc (v := (nI (v3w7 + 1))) (lv' := [(3, .int (nI (v3w7 + 1))), (2, .int 1), (0, .ref k1), (1, .int k2)]) hx hb dX13_isParted_42 hl (k := 1) rfl (nI_1 v3w7) (by decide) rfl (fun ls hl => ?_)
            refine lv_goto (tgt := 4) hx hb dX13_isParted_45 (by decide) ?_
            have hI_60 : ((v3w7 : Nat) : Int) < ((v2 : Nat) : Int) := inleI (nI_toInt (by omega)) (nI_toInt (by omega)) c_13
            have hI_61 : (f_58 : Int32).toInt = (k2 : Int32).toInt := ieqI rfl rfl c_59
            exact ih_5 1 (v3w7 + 1) H_12 _ _ (by omega) (Or.inr rfl) (by omega) (by omega) (flS (ptn_1.mpr (Or.inr (by omega)))) hW hP hD hS (lv_sub hl [0, 1, 2, 3] rfl)
          · have hz := rfl (a := 0)
            refine lv_aload_n hx hb dX13_isParted_26 rfl (lv_at hl 2 rfl) ?_
            obtain ⟨v62, hv62, hc62⟩ : ∃ v : Nat, fs1[22]? = some (.ref v : Value) ∧ isk K L v 41 24 := hl1 22 (by decide)
            refine pg_getN (D := D) (ci := 12) (v := .ref v62) (C := RX12) (T := TX12) (N := 51) hx hb hg inG12 hown hK hP ik1.1 hM1 rfl 22 (by decide) (hN.use (Cond.fieldLinkNest RX13 95 RX12 "ended" "[I" RX13) 31 rfl rfl) (fun _ h9 => h9) hv62 dX13_isParted_27 ?_
            refine lv_iload_n hx hb dX13_isParted_30 rfl (lv_at hl 0 rfl) ?_
            obtain ⟨f63, hM63⟩ := hW.open_41 hc62
            refine pg_iald hx hb hK hP hc62.1 0 hM63 rfl (inbN v3w7 24 (by omega) (by omega)) dX13_isParted_31 ?_
            refine lv_topi (fun f_64 ef_64 => ?_)
            have hr22e : ax M k1 22 v3w7 = f_64 := by
              have h9 := ef_64.symm
              rw [nI_cl (by omega)] at h9
              rw [ax_of hM1 (by decide) hv62 hM63]; exact h9
            have hr22 : (ax M k1 22 v3w7).toInt = (f_64 : Int32).toInt := by rw [hr22e]
            refine lv_iload_n hx hb dX13_isParted_32 rfl (lv_at hl 3 rfl) ?_
            refine lv_icmp_ne (tgt := 40) hx hb dX13_isParted_33 (by decide) (fun c_65 => ?_) (fun c_65 => ?_)
            · have hz := rfl (a := 0)
              refine lv_iconst (v := 0) hx hb dX13_isParted_40 (by decide) ?_
              refine lv_istore_n (lv' := [(2, .int 0), (3, .int (nI v3w7)), (0, .ref k1), (1, .int k2)]) hx hb dX13_isParted_41 rfl hl (by decide) rfl (fun ls hl => ?_)
              refine lv_iinc (v := (nI (v3w7 + 1))) (lv' := [(3, .int (nI (v3w7 + 1))), (2, .int 0), (0, .ref k1), (1, .int k2)]) hx hb dX13_isParted_42 hl (k := 1) rfl (nI_1 v3w7) (by decide) rfl (fun ls hl => ?_)
              refine lv_goto (tgt := 4) hx hb dX13_isParted_45 (by decide) ?_
              have hI_66 : ((v3w7 : Nat) : Int) < ((v2 : Nat) : Int) := inleI (nI_toInt (by omega)) (nI_toInt (by omega)) c_13
              have hI_67 : (f_58 : Int32).toInt ≠ (k2 : Int32).toInt := ineI rfl rfl c_59
              have hI_68 : (f_64 : Int32).toInt ≠ (k2 : Int32).toInt := ineI rfl rfl c_65
              exact ih_5 0 (v3w7 + 1) H_12 _ _ (by omega) (Or.inl rfl) (by omega) (by omega) (flN hx_11 (fun q => (ptn_1.mp q).resolve_right (fun w => by omega))) hW hP hD hS (lv_sub hl [0, 1, 2, 3] rfl)
            · have hz := rfl (a := 0)
              refine lv_iconst (v := 1) hx hb dX13_isParted_36 (by decide) ?_
              refine lv_goto (tgt := 41) hx hb dX13_isParted_37 (by decide) ?_
              refine lv_istore_n (lv' := [(2, .int 1), (3, .int (nI v3w7)), (0, .ref k1), (1, .int k2)]) hx hb dX13_isParted_41 rfl hl (by decide) rfl (fun ls hl => ?_)
              refine lv_iinc (v := (nI (v3w7 + 1))) (lv' := [(3, .int (nI (v3w7 + 1))), (2, .int 1), (0, .ref k1), (1, .int k2)]) hx hb dX13_isParted_42 hl (k := 1) rfl (nI_1 v3w7) (by decide) rfl (fun ls hl => ?_)
              refine lv_goto (tgt := 4) hx hb dX13_isParted_45 (by decide) ?_
              have hI_69 : ((v3w7 : Nat) : Int) < ((v2 : Nat) : Int) := inleI (nI_toInt (by omega)) (nI_toInt (by omega)) c_13
              have hI_70 : (f_58 : Int32).toInt ≠ (k2 : Int32).toInt := ineI rfl rfl c_59
              have hI_71 : (f_64 : Int32).toInt = (k2 : Int32).toInt := ieqI rfl rfl c_65
              exact ih_5 1 (v3w7 + 1) H_12 _ _ (by omega) (Or.inr rfl) (by omega) (by omega) (flS (ptn_1.mpr (Or.inr (by omega)))) hW hP hD hS (lv_sub hl [0, 1, 2, 3] rfl)
      · have hz := rfl (a := 0)
        refine lv_iload_n hx hb dX13_isParted_4 rfl (lv_at hl 0 rfl) ?_
        refine lv_aload_n hx hb dX13_isParted_5 rfl (lv_at hl 2 rfl) ?_
        refine pg_getN (D := D) (ci := 12) (v := .int (nI v2)) (C := RX12) (T := TX12) (N := 51) hx hb hg inG12 hown hK hP ik1.1 hM1 rfl 10 (by decide) (hN.use (Cond.fieldLinkNest RX13 68 RX12 "tenures" "I" RX13) 19 rfl rfl) (fun _ h9 => h9) hv2 dX13_isParted_6 ?_
        refine lv_icmp_ge (tgt := 48) hx hb dX13_isParted_9 (by decide) (fun c_72 => ?_) (fun c_72 => ?_)
        · have hz := rfl (a := 0)
          have n_73 : v2 ≤ v3w7 := (iLE (a := v2) (b := v3w7) (by omega) (by omega)).mp c_72
          have ht10 : (fx M k1 10).toNat = v3w7 := by omega
          refine lv_iconst (v := 1) hx hb dX13_isParted_48 (by decide) ?_
          refine lv_istore_n (lv' := [(3, .int 1), (2, .int 1), (0, .ref k1), (1, .int k2)]) hx hb dX13_isParted_49 rfl hl (by decide) rfl (fun ls hl => ?_)
          have key_74 : ∀ (fu_76 : Nat) (v2w77 : Int32) (v3w77 : Nat) (H_83 : Heap) (locs : List Loc) (ls : Array Slot), 16 - v3w77 < fu_76 → (v2w77 = 0 ∨ v2w77 = 1) → 1 ≤ v3w77 → v3w77 ≤ 16 → (v3w77 = 1 ∨ v3w77 ≤ (fx M k1 11).toNat) → (v2w77 = 1 ↔ ptn (ax M k1) k2.toInt (fx M k1 10).toNat ∨ prn (ax M k1) k2.toInt v3w77) → WOM cy K L M → va_P D vwCl ([] ++ va_pl L M) H_83 → va_D A ([] ++ va_pl L M) → va_S A s.heap H_83 locs → lv_has ls 4 [(3, .int (nI v3w77)), (2, .int v2w77), (0, .ref k1), (1, .int k2)] → W p l e R s m ([.ref k1, .int k2] : List Value).toArray below meth c H_83 locs 0 0 Q (F0 m 50 ls []) := by
            intro fu_76
            induction fu_76 with
            | zero => intro v2w77 v3w77 H_83 locs ls h; exact absurd h (Nat.not_lt_zero _)
            | succ fu_76 ih_75 =>
              intro v2w77 v3w77 H_83 locs ls hfu hq_78 hx_79 hx_80 hx_81 hx_82 hW hP hD hS hl
              rcases hq_78 with rfl | rfl
              · have hz := rfl (a := 0)
                refine lv_iload_n hx hb dX13_isParted_50 rfl (lv_at hl 0 rfl) ?_
                refine lv_aload_n hx hb dX13_isParted_51 rfl (lv_at hl 2 rfl) ?_
                refine pg_getN (D := D) (ci := 12) (v := .int (nI v3)) (C := RX12) (T := TX12) (N := 51) hx hb hg inG12 hown hK hP ik1.1 hM1 rfl 11 (by decide) (hN.use (Cond.fieldLinkNest RX13 142 RX12 "rules" "I" RX13) 20 rfl rfl) (fun _ h9 => h9) hv3 dX13_isParted_52 ?_
                refine lv_icmp_ge (tgt := 92) hx hb dX13_isParted_55 (by decide) (fun c_84 => ?_) (fun c_84 => ?_)
                · have hz := rfl (a := 0)
                  have n_85 : v3 ≤ v3w77 := (iLE (a := v3) (b := v3w77) (by omega) (by omega)).mp c_84
                  refine lv_iload_n hx hb dX13_isParted_92 rfl (lv_at hl 1 rfl) ?_
                  have hpz : prt (fx M k1) (ax M k1) k2.toInt ↔ (ptn (ax M k1) k2.toInt (fx M k1 10).toNat ∨ prn (ax M k1) k2.toInt v3w77) := by unfold prt; exact or_congr Iff.rfl (prn_end (by omega) (by omega))
                  rw [hQ]
                  exact W.zret (v := 0) hx hb hr rfl (fun t ht hW9 => ⟨⟨0, (), rfl, (Or.inr ⟨rfl, fun q => absurd (hx_82.mpr (hpz.mp q)) (by decide)⟩), ⟨by rw [ht]; exact hP, hD⟩⟩, hS.F ht⟩) hS.2.2 dX13_isParted_93
                · have hz := rfl (a := 0)
                  have n_86 : ¬ (v3 ≤ v3w77) := fun q => c_84 ((iLE (a := v3) (b := v3w77) (by omega) (by omega)).mpr q)
                  refine lv_iload_n hx hb dX13_isParted_58 rfl (lv_at hl 1 rfl) ?_
                  refine lv_if_ne (tgt := 80) hx hb dX13_isParted_59 (by decide) (fun c_87 => absurd c_87 (by decide)) (fun _ => ?_)
                  refine lv_aload_n hx hb dX13_isParted_62 rfl (lv_at hl 2 rfl) ?_
                  obtain ⟨v88, hv88, hc88⟩ : ∃ v : Nat, fs1[34]? = some (.ref v : Value) ∧ isk K L v 43 16 := hl1 34 (by decide)
                  refine pg_getN (D := D) (ci := 12) (v := .ref v88) (C := RX12) (T := TX12) (N := 51) hx hb hg inG12 hown hK hP ik1.1 hM1 rfl 34 (by decide) (hN.use (Cond.fieldLinkNest RX13 145 RX12 "ruleDay" "[I" RX13) 43 rfl rfl) (fun _ h9 => h9) hv88 dX13_isParted_63 ?_
                  refine lv_iload_n hx hb dX13_isParted_66 rfl (lv_at hl 0 rfl) ?_
                  obtain ⟨f89, hM89⟩ := hW.open_43 hc88
                  refine pg_iald hx hb hK hP hc88.1 0 hM89 rfl (inbN v3w77 16 (by omega) (by omega)) dX13_isParted_67 ?_
                  refine lv_topi (fun f_90 ef_90 => ?_)
                  have hr34e : ax M k1 34 v3w77 = f_90 := by
                    have h9 := ef_90.symm
                    rw [nI_cl (by omega)] at h9
                    rw [ax_of hM1 (by decide) hv88 hM89]; exact h9
                  have hr34 : (ax M k1 34 v3w77).toInt = (f_90 : Int32).toInt := by rw [hr34e]
                  refine lv_iload_n hx hb dX13_isParted_68 rfl (lv_at hl 3 rfl) ?_
                  refine lv_icmp_ne (tgt := 84) hx hb dX13_isParted_69 (by decide) (fun c_91 => ?_) (fun c_91 => ?_)
                  · have hz := rfl (a := 0)
                    refine lv_iconst (v := 0) hx hb dX13_isParted_84 (by decide) ?_
                    refine lv_istore_n (lv' := [(2, .int 0), (3, .int (nI v3w77)), (0, .ref k1), (1, .int k2)]) hx hb dX13_isParted_85 rfl hl (by decide) rfl (fun ls hl => ?_)
                    refine lv_iinc (v := (nI (v3w77 + 1))) (lv' := [(3, .int (nI (v3w77 + 1))), (2, .int 0), (0, .ref k1), (1, .int k2)]) hx hb dX13_isParted_86 hl (k := 1) rfl (nI_1 v3w77) (by decide) rfl (fun ls hl => ?_)
                    refine lv_goto (tgt := 50) hx hb dX13_isParted_89 (by decide) ?_
                    have hI_92 : ((v2 : Nat) : Int) ≤ ((v3w7 : Nat) : Int) := ileI (nI_toInt (by omega)) (nI_toInt (by omega)) c_72
                    have hI_93 : ((v3w77 : Nat) : Int) < ((v3 : Nat) : Int) := inleI (nI_toInt (by omega)) (nI_toInt (by omega)) c_84
                    have hI_94 : (f_90 : Int32).toInt ≠ (k2 : Int32).toInt := ineI rfl rfl c_91
                    exact ih_75 0 (v3w77 + 1) H_83 _ _ (by omega) (Or.inl rfl) (by omega) (by omega) (by omega) (flN hx_82 (fun q => by rcases q with q | q; exact Or.inl q; rcases (prn_1 (by omega)).mp q with q | q; exact Or.inr q; (have q1 := q.1; exfalso; omega))) hW hP hD hS (lv_sub hl [0, 1, 2, 3] rfl)
                  · have hz := rfl (a := 0)
                    refine lv_aload_n hx hb dX13_isParted_72 rfl (lv_at hl 2 rfl) ?_
                    refine lv_iload_n hx hb dX13_isParted_73 rfl (lv_at hl 0 rfl) ?_
                    have hPc : va_P D vwCl ([] ++ va_pl L M) H_83 := hP
                    have hDc : va_D A ([] ++ va_pl L M) := hD
                    have hFc : ∀ q, va_A ([] ++ va_pl L M) H_83.size q → A q := pg_free hDc hS hA
                    refine va_calli (va_runV (As := [.int (nI v3w77)]) (rest := []) ⟨hx, hb, hml, hown, hg⟩ (z_unlike l D cy K L M H_83.size k1 v3w77  hW ik1 (by omega) (by omega)) (cwV 1 hg (gV wd_734 wd_735 wd_736 wd_737 wd_738) rfl rfl rfl (by decide +kernel) ⟨(Nat.le_trans (Nat.le_of_ble_eq_true rfl) hRf), (Nat.le_trans (Nat.le_of_ble_eq_true rfl) hRl)⟩) ⟨PG.blind, pg_recv hK hP ik1.1 hM1 rfl, fun U hU hW => ⟨rfl, PG.at hPc hK hDc hN hU hW⟩⟩ rfl rfl hl.1 rfl (lv_room (Nat.le_of_ble_eq_true rfl)) dX13_isParted_74 ⟨(Nat.le_trans (Nat.le_of_ble_eq_true rfl) hRc), (Nat.le_trans (Nat.le_of_ble_eq_true rfl) hRs)⟩) hS (fun q _ h => hFc q h) hFc (fun r_96 M_97 t H_95 locs ht hvm hw hB hz1 hk1 hS => ?_)
                    have hp_98 := hw
                    obtain ⟨hP1, hD1⟩ := hB
                    rw [ht] at hP1
                    have hP : va_P D vwCl ([] ++ va_pl L M) H_95 := hP1
                    have hD : va_D A ([] ++ va_pl L M) := hD1.mono hFc
                    rcases hp_98 with ⟨rfl, c_99⟩ | ⟨rfl, c_100⟩
                    · have hz := rfl (a := 0)
                      refine lv_if_eq (tgt := 84) hx hb dX13_isParted_77 (by decide) (fun c_101 => absurd c_101 (by decide)) (fun _ => ?_)
                      refine lv_iconst (v := 1) hx hb dX13_isParted_80 (by decide) ?_
                      refine lv_goto (tgt := 85) hx hb dX13_isParted_81 (by decide) ?_
                      refine lv_istore_n (lv' := [(2, .int 1), (3, .int (nI v3w77)), (0, .ref k1), (1, .int k2)]) hx hb dX13_isParted_85 rfl hl (by decide) rfl (fun ls hl => ?_)
                      refine lv_iinc (v := (nI (v3w77 + 1))) (lv' := [(3, .int (nI (v3w77 + 1))), (2, .int 1), (0, .ref k1), (1, .int k2)]) hx hb dX13_isParted_86 hl (k := 1) rfl (nI_1 v3w77) (by decide) rfl (fun ls hl => ?_)
                      refine lv_goto (tgt := 50) hx hb dX13_isParted_89 (by decide) ?_
                      have hI_102 : ((v2 : Nat) : Int) ≤ ((v3w7 : Nat) : Int) := ileI (nI_toInt (by omega)) (nI_toInt (by omega)) c_72
                      have hI_103 : ((v3w77 : Nat) : Int) < ((v3 : Nat) : Int) := inleI (nI_toInt (by omega)) (nI_toInt (by omega)) c_84
                      have hI_104 : (f_90 : Int32).toInt = (k2 : Int32).toInt := ieqI rfl rfl c_91
                      exact ih_75 1 (v3w77 + 1) H_95 _ _ (by omega) (Or.inr rfl) (by omega) (by omega) (by omega) (flS (Or.inr ((prn_1 (by omega)).mpr (Or.inr ⟨by omega, c_99⟩)))) hW hP hD hS (lv_sub hl [0, 1, 2, 3] rfl)
                    · have hz := rfl (a := 0)
                      refine lv_if_eq (tgt := 84) hx hb dX13_isParted_77 (by decide) (fun _ => ?_) (fun c_105 => absurd c_105 (by decide))
                      refine lv_iconst (v := 0) hx hb dX13_isParted_84 (by decide) ?_
                      refine lv_istore_n (lv' := [(2, .int 0), (3, .int (nI v3w77)), (0, .ref k1), (1, .int k2)]) hx hb dX13_isParted_85 rfl hl (by decide) rfl (fun ls hl => ?_)
                      refine lv_iinc (v := (nI (v3w77 + 1))) (lv' := [(3, .int (nI (v3w77 + 1))), (2, .int 0), (0, .ref k1), (1, .int k2)]) hx hb dX13_isParted_86 hl (k := 1) rfl (nI_1 v3w77) (by decide) rfl (fun ls hl => ?_)
                      refine lv_goto (tgt := 50) hx hb dX13_isParted_89 (by decide) ?_
                      have hI_106 : ((v2 : Nat) : Int) ≤ ((v3w7 : Nat) : Int) := ileI (nI_toInt (by omega)) (nI_toInt (by omega)) c_72
                      have hI_107 : ((v3w77 : Nat) : Int) < ((v3 : Nat) : Int) := inleI (nI_toInt (by omega)) (nI_toInt (by omega)) c_84
                      have hI_108 : (f_90 : Int32).toInt = (k2 : Int32).toInt := ieqI rfl rfl c_91
                      exact ih_75 0 (v3w77 + 1) H_95 _ _ (by omega) (Or.inl rfl) (by omega) (by omega) (by omega) (flN hx_82 (fun q => by rcases q with q | q; exact Or.inl q; rcases (prn_1 (by omega)).mp q with q | q; exact Or.inr q; exact absurd q.2 c_100)) hW hP hD hS (lv_sub hl [0, 1, 2, 3] rfl)
              · have hz := rfl (a := 0)
                refine lv_iload_n hx hb dX13_isParted_50 rfl (lv_at hl 0 rfl) ?_
                refine lv_aload_n hx hb dX13_isParted_51 rfl (lv_at hl 2 rfl) ?_
                refine pg_getN (D := D) (ci := 12) (v := .int (nI v3)) (C := RX12) (T := TX12) (N := 51) hx hb hg inG12 hown hK hP ik1.1 hM1 rfl 11 (by decide) (hN.use (Cond.fieldLinkNest RX13 142 RX12 "rules" "I" RX13) 20 rfl rfl) (fun _ h9 => h9) hv3 dX13_isParted_52 ?_
                refine lv_icmp_ge (tgt := 92) hx hb dX13_isParted_55 (by decide) (fun c_109 => ?_) (fun c_109 => ?_)
                · have hz := rfl (a := 0)
                  have n_110 : v3 ≤ v3w77 := (iLE (a := v3) (b := v3w77) (by omega) (by omega)).mp c_109
                  refine lv_iload_n hx hb dX13_isParted_92 rfl (lv_at hl 1 rfl) ?_
                  have hpz : prt (fx M k1) (ax M k1) k2.toInt ↔ (ptn (ax M k1) k2.toInt (fx M k1 10).toNat ∨ prn (ax M k1) k2.toInt v3w77) := by unfold prt; exact or_congr Iff.rfl (prn_end (by omega) (by omega))
                  rw [hQ]
                  exact W.zret (v := 1) hx hb hr rfl (fun t ht hW9 => ⟨⟨1, (), rfl, (Or.inl ⟨rfl, hpz.mpr (hx_82.mp rfl)⟩), ⟨by rw [ht]; exact hP, hD⟩⟩, hS.F ht⟩) hS.2.2 dX13_isParted_93
                · have hz := rfl (a := 0)
                  have n_111 : ¬ (v3 ≤ v3w77) := fun q => c_109 ((iLE (a := v3) (b := v3w77) (by omega) (by omega)).mpr q)
                  refine lv_iload_n hx hb dX13_isParted_58 rfl (lv_at hl 1 rfl) ?_
                  refine lv_if_ne (tgt := 80) hx hb dX13_isParted_59 (by decide) (fun _ => ?_) (fun c_112 => absurd c_112 (by decide))
                  refine lv_iconst (v := 1) hx hb dX13_isParted_80 (by decide) ?_
                  refine lv_goto (tgt := 85) hx hb dX13_isParted_81 (by decide) ?_
                  refine lv_istore_n (lv' := [(2, .int 1), (3, .int (nI v3w77)), (0, .ref k1), (1, .int k2)]) hx hb dX13_isParted_85 rfl hl (by decide) rfl (fun ls hl => ?_)
                  refine lv_iinc (v := (nI (v3w77 + 1))) (lv' := [(3, .int (nI (v3w77 + 1))), (2, .int 1), (0, .ref k1), (1, .int k2)]) hx hb dX13_isParted_86 hl (k := 1) rfl (nI_1 v3w77) (by decide) rfl (fun ls hl => ?_)
                  refine lv_goto (tgt := 50) hx hb dX13_isParted_89 (by decide) ?_
                  exact ih_75 1 (v3w77 + 1) H_83 _ _ (by omega) (Or.inr rfl) (by omega) (by omega) (by omega) (flY hx_82 (fun q => q.imp id (prn_mono (Nat.le_succ _)))) hW hP hD hS (lv_sub hl [0, 1, 2, 3] rfl)
          exact key_74 (16 - 1 + 1) 1 1 H_12 _ _ (by omega) (Or.inr rfl) (by omega) (by omega) (by omega) (flY hx_11 (fun q => Or.inl (by rw [ht10]; exact q))) hW hP hD hS (lv_sub hl [0, 1, 2, 3] rfl)
        · have hz := rfl (a := 0)
          have n_113 : ¬ (v2 ≤ v3w7) := fun q => c_72 ((iLE (a := v2) (b := v3w7) (by omega) (by omega)).mpr q)
          refine lv_iload_n hx hb dX13_isParted_12 rfl (lv_at hl 1 rfl) ?_
          refine lv_if_ne (tgt := 36) hx hb dX13_isParted_13 (by decide) (fun _ => ?_) (fun c_114 => absurd c_114 (by decide))
          refine lv_iconst (v := 1) hx hb dX13_isParted_36 (by decide) ?_
          refine lv_goto (tgt := 41) hx hb dX13_isParted_37 (by decide) ?_
          refine lv_istore_n (lv' := [(2, .int 1), (3, .int (nI v3w7)), (0, .ref k1), (1, .int k2)]) hx hb dX13_isParted_41 rfl hl (by decide) rfl (fun ls hl => ?_)
          refine lv_iinc (v := (nI (v3w7 + 1))) (lv' := [(3, .int (nI (v3w7 + 1))), (2, .int 1), (0, .ref k1), (1, .int k2)]) hx hb dX13_isParted_42 hl (k := 1) rfl (nI_1 v3w7) (by decide) rfl (fun ls hl => ?_)
          refine lv_goto (tgt := 4) hx hb dX13_isParted_45 (by decide) ?_
          exact ih_5 1 (v3w7 + 1) H_12 _ _ (by omega) (Or.inr rfl) (by omega) (by omega) (flY hx_11 (fun q => ptn_1.mpr (Or.inl q))) hW hP hD hS (lv_sub hl [0, 1, 2, 3] rfl)
  exact key_4 (24 - 0 + 1) 0 0 s.heap _ _ (by omega) (Or.inl rfl) (by omega) (by omega) ⟨fun q => absurd q (by decide), fun q => absurd q ptn_0⟩ hW hP hD hS (lv_sub hl [0, 1, 2, 3] rfl)
set_option maxHeartbeats 4000000 in
set_option maxRecDepth 100000 in
theorem z_behind (l : Launch) (D : va_G) (cy : Nat → ClassId) (K : Kp) (L : List Nat) (M : Hp) (sz : Nat) (za : Nat) (z0 : Int32) (z1 : Nat) (z2 : Nat) (z3 : Nat) (z4 : Int32) (z5 : Int32) (z6 : Nat) (z7 : Nat) (z8 : Nat) (z9 : Nat) (z10 : Nat) (z11 : Nat) (z12 : Nat) (z13 : Nat) (z14 : Nat) (z15 : Nat) (z16 : Nat) (z17 : Nat) (z18 : Int32) (z19 : Nat) (k1 : Int32) (k2 : Int32) (SX : Nat → Nat → Int) (SY : Nat → Nat → Nat → Int32) (PK : Nat → Int32) (PT : Nat → Int32) (hW : WOM cy K L M) (i1 : isk K L z1 23 8) (b2 : z2 ≤ 8) (b3 : z3 ≤ 40) (i6 : isk K L z6 47 40) (i7 : isk K L z7 48 40) (i8 : isk K L z8 49 8) (i9 : isk K L z9 50 8) (b10 : z10 ≤ 8) (i11 : isk K L z11 32 24) (i12 : isk K L z12 14 24) (i13 : isk K L z13 97 24) (i14 : isk K L z14 98 24) (i15 : isk K L z15 99 24) (b16 : z16 ≤ 24) (i17 : isk K L z17 14 24) (i19 : isk K L z19 15 25) (hZS : ZSx z1 z2 SX SY M) (hZP : ZP z6 z7 PK PT M) (hk1 : 0 ≤ k1.toInt) : Met l yX13_behind (wsM yX13_behind cX13_behind 7 (some .int)) ({ frames := 1, cells := 0, slots := 0, locals := 15 }) (va_Pc [.ref za, .int k1, .int k2] (PG D cy [(za, (b13_0 z0 z1 (nI z2) (nI z3) z4 z5 z6 z7 z8 z9 (nI z10) z11 z12 z13 z14 z15 (nI z16) z17 z18 z19))] L M sz)) (va_Qi (fun (r : Int32) (_ : Unit) => (r = (-1) ∧ (∀ b : Nat, b < z2 → ¬ (LAG PK PT SX SY k1.toNatClampNeg k2.toInt b))) ∨ (∃ (j : Nat), r = (nI j) ∧ j < 8 ∧ j < z2 ∧ (LAG PK PT SX SY k1.toNatClampNeg k2.toInt j) ∧ (∀ b : Nat, b < j → ¬ (LAG PK PT SX SY k1.toNatClampNeg k2.toInt b)))) (fun _ t => PQ D [(za, (b13_0 z0 z1 (nI z2) (nI z3) z4 z5 z6 z7 z8 z9 (nI z10) z11 z12 z13 z14 z15 (nI z16) z17 z18 z19))] L M (va_A ([(za, (b13_0 z0 z1 (nI z2) (nI z3) z4 z5 z6 z7 z8 z9 (nI z10) z11 z12 z13 z14 z15 (nI z16) z17 z18 z19))] ++ va_pl L M) sz) t) (va_A ([(za, (b13_0 z0 z1 (nI z2) (nI z3) z4 z5 z6 z7 z8 z9 (nI z10) z11 z12 z13 z14 z15 (nI z16) z17 z18 z19))] ++ va_pl L M) sz)) 0 0 (va_A ([(za, (b13_0 z0 z1 (nI z2) (nI z3) z4 z5 z6 z7 z8 z9 (nI z10) z11 z12 z13 z14 z15 (nI z16) z17 z18 z19))] ++ va_pl L M) sz) := by
  refine Met.ofW (cc := cX13_behind) (maxL := 7) (ret := (some .int)) (by decide) rfl ?_
  intro p e s m args below meth c s₁ B hml hv
  obtain ⟨rfl, hsz, hP, hK, hD0, hN⟩ := hv
  have hx := B.exec
  have hb := B.bytes
  have hr := B.returns
  have hts := atoms_spec (ws := (wsM yX13_behind cX13_behind 7 (some .int))) B.pre
  have hg : ∀ w ∈ lw_good, w.before _ s = true := fun w h => hts w (List.mem_cons_of_mem _ h)
  have hown : s.vm.findClass RX13 = some m.cls := findClass_of_methodNamed B.named
  have hlocks := B.notSynchronized
  subst hsz
  have hD := hD0.self (sz := s.heap.size)
  generalize hAe : va_A ([(za, (b13_0 z0 z1 (nI z2) (nI z3) z4 z5 z6 z7 z8 z9 (nI z10) z11 z12 z13 z14 z15 (nI z16) z17 z18 z19))] ++ va_pl L M) s.heap.size = A at hD ⊢
  have hA : ∀ q : Nat, s.heap.size ≤ q → A q := fun q h => by rw [← hAe]; exact Or.inr h
  have hS : va_S A s.heap s.heap [] := va_S.rf
  have hl := lv_entry ([.ref za, .int k1, .int k2]) (n := 7) (Nat.le_of_ble_eq_true rfl)
  rw [lg_entry_eq]
  generalize (lg_sl ([.ref za, .int k1, .int k2]) ++ List.replicate (7 - (lg_sl ([.ref za, .int k1, .int k2])).length) Slot.unset).toArray = ls at hl ⊢
  refine W.nameQ (fun Q hQ => ?_)
  refine W.nameR (fun R hR => ?_)
  have hRf : 1 ≤ R.frames := by rw [hR]; exact Nat.le_of_ble_eq_true rfl
  have hRl : 15 ≤ R.locals := by rw [hR]; exact Nat.le_of_ble_eq_true rfl
  have hRc : 0 ≤ R.cells := by rw [hR]; exact Nat.le_of_ble_eq_true rfl
  have hRs : 0 ≤ R.slots := by rw [hR]; exact Nat.le_of_ble_eq_true rfl
  have hl : lv_has ls 7 [(0, .ref za), (1, .int k1), (2, .int k2)] := hl
  refine lv_iconst (v := 0) hx hb dX13_behind_0 (by decide) ?_
  refine lv_istore_n (lv' := [(3, .int 0), (0, .ref za), (1, .int k1), (2, .int k2)]) hx hb dX13_behind_1 rfl hl (by decide) rfl (fun ls hl => ?_)
  have key_1 : ∀ (fu_3 : Nat) (v3w4 : Nat) (H_7 : Heap) (locs : List Loc) (ls : Array Slot), 8 - v3w4 < fu_3 → v3w4 ≤ z2 → (∀ b : Nat, b < v3w4 → ¬ (LAG PK PT SX SY k1.toNatClampNeg k2.toInt b)) → WOM cy K L M → va_P D vwCl ([(za, (b13_0 z0 z1 (nI z2) (nI z3) z4 z5 z6 z7 z8 z9 (nI z10) z11 z12 z13 z14 z15 (nI z16) z17 z18 z19))] ++ va_pl L M) H_7 → va_D A ([(za, (b13_0 z0 z1 (nI z2) (nI z3) z4 z5 z6 z7 z8 z9 (nI z10) z11 z12 z13 z14 z15 (nI z16) z17 z18 z19))] ++ va_pl L M) → va_S A s.heap H_7 locs → lv_has ls 7 [(3, .int (nI v3w4)), (0, .ref za), (1, .int k1), (2, .int k2)] → W p l e R s m ([.ref za, .int k1, .int k2] : List Value).toArray below meth c H_7 locs 0 0 Q (F0 m 2 ls []) := by
    intro fu_3
    induction fu_3 with
    | zero => intro v3w4 H_7 locs ls h; exact absurd h (Nat.not_lt_zero _)
    | succ fu_3 ih_2 =>
      intro v3w4 H_7 locs ls hfu hx_5 hx_6 hW hP hD hS hl
      refine lv_iload_n hx hb dX13_behind_2 rfl (lv_at hl 0 rfl) ?_
      refine lv_aload_n hx hb dX13_behind_3 rfl (lv_at hl 1 rfl) ?_
      refine va_get (D := D) (ci := 13) (v := .int (nI z2)) (C := RX13) (T := TX13) (N := 20) hx hb hg inG13 hown hK hP 0 rfl rfl 2 (by decide) (hg _ wd_713) (fun _ h9 => h9) rfl dX13_behind_4 ?_
      refine lv_icmp_ge (tgt := 136) hx hb dX13_behind_7 (by decide) (fun c_8 => ?_) (fun c_8 => ?_)
      · have hz := rfl (a := 0)
        have n_9 : z2 ≤ v3w4 := (iLE (a := z2) (b := v3w4) (by omega) (by omega)).mp c_8
        refine lv_iconst (v := (-1)) hx hb dX13_behind_136 (by decide) ?_
        rw [hQ]
        exact W.iret (v := (-1)) hx hb hr (fun t ht hW9 => ⟨⟨(-1), (), rfl, (Or.inl ⟨rfl, fun b hb => hx_6 b (by omega)⟩), ⟨by rw [ht]; exact hP, hD⟩⟩, hS.F ht⟩) hS.2.2 dX13_behind_137
      · have hz := rfl (a := 0)
        have n_10 : ¬ (z2 ≤ v3w4) := fun q => c_8 ((iLE (a := z2) (b := v3w4) (by omega) (by omega)).mpr q)
        refine lv_aload_n hx hb dX13_behind_10 rfl (lv_at hl 1 rfl) ?_
        refine va_get (D := D) (ci := 13) (v := .ref z1) (C := RX13) (T := TX13) (N := 20) hx hb hg inG13 hown hK hP 0 rfl rfl 1 (by decide) (hg _ wd_739) (fun _ h9 => h9) rfl dX13_behind_11 ?_
        refine lv_iload_n hx hb dX13_behind_14 rfl (lv_at hl 0 rfl) ?_
        obtain ⟨f11, hM11, hf11⟩ := hW.open_23 i1
        have hi_12 : vp_in (nI v3w4) 8 := (inbN v3w4 8 (by omega) (by omega))
        refine pg_aldq hx hb hK hP i1.1 9 hM11 rfl hi_12 dX13_behind_15 ?_
        obtain ⟨b13, eb_14, hb_15⟩ := hf11 _ (vp_lt hi_12)
        rw [eb_14]
        have hbz : RFc (M z1) v3w4 = some b13 := by rw [show RFc (M z1) = f11 from by rw [hM11]; rfl]; have h9 := eb_14; rw [nI_cl (by omega)] at h9; exact h9
        have hZk := hZS v3w4 b13 (by omega) hbz
        obtain ⟨fs16, hM16, hn16, hl16⟩ := hW.open_12 hb_15
        obtain ⟨v17, hv17, hc17⟩ : ∃ v : Int32, fs16[1]? = some (.int v : Value) ∧ (v = (-1) ∨ ∃ c : Nat, c < 1000 ∧ v = nI c) := hl16 1 (by decide)
        have hz1 : SX v3w4 1 = (v17 : Int32).toInt := (congrFun hZk.1 1).symm.trans ((fx_of hM16 rfl hv17).trans rfl)
        obtain ⟨v18, hv18, hc18⟩ : ∃ v : Nat, fs16[10]? = some (.int (nI v) : Value) ∧ v ≤ 24 := hl16 10 (by decide)
        have hz10 : SX v3w4 10 = ((v18 : Nat) : Int) := (congrFun hZk.1 10).symm.trans ((fx_of hM16 rfl hv18).trans (nI_toInt (by omega)))
        refine lv_astore (lv' := [(4, .ref b13), (3, .int (nI v3w4)), (0, .ref za), (1, .int k1), (2, .int k2)]) hx hb dX13_behind_16 hl (by decide) rfl (fun ls hl => ?_)
        refine lv_iconst (v := 0) hx hb dX13_behind_18 (by decide) ?_
        refine lv_istore (lv' := [(5, .int 0), (4, .ref b13), (3, .int (nI v3w4)), (0, .ref za), (1, .int k1), (2, .int k2)]) hx hb dX13_behind_19 hl (by decide) rfl (fun ls hl => ?_)
        have key_19 : ∀ (fu_21 : Nat) (v5w22 : Nat) (H_25 : Heap) (locs : List Loc) (ls : Array Slot), 24 - v5w22 < fu_21 → v5w22 ≤ 24 → (∀ i : Nat, i < v5w22 → ¬ (LAGi PK PT SX SY k1.toNatClampNeg k2.toInt v3w4 i)) → WOM cy K L M → va_P D vwCl ([(za, (b13_0 z0 z1 (nI z2) (nI z3) z4 z5 z6 z7 z8 z9 (nI z10) z11 z12 z13 z14 z15 (nI z16) z17 z18 z19))] ++ va_pl L M) H_25 → va_D A ([(za, (b13_0 z0 z1 (nI z2) (nI z3) z4 z5 z6 z7 z8 z9 (nI z10) z11 z12 z13 z14 z15 (nI z16) z17 z18 z19))] ++ va_pl L M) → va_S A s.heap H_25 locs → lv_has ls 7 [(5, .int (nI v5w22)), (4, .ref b13), (3, .int (nI v3w4)), (0, .ref za), (1, .int k1), (2, .int k2)] → W p l e R s m ([.ref za, .int k1, .int k2] : List Value).toArray below meth c H_25 locs 0 0 Q (F0 m 21 ls []) := by
          intro fu_21
          induction fu_21 with
          | zero => intro v5w22 H_25 locs ls h; exact absurd h (Nat.not_lt_zero _)
          | succ fu_21 ih_20 =>
            intro v5w22 H_25 locs ls hfu hx_23 hx_24 hW hP hD hS hl
            refine lv_iload hx hb dX13_behind_21 (lv_at hl 0 rfl) ?_
            refine lv_aload hx hb dX13_behind_23 (lv_at hl 1 rfl) ?_
            refine pg_getN (D := D) (ci := 12) (v := .int (nI v18)) (C := RX12) (T := TX12) (N := 51) hx hb hg inG12 hown hK hP hb_15.1 hM16 rfl 10 (by decide) (hN.use (Cond.fieldLinkNest RX13 68 RX12 "tenures" "I" RX13) 19 rfl rfl) (fun _ h9 => h9) hv18 dX13_behind_25 ?_
            refine lv_icmp_ge (tgt := 130) hx hb dX13_behind_28 (by decide) (fun c_26 => ?_) (fun c_26 => ?_)
            · have hz := rfl (a := 0)
              have n_27 : v18 ≤ v5w22 := (iLE (a := v18) (b := v5w22) (by omega) (by omega)).mp c_26
              have hnl : ¬ (LAG PK PT SX SY k1.toNatClampNeg k2.toInt v3w4) := fun ⟨i, w9⟩ => hx_24 i (by have h9 := w9.1; omega) w9
              refine lv_iinc (v := (nI (v3w4 + 1))) (lv' := [(3, .int (nI (v3w4 + 1))), (5, .int (nI v5w22)), (4, .ref b13), (0, .ref za), (1, .int k1), (2, .int k2)]) hx hb dX13_behind_130 hl (k := 2) rfl (nI_1 v3w4) (by decide) rfl (fun ls hl => ?_)
              refine lv_goto (tgt := 2) hx hb dX13_behind_133 (by decide) ?_
              exact ih_2 (v3w4 + 1) H_25 _ _ (by omega) (by omega) (fun b hb => by by_cases z9 : ¬ b = v3w4; exact hx_6 b (by omega); rw [Classical.not_not.mp z9]; exact hnl) hW hP hD hS (lv_sub hl [0, 3, 4, 5] rfl)
            · have hz := rfl (a := 0)
              have n_28 : ¬ (v18 ≤ v5w22) := fun q => c_26 ((iLE (a := v18) (b := v5w22) (by omega) (by omega)).mpr q)
              refine lv_aload_n hx hb dX13_behind_31 rfl (lv_at hl 3 rfl) ?_
              refine va_get (D := D) (ci := 13) (v := .ref z6) (C := RX13) (T := TX13) (N := 20) hx hb hg inG13 hown hK hP 0 rfl rfl 6 (by decide) (hg _ wd_719) (fun _ h9 => h9) rfl dX13_behind_32 ?_
              refine lv_aload hx hb dX13_behind_35 (lv_at hl 1 rfl) ?_
              obtain ⟨v29, hv29, hc29⟩ : ∃ v : Nat, fs16[19]? = some (.ref v : Value) ∧ isk K L v 30 24 := hl16 19 (by decide)
              refine pg_getN (D := D) (ci := 12) (v := .ref v29) (C := RX12) (T := TX12) (N := 51) hx hb hg inG12 hown hK hP hb_15.1 hM16 rfl 19 (by decide) (hN.use (Cond.fieldLinkNest RX13 72 RX12 "who" "[I" RX13) 28 rfl rfl) (fun _ h9 => h9) hv29 dX13_behind_37 ?_
              refine lv_iload hx hb dX13_behind_40 (lv_at hl 0 rfl) ?_
              obtain ⟨f30, hM30, hf30⟩ := hW.open_30 hc29
              have hi_31 : vp_in (nI v5w22) 24 := (inbN v5w22 24 (by omega) (by omega))
              refine pg_iald hx hb hK hP hc29.1 0 hM30 rfl hi_31 dX13_behind_42 ?_
              have hp_32 := hf30 _ (vp_lt hi_31)
              obtain ⟨c_33, hc_34, ec_35⟩ := hp_32
              rw [ec_35]
              have hw19e : SY v3w4 19 v5w22 = (nI c_33) := by
                have h9 := ec_35
                rw [nI_cl (by omega)] at h9
                rw [← hZk.2, ax_of hM16 (by decide) hv29 hM30]; exact h9
              have hw19 : (SY v3w4 19 v5w22).toInt = ((c_33 : Nat) : Int) := by rw [hw19e]; exact nI_toInt (by omega)
              obtain ⟨f36, hM36, hf36⟩ := hW.open_47 i6
              have hi_37 : vp_in (nI c_33) 40 := (inbN c_33 40 (by omega) (by omega))
              refine pg_iald hx hb hK hP i6.1 0 hM36 rfl hi_37 dX13_behind_43 ?_
              have hp_38 := hf36 _ (vp_lt hi_37)
              obtain ⟨c_39, hc_40, ec_41⟩ := hp_38
              rw [ec_41]
              have hpk : PK (SY v3w4 19 v5w22).toNatClampNeg = (nI c_39) := by
                have h9 := ec_41
                rw [hw19e, ← hZP.1, show IFc (M z6) = f36 from by rw [hM36]; rfl]; exact h9
              have hpki : (PK (SY v3w4 19 v5w22).toNatClampNeg).toInt = ((c_39 : Nat) : Int) := by rw [hpk]; exact nI_toInt (by omega)
              refine lv_iconst (v := 5) hx hb dX13_behind_44 (by decide) ?_
              refine lv_icmp_ne (tgt := 124) hx hb dX13_behind_45 (by decide) (fun c_42 => ?_) (fun c_42 => ?_)
              · have hz := rfl (a := 0)
                have n_43 : ¬ (c_39 = 5) := fun q => c_42 ((iEQ (a := c_39) (b := 5) (by omega) (by omega)).mpr q)
                refine lv_iinc (v := (nI (v5w22 + 1))) (lv' := [(5, .int (nI (v5w22 + 1))), (4, .ref b13), (3, .int (nI v3w4)), (0, .ref za), (1, .int k1), (2, .int k2)]) hx hb dX13_behind_124 hl (k := 0) rfl (nI_1 v5w22) (by decide) rfl (fun ls hl => ?_)
                refine lv_goto (tgt := 21) hx hb dX13_behind_127 (by decide) ?_
                have hI_44 : ((v3w4 : Nat) : Int) < ((z2 : Nat) : Int) := inleI (nI_toInt (by omega)) (nI_toInt (by omega)) c_8
                have hI_45 : ((v5w22 : Nat) : Int) < ((v18 : Nat) : Int) := inleI (nI_toInt (by omega)) (nI_toInt (by omega)) c_26
                have hI_46 : ((c_39 : Nat) : Int) ≠ (5 : Int) := ineI (nI_toInt (by omega)) rfl c_42
                have hck : (k1.toNatClampNeg : Int) = k1.toInt := clT hk1
                have hoi : (ownP PK PT (SY v3w4 19 v5w22)).toInt = -1 := by rw [ownN (fun w9 => by rw [w9, show (5 : Int32).toInt = 5 from rfl] at hpki; omega)]; rfl
                have hm1 : ((-1) : Int32).toInt = -1 := rfl
                exact ih_20 (v5w22 + 1) H_25 _ _ (by omega) (by omega) (fun i hi w9 => by by_cases z9 : ¬ i = v5w22; exact hx_24 i (by omega) w9; have z9 := Classical.not_not.mp z9; subst z9; obtain ⟨w1, w3, w4, w5, w6⟩ := w9; omega) hW hP hD hS (lv_sub hl [0, 1, 2, 3, 4, 5] rfl)
              · have hz := rfl (a := 0)
                have n_47 : c_39 = 5 := (iEQ (a := c_39) (b := 5) (by omega) (by omega)).mp c_42
                refine lv_aload_n hx hb dX13_behind_48 rfl (lv_at hl 3 rfl) ?_
                refine va_get (D := D) (ci := 13) (v := .ref z7) (C := RX13) (T := TX13) (N := 20) hx hb hg inG13 hown hK hP 0 rfl rfl 7 (by decide) (hg _ wd_760) (fun _ h9 => h9) rfl dX13_behind_49 ?_
                refine lv_aload hx hb dX13_behind_52 (lv_at hl 1 rfl) ?_
                refine pg_getN (D := D) (ci := 12) (v := .ref v29) (C := RX12) (T := TX12) (N := 51) hx hb hg inG12 hown hK hP hb_15.1 hM16 rfl 19 (by decide) (hN.use (Cond.fieldLinkNest RX13 72 RX12 "who" "[I" RX13) 28 rfl rfl) (fun _ h9 => h9) hv29 dX13_behind_54 ?_
                refine lv_iload hx hb dX13_behind_57 (lv_at hl 0 rfl) ?_
                refine pg_iald hx hb hK hP hc29.1 0 hM30 rfl (inbN v5w22 24 (by omega) (by omega)) dX13_behind_59 ?_
                rw [ec_35]
                have hw19e : SY v3w4 19 v5w22 = (nI c_33) := by
                  have h9 := ec_35
                  rw [nI_cl (by omega)] at h9
                  rw [← hZk.2, ax_of hM16 (by decide) hv29 hM30]; exact h9
                have hw19 : (SY v3w4 19 v5w22).toInt = ((c_33 : Nat) : Int) := by rw [hw19e]; exact nI_toInt (by omega)
                obtain ⟨f48, hM48⟩ := hW.open_48 i7
                refine pg_iald hx hb hK hP i7.1 0 hM48 rfl (inbN c_33 40 (by omega) (by omega)) dX13_behind_60 ?_
                refine lv_topi (fun f_49 ef_49 => ?_)
                have hpt : PT (SY v3w4 19 v5w22).toNatClampNeg = f_49 := by
                  have h9 := ef_49.symm
                  rw [hw19e, ← hZP.2, show IFc (M z7) = f48 from by rw [hM48]; rfl]; exact h9
                have hpti : (PT (SY v3w4 19 v5w22).toNatClampNeg).toInt = (f_49 : Int32).toInt := congrArg Int32.toInt hpt
                refine lv_iload_n hx hb dX13_behind_61 rfl (lv_at hl 4 rfl) ?_
                refine lv_icmp_ne (tgt := 124) hx hb dX13_behind_62 (by decide) (fun c_50 => ?_) (fun c_50 => ?_)
                · have hz := rfl (a := 0)
                  refine lv_iinc (v := (nI (v5w22 + 1))) (lv' := [(5, .int (nI (v5w22 + 1))), (4, .ref b13), (3, .int (nI v3w4)), (0, .ref za), (1, .int k1), (2, .int k2)]) hx hb dX13_behind_124 hl (k := 0) rfl (nI_1 v5w22) (by decide) rfl (fun ls hl => ?_)
                  refine lv_goto (tgt := 21) hx hb dX13_behind_127 (by decide) ?_
                  have hI_51 : ((v3w4 : Nat) : Int) < ((z2 : Nat) : Int) := inleI (nI_toInt (by omega)) (nI_toInt (by omega)) c_8
                  have hI_52 : ((v5w22 : Nat) : Int) < ((v18 : Nat) : Int) := inleI (nI_toInt (by omega)) (nI_toInt (by omega)) c_26
                  have hI_53 : ((c_39 : Nat) : Int) = (5 : Int) := ieqI (nI_toInt (by omega)) rfl c_42
                  have hI_54 : (f_49 : Int32).toInt ≠ (k1 : Int32).toInt := ineI rfl rfl c_50
                  have hck : (k1.toNatClampNeg : Int) = k1.toInt := clT hk1
                  have hP5 : PK (SY v3w4 19 v5w22).toNatClampNeg = 5 := Int32.toInt.inj (by rw [hpki]; show _ = (5 : Int); omega)
                  have hoi : (ownP PK PT (SY v3w4 19 v5w22)).toInt = (f_49 : Int32).toInt := by rw [own5 hP5]; exact hpti
                  have hm1 : ((-1) : Int32).toInt = -1 := rfl
                  exact ih_20 (v5w22 + 1) H_25 _ _ (by omega) (by omega) (fun i hi w9 => by by_cases z9 : ¬ i = v5w22; exact hx_24 i (by omega) w9; have z9 := Classical.not_not.mp z9; subst z9; obtain ⟨w1, w3, w4, w5, w6⟩ := w9; omega) hW hP hD hS (lv_sub hl [0, 1, 2, 3, 4, 5] rfl)
                · have hz := rfl (a := 0)
                  refine lv_aload hx hb dX13_behind_65 (lv_at hl 1 rfl) ?_
                  obtain ⟨v55, hv55, hc55⟩ : ∃ v : Nat, fs16[21]? = some (.ref v : Value) ∧ isk K L v 75 24 := hl16 21 (by decide)
                  refine pg_getN (D := D) (ci := 12) (v := .ref v55) (C := RX12) (T := TX12) (N := 51) hx hb hg inG12 hown hK hP hb_15.1 hM16 rfl 21 (by decide) (hN.use (Cond.fieldLinkNest RX13 112 RX12 "begin" "[I" RX13) 30 rfl rfl) (fun _ h9 => h9) hv55 dX13_behind_67 ?_
                  refine lv_iload hx hb dX13_behind_70 (lv_at hl 0 rfl) ?_
                  obtain ⟨f56, hM56⟩ := hW.open_75 hc55
                  refine pg_iald hx hb hK hP hc55.1 0 hM56 rfl (inbN v5w22 24 (by omega) (by omega)) dX13_behind_72 ?_
                  refine lv_topi (fun f_57 ef_57 => ?_)
                  have hw21e : SY v3w4 21 v5w22 = f_57 := by
                    have h9 := ef_57.symm
                    rw [nI_cl (by omega)] at h9
                    rw [← hZk.2, ax_of hM16 (by decide) hv55 hM56]; exact h9
                  have hw21 : (SY v3w4 21 v5w22).toInt = (f_57 : Int32).toInt := congrArg Int32.toInt hw21e
                  refine lv_iload_n hx hb dX13_behind_73 rfl (lv_at hl 5 rfl) ?_
                  refine lv_icmp_le (tgt := 80) hx hb dX13_behind_74 (by decide) (fun c_58 => ?_) (fun c_58 => ?_)
                  · have hz := rfl (a := 0)
                    refine lv_aload hx hb dX13_behind_80 (lv_at hl 1 rfl) ?_
                    obtain ⟨v59, hv59, hc59⟩ : ∃ v : Nat, fs16[22]? = some (.ref v : Value) ∧ isk K L v 41 24 := hl16 22 (by decide)
                    refine pg_getN (D := D) (ci := 12) (v := .ref v59) (C := RX12) (T := TX12) (N := 51) hx hb hg inG12 hown hK hP hb_15.1 hM16 rfl 22 (by decide) (hN.use (Cond.fieldLinkNest RX13 95 RX12 "ended" "[I" RX13) 31 rfl rfl) (fun _ h9 => h9) hv59 dX13_behind_82 ?_
                    refine lv_iload hx hb dX13_behind_85 (lv_at hl 0 rfl) ?_
                    obtain ⟨f60, hM60⟩ := hW.open_41 hc59
                    refine pg_iald hx hb hK hP hc59.1 0 hM60 rfl (inbN v5w22 24 (by omega) (by omega)) dX13_behind_87 ?_
                    refine lv_topi (fun f_61 ef_61 => ?_)
                    have hw22ae : SY v3w4 22 v5w22 = f_61 := by
                      have h9 := ef_61.symm
                      rw [nI_cl (by omega)] at h9
                      rw [← hZk.2, ax_of hM16 (by decide) hv59 hM60]; exact h9
                    have hw22a : (SY v3w4 22 v5w22).toInt = (f_61 : Int32).toInt := congrArg Int32.toInt hw22ae
                    refine lv_iconst (v := (-1)) hx hb dX13_behind_88 (by decide) ?_
                    refine lv_icmp_ne (tgt := 96) hx hb dX13_behind_89 (by decide) (fun c_62 => ?_) (fun c_62 => ?_)
                    · have hz := rfl (a := 0)
                      refine lv_iload_n hx hb dX13_behind_96 rfl (lv_at hl 5 rfl) ?_
                      refine lv_aload hx hb dX13_behind_97 (lv_at hl 1 rfl) ?_
                      refine pg_getN (D := D) (ci := 12) (v := .ref v59) (C := RX12) (T := TX12) (N := 51) hx hb hg inG12 hown hK hP hb_15.1 hM16 rfl 22 (by decide) (hN.use (Cond.fieldLinkNest RX13 95 RX12 "ended" "[I" RX13) 31 rfl rfl) (fun _ h9 => h9) hv59 dX13_behind_99 ?_
                      refine lv_iload hx hb dX13_behind_102 (lv_at hl 0 rfl) ?_
                      refine pg_iald hx hb hK hP hc59.1 0 hM60 rfl (inbN v5w22 24 (by omega) (by omega)) dX13_behind_104 ?_
                      refine lv_topi (fun f_63 ef_63 => ?_)
                      have hw22e : SY v3w4 22 v5w22 = f_63 := by
                        have h9 := ef_63.symm
                        rw [nI_cl (by omega)] at h9
                        rw [← hZk.2, ax_of hM16 (by decide) hv59 hM60]; exact h9
                      have hw22 : (SY v3w4 22 v5w22).toInt = (f_63 : Int32).toInt := congrArg Int32.toInt hw22e
                      refine lv_iconst (v := 1) hx hb dX13_behind_105 (by decide) ?_
                      refine lv_isub hx hb dX13_behind_106 ?_
                      refine lv_topi (fun f_64 ef_64 => ?_)
                      refine va_mmin hx hb (by rw [hml]; exact hl.1.symm) hown (hg _ wd_761) (hg _ wd_90) (hg _ wd_12) (hg _ wd_91) (Nat.le_trans (Nat.le_of_ble_eq_true rfl) hRf) (Nat.le_trans (Nat.le_of_ble_eq_true rfl) hRl) (Nat.le_trans (Nat.le_of_ble_eq_true rfl) hRc) (Nat.le_trans (Nat.le_of_ble_eq_true rfl) hRs) dX13_behind_107 ?_
                      refine lv_topi (fun f_65 ef_65 => ?_)
                      refine lv_istore (lv' := [(6, .int f_65), (5, .int (nI v5w22)), (4, .ref b13), (3, .int (nI v3w4)), (0, .ref za), (1, .int k1), (2, .int k2)]) hx hb dX13_behind_110 hl (by decide) rfl (fun ls hl => ?_)
                      refine lv_aload hx hb dX13_behind_112 (lv_at hl 2 rfl) ?_
                      refine pg_getN (D := D) (ci := 12) (v := .int v17) (C := RX12) (T := TX12) (N := 51) hx hb hg inG12 hown hK hP hb_15.1 hM16 rfl 1 (by decide) (hN.use (Cond.fieldLinkNest RX13 80 RX12 "to" "I" RX13) 10 rfl rfl) (fun _ h9 => h9) hv17 dX13_behind_114 ?_
                      rcases hc17 with rfl | ⟨c_66, hc_67, rfl⟩
                      · have hz := rfl (a := 0)
                        refine lv_iload hx hb dX13_behind_117 (lv_at hl 0 rfl) ?_
                        refine lv_icmp_ge (tgt := 124) hx hb dX13_behind_119 (by decide) (fun c_68 => ?_) (fun c_68 => ?_)
                        · have hz := rfl (a := 0)
                          refine lv_iinc (v := (nI (v5w22 + 1))) (lv' := [(5, .int (nI (v5w22 + 1))), (6, .int f_65), (4, .ref b13), (3, .int (nI v3w4)), (0, .ref za), (1, .int k1), (2, .int k2)]) hx hb dX13_behind_124 hl (k := 1) rfl (nI_1 v5w22) (by decide) rfl (fun ls hl => ?_)
                          refine lv_goto (tgt := 21) hx hb dX13_behind_127 (by decide) ?_
                          have hI_69 : ((v3w4 : Nat) : Int) < ((z2 : Nat) : Int) := inleI (nI_toInt (by omega)) (nI_toInt (by omega)) c_8
                          have hI_70 : ((v5w22 : Nat) : Int) < ((v18 : Nat) : Int) := inleI (nI_toInt (by omega)) (nI_toInt (by omega)) c_26
                          have hI_71 : ((c_39 : Nat) : Int) = (5 : Int) := ieqI (nI_toInt (by omega)) rfl c_42
                          have hI_72 : (f_49 : Int32).toInt = (k1 : Int32).toInt := ieqI rfl rfl c_50
                          have hI_73 : (f_57 : Int32).toInt ≤ (k2 : Int32).toInt := ileI rfl rfl c_58
                          have hI_74 : (f_61 : Int32).toInt ≠ (-1) := ineI rfl rfl c_62
                          have hI_75 : (f_65 : Int32).toInt ≤ (-1) := ileI rfl rfl c_68
                          have hck : (k1.toNatClampNeg : Int) = k1.toInt := clT hk1
                          have hP5 : PK (SY v3w4 19 v5w22).toNatClampNeg = 5 := Int32.toInt.inj (by rw [hpki]; show _ = (5 : Int); omega)
                          have hoi : (ownP PK PT (SY v3w4 19 v5w22)).toInt = (f_49 : Int32).toInt := by rw [own5 hP5]; exact hpti
                          have hf1 : (SY v3w4 22 v5w22 - 1).toInt = (f_64 : Int32).toInt := by rw [hw22e, ef_64]
                          have hm1 : ((-1) : Int32).toInt = -1 := rfl
                          have hmn := minx ef_65
                          exact ih_20 (v5w22 + 1) H_25 _ _ (by omega) (by omega) (fun i hi w9 => by by_cases z9 : ¬ i = v5w22; exact hx_24 i (by omega) w9; have z9 := Classical.not_not.mp z9; subst z9; obtain ⟨w1, w3, w4, w5, w6⟩ := w9; omega) hW hP hD hS (lv_sub hl [0, 2, 3, 4, 5, 6] rfl)
                        · have hz := rfl (a := 0)
                          refine lv_iload_n hx hb dX13_behind_122 rfl (lv_at hl 3 rfl) ?_
                          have hI_76 : ((v3w4 : Nat) : Int) < ((z2 : Nat) : Int) := inleI (nI_toInt (by omega)) (nI_toInt (by omega)) c_8
                          have hI_77 : ((v5w22 : Nat) : Int) < ((v18 : Nat) : Int) := inleI (nI_toInt (by omega)) (nI_toInt (by omega)) c_26
                          have hI_78 : ((c_39 : Nat) : Int) = (5 : Int) := ieqI (nI_toInt (by omega)) rfl c_42
                          have hI_79 : (f_49 : Int32).toInt = (k1 : Int32).toInt := ieqI rfl rfl c_50
                          have hI_80 : (f_57 : Int32).toInt ≤ (k2 : Int32).toInt := ileI rfl rfl c_58
                          have hI_81 : (f_61 : Int32).toInt ≠ (-1) := ineI rfl rfl c_62
                          have hI_82 : (-1) < (f_65 : Int32).toInt := inleI rfl rfl c_68
                          have hck : (k1.toNatClampNeg : Int) = k1.toInt := clT hk1
                          have hP5 : PK (SY v3w4 19 v5w22).toNatClampNeg = 5 := Int32.toInt.inj (by rw [hpki]; show _ = (5 : Int); omega)
                          have hoi : (ownP PK PT (SY v3w4 19 v5w22)).toInt = (f_49 : Int32).toInt := by rw [own5 hP5]; exact hpti
                          have hf1 : (SY v3w4 22 v5w22 - 1).toInt = (f_64 : Int32).toInt := by rw [hw22e, ef_64]
                          have hm1 : ((-1) : Int32).toInt = -1 := rfl
                          have hmn := minx ef_65
                          rw [hQ]
                          exact W.iret (v := (nI v3w4)) hx hb hr (fun t ht hW9 => ⟨⟨(nI v3w4), (), rfl, (Or.inr ⟨v3w4, rfl, by omega, by omega, ⟨v5w22, by omega, by omega, by omega, by omega, by omega⟩, hx_6⟩), ⟨by rw [ht]; exact hP, hD⟩⟩, hS.F ht⟩) hS.2.2 dX13_behind_123
                      · have hz := rfl (a := 0)
                        refine lv_iload hx hb dX13_behind_117 (lv_at hl 0 rfl) ?_
                        refine lv_icmp_ge (tgt := 124) hx hb dX13_behind_119 (by decide) (fun c_83 => ?_) (fun c_83 => ?_)
                        · have hz := rfl (a := 0)
                          refine lv_iinc (v := (nI (v5w22 + 1))) (lv' := [(5, .int (nI (v5w22 + 1))), (6, .int f_65), (4, .ref b13), (3, .int (nI v3w4)), (0, .ref za), (1, .int k1), (2, .int k2)]) hx hb dX13_behind_124 hl (k := 1) rfl (nI_1 v5w22) (by decide) rfl (fun ls hl => ?_)
                          refine lv_goto (tgt := 21) hx hb dX13_behind_127 (by decide) ?_
                          have hI_84 : ((v3w4 : Nat) : Int) < ((z2 : Nat) : Int) := inleI (nI_toInt (by omega)) (nI_toInt (by omega)) c_8
                          have hI_85 : ((v5w22 : Nat) : Int) < ((v18 : Nat) : Int) := inleI (nI_toInt (by omega)) (nI_toInt (by omega)) c_26
                          have hI_86 : ((c_39 : Nat) : Int) = (5 : Int) := ieqI (nI_toInt (by omega)) rfl c_42
                          have hI_87 : (f_49 : Int32).toInt = (k1 : Int32).toInt := ieqI rfl rfl c_50
                          have hI_88 : (f_57 : Int32).toInt ≤ (k2 : Int32).toInt := ileI rfl rfl c_58
                          have hI_89 : (f_61 : Int32).toInt ≠ (-1) := ineI rfl rfl c_62
                          have hI_90 : (f_65 : Int32).toInt ≤ ((c_66 : Nat) : Int) := ileI rfl (nI_toInt (by omega)) c_83
                          have hck : (k1.toNatClampNeg : Int) = k1.toInt := clT hk1
                          have hP5 : PK (SY v3w4 19 v5w22).toNatClampNeg = 5 := Int32.toInt.inj (by rw [hpki]; show _ = (5 : Int); omega)
                          have hoi : (ownP PK PT (SY v3w4 19 v5w22)).toInt = (f_49 : Int32).toInt := by rw [own5 hP5]; exact hpti
                          have hf1 : (SY v3w4 22 v5w22 - 1).toInt = (f_64 : Int32).toInt := by rw [hw22e, ef_64]
                          have hm1 : ((-1) : Int32).toInt = -1 := rfl
                          have hz1n : ((nI c_66) : Int32).toInt = ((c_66 : Nat) : Int) := nI_toInt (by omega)
                          have hmn := minx ef_65
                          exact ih_20 (v5w22 + 1) H_25 _ _ (by omega) (by omega) (fun i hi w9 => by by_cases z9 : ¬ i = v5w22; exact hx_24 i (by omega) w9; have z9 := Classical.not_not.mp z9; subst z9; obtain ⟨w1, w3, w4, w5, w6⟩ := w9; omega) hW hP hD hS (lv_sub hl [0, 2, 3, 4, 5, 6] rfl)
                        · have hz := rfl (a := 0)
                          refine lv_iload_n hx hb dX13_behind_122 rfl (lv_at hl 3 rfl) ?_
                          have hI_91 : ((v3w4 : Nat) : Int) < ((z2 : Nat) : Int) := inleI (nI_toInt (by omega)) (nI_toInt (by omega)) c_8
                          have hI_92 : ((v5w22 : Nat) : Int) < ((v18 : Nat) : Int) := inleI (nI_toInt (by omega)) (nI_toInt (by omega)) c_26
                          have hI_93 : ((c_39 : Nat) : Int) = (5 : Int) := ieqI (nI_toInt (by omega)) rfl c_42
                          have hI_94 : (f_49 : Int32).toInt = (k1 : Int32).toInt := ieqI rfl rfl c_50
                          have hI_95 : (f_57 : Int32).toInt ≤ (k2 : Int32).toInt := ileI rfl rfl c_58
                          have hI_96 : (f_61 : Int32).toInt ≠ (-1) := ineI rfl rfl c_62
                          have hI_97 : ((c_66 : Nat) : Int) < (f_65 : Int32).toInt := inleI rfl (nI_toInt (by omega)) c_83
                          have hck : (k1.toNatClampNeg : Int) = k1.toInt := clT hk1
                          have hP5 : PK (SY v3w4 19 v5w22).toNatClampNeg = 5 := Int32.toInt.inj (by rw [hpki]; show _ = (5 : Int); omega)
                          have hoi : (ownP PK PT (SY v3w4 19 v5w22)).toInt = (f_49 : Int32).toInt := by rw [own5 hP5]; exact hpti
                          have hf1 : (SY v3w4 22 v5w22 - 1).toInt = (f_64 : Int32).toInt := by rw [hw22e, ef_64]
                          have hm1 : ((-1) : Int32).toInt = -1 := rfl
                          have hz1n : ((nI c_66) : Int32).toInt = ((c_66 : Nat) : Int) := nI_toInt (by omega)
                          have hmn := minx ef_65
                          rw [hQ]
                          exact W.iret (v := (nI v3w4)) hx hb hr (fun t ht hW9 => ⟨⟨(nI v3w4), (), rfl, (Or.inr ⟨v3w4, rfl, by omega, by omega, ⟨v5w22, by omega, by omega, by omega, by omega, by omega⟩, hx_6⟩), ⟨by rw [ht]; exact hP, hD⟩⟩, hS.F ht⟩) hS.2.2 dX13_behind_123
                    · have hz := rfl (a := 0)
                      refine lv_iload_n hx hb dX13_behind_92 rfl (lv_at hl 5 rfl) ?_
                      refine lv_goto (tgt := 110) hx hb dX13_behind_93 (by decide) ?_
                      refine lv_istore (lv' := [(6, .int k2), (5, .int (nI v5w22)), (4, .ref b13), (3, .int (nI v3w4)), (0, .ref za), (1, .int k1), (2, .int k2)]) hx hb dX13_behind_110 hl (by decide) rfl (fun ls hl => ?_)
                      refine lv_aload hx hb dX13_behind_112 (lv_at hl 2 rfl) ?_
                      refine pg_getN (D := D) (ci := 12) (v := .int v17) (C := RX12) (T := TX12) (N := 51) hx hb hg inG12 hown hK hP hb_15.1 hM16 rfl 1 (by decide) (hN.use (Cond.fieldLinkNest RX13 80 RX12 "to" "I" RX13) 10 rfl rfl) (fun _ h9 => h9) hv17 dX13_behind_114 ?_
                      rcases hc17 with rfl | ⟨c_98, hc_99, rfl⟩
                      · have hz := rfl (a := 0)
                        refine lv_iload hx hb dX13_behind_117 (lv_at hl 0 rfl) ?_
                        refine lv_icmp_ge (tgt := 124) hx hb dX13_behind_119 (by decide) (fun c_100 => ?_) (fun c_100 => ?_)
                        · have hz := rfl (a := 0)
                          refine lv_iinc (v := (nI (v5w22 + 1))) (lv' := [(5, .int (nI (v5w22 + 1))), (6, .int k2), (4, .ref b13), (3, .int (nI v3w4)), (0, .ref za), (1, .int k1), (2, .int k2)]) hx hb dX13_behind_124 hl (k := 1) rfl (nI_1 v5w22) (by decide) rfl (fun ls hl => ?_)
                          refine lv_goto (tgt := 21) hx hb dX13_behind_127 (by decide) ?_
                          have hI_101 : ((v3w4 : Nat) : Int) < ((z2 : Nat) : Int) := inleI (nI_toInt (by omega)) (nI_toInt (by omega)) c_8
                          have hI_102 : ((v5w22 : Nat) : Int) < ((v18 : Nat) : Int) := inleI (nI_toInt (by omega)) (nI_toInt (by omega)) c_26
                          have hI_103 : ((c_39 : Nat) : Int) = (5 : Int) := ieqI (nI_toInt (by omega)) rfl c_42
                          have hI_104 : (f_49 : Int32).toInt = (k1 : Int32).toInt := ieqI rfl rfl c_50
                          have hI_105 : (f_57 : Int32).toInt ≤ (k2 : Int32).toInt := ileI rfl rfl c_58
                          have hI_106 : (f_61 : Int32).toInt = (-1) := ieqI rfl rfl c_62
                          have hI_107 : (k2 : Int32).toInt ≤ (-1) := ileI rfl rfl c_100
                          have hck : (k1.toNatClampNeg : Int) = k1.toInt := clT hk1
                          have hP5 : PK (SY v3w4 19 v5w22).toNatClampNeg = 5 := Int32.toInt.inj (by rw [hpki]; show _ = (5 : Int); omega)
                          have hoi : (ownP PK PT (SY v3w4 19 v5w22)).toInt = (f_49 : Int32).toInt := by rw [own5 hP5]; exact hpti
                          have hm1 : ((-1) : Int32).toInt = -1 := rfl
                          exact ih_20 (v5w22 + 1) H_25 _ _ (by omega) (by omega) (fun i hi w9 => by by_cases z9 : ¬ i = v5w22; exact hx_24 i (by omega) w9; have z9 := Classical.not_not.mp z9; subst z9; obtain ⟨w1, w3, w4, w5, w6⟩ := w9; omega) hW hP hD hS (lv_sub hl [0, 2, 3, 4, 5, 6] rfl)
                        · have hz := rfl (a := 0)
                          refine lv_iload_n hx hb dX13_behind_122 rfl (lv_at hl 3 rfl) ?_
                          have hI_108 : ((v3w4 : Nat) : Int) < ((z2 : Nat) : Int) := inleI (nI_toInt (by omega)) (nI_toInt (by omega)) c_8
                          have hI_109 : ((v5w22 : Nat) : Int) < ((v18 : Nat) : Int) := inleI (nI_toInt (by omega)) (nI_toInt (by omega)) c_26
                          have hI_110 : ((c_39 : Nat) : Int) = (5 : Int) := ieqI (nI_toInt (by omega)) rfl c_42
                          have hI_111 : (f_49 : Int32).toInt = (k1 : Int32).toInt := ieqI rfl rfl c_50
                          have hI_112 : (f_57 : Int32).toInt ≤ (k2 : Int32).toInt := ileI rfl rfl c_58
                          have hI_113 : (f_61 : Int32).toInt = (-1) := ieqI rfl rfl c_62
                          have hI_114 : (-1) < (k2 : Int32).toInt := inleI rfl rfl c_100
                          have hck : (k1.toNatClampNeg : Int) = k1.toInt := clT hk1
                          have hP5 : PK (SY v3w4 19 v5w22).toNatClampNeg = 5 := Int32.toInt.inj (by rw [hpki]; show _ = (5 : Int); omega)
                          have hoi : (ownP PK PT (SY v3w4 19 v5w22)).toInt = (f_49 : Int32).toInt := by rw [own5 hP5]; exact hpti
                          have hm1 : ((-1) : Int32).toInt = -1 := rfl
                          rw [hQ]
                          exact W.iret (v := (nI v3w4)) hx hb hr (fun t ht hW9 => ⟨⟨(nI v3w4), (), rfl, (Or.inr ⟨v3w4, rfl, by omega, by omega, ⟨v5w22, by omega, by omega, by omega, by omega, by omega⟩, hx_6⟩), ⟨by rw [ht]; exact hP, hD⟩⟩, hS.F ht⟩) hS.2.2 dX13_behind_123
                      · have hz := rfl (a := 0)
                        refine lv_iload hx hb dX13_behind_117 (lv_at hl 0 rfl) ?_
                        refine lv_icmp_ge (tgt := 124) hx hb dX13_behind_119 (by decide) (fun c_115 => ?_) (fun c_115 => ?_)
                        · have hz := rfl (a := 0)
                          refine lv_iinc (v := (nI (v5w22 + 1))) (lv' := [(5, .int (nI (v5w22 + 1))), (6, .int k2), (4, .ref b13), (3, .int (nI v3w4)), (0, .ref za), (1, .int k1), (2, .int k2)]) hx hb dX13_behind_124 hl (k := 1) rfl (nI_1 v5w22) (by decide) rfl (fun ls hl => ?_)
                          refine lv_goto (tgt := 21) hx hb dX13_behind_127 (by decide) ?_
                          have hI_116 : ((v3w4 : Nat) : Int) < ((z2 : Nat) : Int) := inleI (nI_toInt (by omega)) (nI_toInt (by omega)) c_8
                          have hI_117 : ((v5w22 : Nat) : Int) < ((v18 : Nat) : Int) := inleI (nI_toInt (by omega)) (nI_toInt (by omega)) c_26
                          have hI_118 : ((c_39 : Nat) : Int) = (5 : Int) := ieqI (nI_toInt (by omega)) rfl c_42
                          have hI_119 : (f_49 : Int32).toInt = (k1 : Int32).toInt := ieqI rfl rfl c_50
                          have hI_120 : (f_57 : Int32).toInt ≤ (k2 : Int32).toInt := ileI rfl rfl c_58
                          have hI_121 : (f_61 : Int32).toInt = (-1) := ieqI rfl rfl c_62
                          have hI_122 : (k2 : Int32).toInt ≤ ((c_98 : Nat) : Int) := ileI rfl (nI_toInt (by omega)) c_115
                          have hck : (k1.toNatClampNeg : Int) = k1.toInt := clT hk1
                          have hP5 : PK (SY v3w4 19 v5w22).toNatClampNeg = 5 := Int32.toInt.inj (by rw [hpki]; show _ = (5 : Int); omega)
                          have hoi : (ownP PK PT (SY v3w4 19 v5w22)).toInt = (f_49 : Int32).toInt := by rw [own5 hP5]; exact hpti
                          have hm1 : ((-1) : Int32).toInt = -1 := rfl
                          have hz1n : ((nI c_98) : Int32).toInt = ((c_98 : Nat) : Int) := nI_toInt (by omega)
                          exact ih_20 (v5w22 + 1) H_25 _ _ (by omega) (by omega) (fun i hi w9 => by by_cases z9 : ¬ i = v5w22; exact hx_24 i (by omega) w9; have z9 := Classical.not_not.mp z9; subst z9; obtain ⟨w1, w3, w4, w5, w6⟩ := w9; omega) hW hP hD hS (lv_sub hl [0, 2, 3, 4, 5, 6] rfl)
                        · have hz := rfl (a := 0)
                          refine lv_iload_n hx hb dX13_behind_122 rfl (lv_at hl 3 rfl) ?_
                          have hI_123 : ((v3w4 : Nat) : Int) < ((z2 : Nat) : Int) := inleI (nI_toInt (by omega)) (nI_toInt (by omega)) c_8
                          have hI_124 : ((v5w22 : Nat) : Int) < ((v18 : Nat) : Int) := inleI (nI_toInt (by omega)) (nI_toInt (by omega)) c_26
                          have hI_125 : ((c_39 : Nat) : Int) = (5 : Int) := ieqI (nI_toInt (by omega)) rfl c_42
                          have hI_126 : (f_49 : Int32).toInt = (k1 : Int32).toInt := ieqI rfl rfl c_50
                          have hI_127 : (f_57 : Int32).toInt ≤ (k2 : Int32).toInt := ileI rfl rfl c_58
                          have hI_128 : (f_61 : Int32).toInt = (-1) := ieqI rfl rfl c_62
                          have hI_129 : ((c_98 : Nat) : Int) < (k2 : Int32).toInt := inleI rfl (nI_toInt (by omega)) c_115
                          have hck : (k1.toNatClampNeg : Int) = k1.toInt := clT hk1
                          have hP5 : PK (SY v3w4 19 v5w22).toNatClampNeg = 5 := Int32.toInt.inj (by rw [hpki]; show _ = (5 : Int); omega)
                          have hoi : (ownP PK PT (SY v3w4 19 v5w22)).toInt = (f_49 : Int32).toInt := by rw [own5 hP5]; exact hpti
                          have hm1 : ((-1) : Int32).toInt = -1 := rfl
                          have hz1n : ((nI c_98) : Int32).toInt = ((c_98 : Nat) : Int) := nI_toInt (by omega)
                          rw [hQ]
                          exact W.iret (v := (nI v3w4)) hx hb hr (fun t ht hW9 => ⟨⟨(nI v3w4), (), rfl, (Or.inr ⟨v3w4, rfl, by omega, by omega, ⟨v5w22, by omega, by omega, by omega, by omega, by omega⟩, hx_6⟩), ⟨by rw [ht]; exact hP, hD⟩⟩, hS.F ht⟩) hS.2.2 dX13_behind_123
                  · have hz := rfl (a := 0)
                    refine lv_goto (tgt := 124) hx hb dX13_behind_77 (by decide) ?_
                    refine lv_iinc (v := (nI (v5w22 + 1))) (lv' := [(5, .int (nI (v5w22 + 1))), (4, .ref b13), (3, .int (nI v3w4)), (0, .ref za), (1, .int k1), (2, .int k2)]) hx hb dX13_behind_124 hl (k := 0) rfl (nI_1 v5w22) (by decide) rfl (fun ls hl => ?_)
                    refine lv_goto (tgt := 21) hx hb dX13_behind_127 (by decide) ?_
                    have hI_130 : ((v3w4 : Nat) : Int) < ((z2 : Nat) : Int) := inleI (nI_toInt (by omega)) (nI_toInt (by omega)) c_8
                    have hI_131 : ((v5w22 : Nat) : Int) < ((v18 : Nat) : Int) := inleI (nI_toInt (by omega)) (nI_toInt (by omega)) c_26
                    have hI_132 : ((c_39 : Nat) : Int) = (5 : Int) := ieqI (nI_toInt (by omega)) rfl c_42
                    have hI_133 : (f_49 : Int32).toInt = (k1 : Int32).toInt := ieqI rfl rfl c_50
                    have hI_134 : (k2 : Int32).toInt < (f_57 : Int32).toInt := inleI rfl rfl c_58
                    have hck : (k1.toNatClampNeg : Int) = k1.toInt := clT hk1
                    have hP5 : PK (SY v3w4 19 v5w22).toNatClampNeg = 5 := Int32.toInt.inj (by rw [hpki]; show _ = (5 : Int); omega)
                    have hoi : (ownP PK PT (SY v3w4 19 v5w22)).toInt = (f_49 : Int32).toInt := by rw [own5 hP5]; exact hpti
                    have hm1 : ((-1) : Int32).toInt = -1 := rfl
                    exact ih_20 (v5w22 + 1) H_25 _ _ (by omega) (by omega) (fun i hi w9 => by by_cases z9 : ¬ i = v5w22; exact hx_24 i (by omega) w9; have z9 := Classical.not_not.mp z9; subst z9; obtain ⟨w1, w3, w4, w5, w6⟩ := w9; omega) hW hP hD hS (lv_sub hl [0, 1, 2, 3, 4, 5] rfl)
        exact key_19 (24 - 0 + 1) 0 H_7 _ _ (by omega) (by omega) (fun i h => absurd h (Nat.not_lt_zero _)) hW hP hD hS (lv_sub hl [0, 1, 2, 3, 4, 5] rfl)
  exact key_1 (8 - 0 + 1) 0 s.heap _ _ (by omega) (by omega) (fun b h => absurd h (Nat.not_lt_zero _)) hW hP hD hS (lv_sub hl [0, 1, 2, 3] rfl)
