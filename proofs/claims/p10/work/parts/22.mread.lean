theorem dX12_isUnlike_0 : decode cX12_isUnlike 0 = .ok (.aload_n 0, 1) := by decide +kernel
theorem dX12_isUnlike_1 : decode cX12_isUnlike 1 = .ok (.getfield 80, 3) := by decide +kernel
theorem dX12_isUnlike_4 : decode cX12_isUnlike 4 = .ok (.iload_n 1, 1) := by decide +kernel
theorem dX12_isUnlike_5 : decode cX12_isUnlike 5 = .ok (.iaload, 1) := by decide +kernel
theorem dX12_isUnlike_6 : decode cX12_isUnlike 6 = .ok (.aload_n 0, 1) := by decide +kernel
theorem dX12_isUnlike_7 : decode cX12_isUnlike 7 = .ok (.getfield 80, 3) := by decide +kernel
theorem dX12_isUnlike_10 : decode cX12_isUnlike 10 = .ok (.iload_n 1, 1) := by decide +kernel
theorem dX12_isUnlike_11 : decode cX12_isUnlike 11 = .ok (.iconst 1, 1) := by decide +kernel
theorem dX12_isUnlike_12 : decode cX12_isUnlike 12 = .ok (.isub, 1) := by decide +kernel
theorem dX12_isUnlike_13 : decode cX12_isUnlike 13 = .ok (.iaload, 1) := by decide +kernel
theorem dX12_isUnlike_14 : decode cX12_isUnlike 14 = .ok (.if_icmp .eq 7, 3) := by decide +kernel
theorem dX12_isUnlike_17 : decode cX12_isUnlike 17 = .ok (.iconst 1, 1) := by decide +kernel
theorem dX12_isUnlike_18 : decode cX12_isUnlike 18 = .ok (.goto 4, 3) := by decide +kernel
theorem dX12_isUnlike_21 : decode cX12_isUnlike 21 = .ok (.iconst 0, 1) := by decide +kernel
theorem dX12_isUnlike_22 : decode cX12_isUnlike 22 = .ok (.istore_n 2, 1) := by decide +kernel
theorem dX12_isUnlike_23 : decode cX12_isUnlike 23 = .ok (.iconst 0, 1) := by decide +kernel
theorem dX12_isUnlike_24 : decode cX12_isUnlike 24 = .ok (.istore_n 3, 1) := by decide +kernel
theorem dX12_isUnlike_25 : decode cX12_isUnlike 25 = .ok (.iload_n 3, 1) := by decide +kernel
theorem dX12_isUnlike_26 : decode cX12_isUnlike 26 = .ok (.bipush 24, 2) := by decide +kernel
theorem dX12_isUnlike_28 : decode cX12_isUnlike 28 = .ok (.if_icmp .ge 46, 3) := by decide +kernel
theorem dX12_isUnlike_31 : decode cX12_isUnlike 31 = .ok (.iload_n 2, 1) := by decide +kernel
theorem dX12_isUnlike_32 : decode cX12_isUnlike 32 = .ok (.ifCond .ne 30, 3) := by decide +kernel
theorem dX12_isUnlike_35 : decode cX12_isUnlike 35 = .ok (.aload_n 0, 1) := by decide +kernel
theorem dX12_isUnlike_36 : decode cX12_isUnlike 36 = .ok (.getfield 83, 3) := by decide +kernel
theorem dX12_isUnlike_39 : decode cX12_isUnlike 39 = .ok (.bipush 24, 2) := by decide +kernel
theorem dX12_isUnlike_41 : decode cX12_isUnlike 41 = .ok (.iload_n 1, 1) := by decide +kernel
theorem dX12_isUnlike_42 : decode cX12_isUnlike 42 = .ok (.imul, 1) := by decide +kernel
theorem dX12_isUnlike_43 : decode cX12_isUnlike 43 = .ok (.iload_n 3, 1) := by decide +kernel
theorem dX12_isUnlike_44 : decode cX12_isUnlike 44 = .ok (.iadd, 1) := by decide +kernel
theorem dX12_isUnlike_45 : decode cX12_isUnlike 45 = .ok (.iaload, 1) := by decide +kernel
theorem dX12_isUnlike_46 : decode cX12_isUnlike 46 = .ok (.aload_n 0, 1) := by decide +kernel
theorem dX12_isUnlike_47 : decode cX12_isUnlike 47 = .ok (.getfield 83, 3) := by decide +kernel
theorem dX12_isUnlike_50 : decode cX12_isUnlike 50 = .ok (.bipush 24, 2) := by decide +kernel
theorem dX12_isUnlike_52 : decode cX12_isUnlike 52 = .ok (.iload_n 1, 1) := by decide +kernel
theorem dX12_isUnlike_53 : decode cX12_isUnlike 53 = .ok (.iconst 1, 1) := by decide +kernel
theorem dX12_isUnlike_54 : decode cX12_isUnlike 54 = .ok (.isub, 1) := by decide +kernel
theorem dX12_isUnlike_55 : decode cX12_isUnlike 55 = .ok (.imul, 1) := by decide +kernel
theorem dX12_isUnlike_56 : decode cX12_isUnlike 56 = .ok (.iload_n 3, 1) := by decide +kernel
theorem dX12_isUnlike_57 : decode cX12_isUnlike 57 = .ok (.iadd, 1) := by decide +kernel
theorem dX12_isUnlike_58 : decode cX12_isUnlike 58 = .ok (.iaload, 1) := by decide +kernel
theorem dX12_isUnlike_59 : decode cX12_isUnlike 59 = .ok (.if_icmp .eq 7, 3) := by decide +kernel
theorem dX12_isUnlike_62 : decode cX12_isUnlike 62 = .ok (.iconst 1, 1) := by decide +kernel
theorem dX12_isUnlike_63 : decode cX12_isUnlike 63 = .ok (.goto 4, 3) := by decide +kernel
theorem dX12_isUnlike_66 : decode cX12_isUnlike 66 = .ok (.iconst 0, 1) := by decide +kernel
theorem dX12_isUnlike_67 : decode cX12_isUnlike 67 = .ok (.istore_n 2, 1) := by decide +kernel
theorem dX12_isUnlike_68 : decode cX12_isUnlike 68 = .ok (.iinc 3 1, 3) := by decide +kernel
theorem dX12_isUnlike_71 : decode cX12_isUnlike 71 = .ok (.goto (-46), 3) := by decide +kernel
theorem dX12_isUnlike_74 : decode cX12_isUnlike 74 = .ok (.iload_n 2, 1) := by decide +kernel
theorem dX12_isUnlike_75 : decode cX12_isUnlike 75 = .ok (.ireturn, 1) := by decide +kernel
theorem wd_709 : Cond.fieldLink RX12 80 RX12 "thousandths" "[I" ∈ lw_good := mem_t5 165 (by decide +kernel) rfl
set_option maxHeartbeats 4000000 in
set_option maxRecDepth 100000 in
theorem r_X12_isUnlike (l : Launch) (D : va_G) (cy : Nat → ClassId) (K : Kp) (L : List Nat) (M : Hp) (sz : Nat) (oa : Nat) (k1 : Nat) (hW : WOM cy K L M) (ia : isk K L oa 12 0) (nk1 : k1 < 16) (g1 : 1 ≤ k1) : Met l yX12_isUnlike (wsM yX12_isUnlike cX12_isUnlike 4 (some .boolean)) ({ frames := 0, cells := 0, slots := 0, locals := 0 }) (va_Pc [.ref oa, .int (nI k1)] (PG D cy [] L M sz)) (va_Qi (fun (r : Int32) (_ : Unit) => (r = 1) ∨ (r = 0)) (fun _ t => PQ D [] L M (va_A ([] ++ va_pl L M) sz) t) (va_A ([] ++ va_pl L M) sz)) 0 0 (va_A ([] ++ va_pl L M) sz) := by
  refine Met.ofW (cc := cX12_isUnlike) (maxL := 4) (ret := (some .boolean)) (by decide) rfl ?_
  intro p e s m args below meth c s₁ B hml hv
  obtain ⟨rfl, hsz, hP, hK, hD0, hN⟩ := hv
  have hx := B.exec
  have hb := B.bytes
  have hr := B.returns
  have hts := atoms_spec (ws := (wsM yX12_isUnlike cX12_isUnlike 4 (some .boolean))) B.pre
  have hg : ∀ w ∈ lw_good, w.before _ s = true := fun w h => hts w (List.mem_cons_of_mem _ h)
  have hown : s.vm.findClass RX12 = some m.cls := findClass_of_methodNamed B.named
  have hlocks := B.notSynchronized
  subst hsz
  have hD := hD0.self (sz := s.heap.size)
  generalize hAe : va_A ([] ++ va_pl L M) s.heap.size = A at hD ⊢
  have hA : ∀ q : Nat, s.heap.size ≤ q → A q := fun q h => by rw [← hAe]; exact Or.inr h
  have hS : va_S A s.heap s.heap [] := va_S.rf
  have hl := lv_entry ([.ref oa, .int (nI k1)]) (n := 4) (Nat.le_of_ble_eq_true rfl)
  rw [lg_entry_eq]
  generalize (lg_sl ([.ref oa, .int (nI k1)]) ++ List.replicate (4 - (lg_sl ([.ref oa, .int (nI k1)])).length) Slot.unset).toArray = ls at hl ⊢
  refine W.nameQ (fun Q hQ => ?_)
  refine W.nameR (fun R hR => ?_)
  have hRf : 0 ≤ R.frames := by rw [hR]; exact Nat.le_of_ble_eq_true rfl
  have hRl : 0 ≤ R.locals := by rw [hR]; exact Nat.le_of_ble_eq_true rfl
  have hRc : 0 ≤ R.cells := by rw [hR]; exact Nat.le_of_ble_eq_true rfl
  have hRs : 0 ≤ R.slots := by rw [hR]; exact Nat.le_of_ble_eq_true rfl
  have hl : lv_has ls 4 [(0, .ref oa), (1, .int (nI k1))] := hl
  refine lv_aload_n hx hb dX12_isUnlike_0 rfl (lv_at hl 0 rfl) ?_
  obtain ⟨fs1, hM1, hn1, hl1⟩ := hW.open_12 ia
  obtain ⟨v2, hv2, hc2⟩ : ∃ v : Nat, fs1[35]? = some (.ref v : Value) ∧ isk K L v 77 16 := hl1 35 (by decide)
  refine pg_get (D := D) (ci := 12) (v := .ref v2) (C := RX12) (T := TX12) (N := 51) hx hb hg inG12 hown hK hP ia.1 hM1 rfl 35 (by decide) (hg _ wd_709) (fun _ h9 => h9) hv2 dX12_isUnlike_1 ?_
  refine lv_iload_n hx hb dX12_isUnlike_4 rfl (lv_at hl 1 rfl) ?_
  obtain ⟨f3, hM3⟩ := hW.open_77 hc2
  refine pg_iald hx hb hK hP hc2.1 0 hM3 rfl (inbN k1 16 (by omega) (by omega)) dX12_isUnlike_5 ?_
  refine lv_topi (fun f_4 ef_4 => ?_)
  refine lv_aload_n hx hb dX12_isUnlike_6 rfl (lv_at hl 0 rfl) ?_
  refine pg_get (D := D) (ci := 12) (v := .ref v2) (C := RX12) (T := TX12) (N := 51) hx hb hg inG12 hown hK hP ia.1 hM1 rfl 35 (by decide) (hg _ wd_709) (fun _ h9 => h9) hv2 dX12_isUnlike_7 ?_
  refine lv_iload_n hx hb dX12_isUnlike_10 rfl (lv_at hl 1 rfl) ?_
  refine lv_iconst (v := 1) hx hb dX12_isUnlike_11 (by decide) ?_
  refine lv_isub hx hb dX12_isUnlike_12 ?_
  refine lv_topi (fun f_5 ef_5 => ?_)
  obtain rfl : f_5 = (nI (k1 - 1)) := ef_5.trans (nI_prd (by omega))
  refine pg_iald hx hb hK hP hc2.1 0 hM3 rfl (inbN (k1 - 1) 16 (by omega) (by omega)) dX12_isUnlike_13 ?_
  refine lv_topi (fun f_6 ef_6 => ?_)
  refine lv_icmp_eq (tgt := 21) hx hb dX12_isUnlike_14 (by decide) (fun c_7 => ?_) (fun c_7 => ?_)
  · have hz := rfl (a := 0)
    refine lv_iconst (v := 0) hx hb dX12_isUnlike_21 (by decide) ?_
    refine lv_istore_n (lv' := [(2, .int 0), (0, .ref oa), (1, .int (nI k1))]) hx hb dX12_isUnlike_22 rfl hl (by decide) rfl (fun ls hl => ?_)
    refine lv_iconst (v := 0) hx hb dX12_isUnlike_23 (by decide) ?_
    refine lv_istore_n (lv' := [(3, .int 0), (2, .int 0), (0, .ref oa), (1, .int (nI k1))]) hx hb dX12_isUnlike_24 rfl hl (by decide) rfl (fun ls hl => ?_)
    have key_8 : ∀ (fu_10 : Nat) (v2w11 : Int32) (v3w11 : Nat) (H_14 : Heap) (locs : List Loc) (ls : Array Slot), 24 - v3w11 < fu_10 → (v2w11 = 0 ∨ v2w11 = 1) → v3w11 ≤ 24 → WOM cy K L M → va_P D vwCl ([] ++ va_pl L M) H_14 → va_D A ([] ++ va_pl L M) → va_S A s.heap H_14 locs → lv_has ls 4 [(3, .int (nI v3w11)), (2, .int v2w11), (0, .ref oa), (1, .int (nI k1))] → W p l e R s m ([.ref oa, .int (nI k1)] : List Value).toArray below meth c H_14 locs 0 0 Q (F0 m 25 ls []) := by
      intro fu_10
      induction fu_10 with
      | zero => intro v2w11 v3w11 H_14 locs ls h; exact absurd h (Nat.not_lt_zero _)
      | succ fu_10 ih_9 =>
        intro v2w11 v3w11 H_14 locs ls hfu hq_12 hx_13 hW hP hD hS hl
        rcases hq_12 with rfl | rfl
        · have hz := rfl (a := 0)
          refine lv_iload_n hx hb dX12_isUnlike_25 rfl (lv_at hl 0 rfl) ?_
          refine lv_bipush (v := 24) hx hb dX12_isUnlike_26 (by decide) ?_
          refine lv_icmp_ge (tgt := 74) hx hb dX12_isUnlike_28 (by decide) (fun c_15 => ?_) (fun c_15 => ?_)
          · have hz := rfl (a := 0)
            have n_16 : 24 ≤ v3w11 := (iLE (a := 24) (b := v3w11) (by omega) (by omega)).mp c_15
            refine lv_iload_n hx hb dX12_isUnlike_74 rfl (lv_at hl 1 rfl) ?_
            rw [hQ]
            exact W.zret (v := 0) hx hb hr rfl (fun t ht hW9 => ⟨⟨0, (), rfl, (Or.inr rfl), ⟨by rw [ht]; exact hP, hD⟩⟩, hS.F ht⟩) hS.2.2 dX12_isUnlike_75
          · have hz := rfl (a := 0)
            have n_17 : ¬ (24 ≤ v3w11) := fun q => c_15 ((iLE (a := 24) (b := v3w11) (by omega) (by omega)).mpr q)
            refine lv_iload_n hx hb dX12_isUnlike_31 rfl (lv_at hl 1 rfl) ?_
            refine lv_if_ne (tgt := 62) hx hb dX12_isUnlike_32 (by decide) (fun c_18 => absurd c_18 (by decide)) (fun _ => ?_)
            refine lv_aload_n hx hb dX12_isUnlike_35 rfl (lv_at hl 2 rfl) ?_
            obtain ⟨v19, hv19, hc19⟩ : ∃ v : Nat, fs1[36]? = some (.ref v : Value) ∧ isk K L v 78 384 := hl1 36 (by decide)
            refine pg_get (D := D) (ci := 12) (v := .ref v19) (C := RX12) (T := TX12) (N := 51) hx hb hg inG12 hown hK hP ia.1 hM1 rfl 36 (by decide) (hg _ wd_705) (fun _ h9 => h9) hv19 dX12_isUnlike_36 ?_
            refine lv_bipush (v := 24) hx hb dX12_isUnlike_39 (by decide) ?_
            refine lv_iload_n hx hb dX12_isUnlike_41 rfl (lv_at hl 3 rfl) ?_
            refine lv_imul hx hb dX12_isUnlike_42 ?_
            refine lv_topi (fun f_20 ef_20 => ?_)
            obtain rfl : f_20 = (nI (24 * k1)) := ef_20.trans (nI_mul 24 k1)
            refine lv_iload_n hx hb dX12_isUnlike_43 rfl (lv_at hl 0 rfl) ?_
            refine lv_iadd hx hb dX12_isUnlike_44 ?_
            refine lv_topi (fun f_21 ef_21 => ?_)
            obtain rfl : f_21 = (nI ((24 * k1) + v3w11)) := ef_21.trans (nI_add (24 * k1) v3w11)
            obtain ⟨f22, hM22⟩ := hW.open_78 hc19
            refine pg_iald hx hb hK hP hc19.1 0 hM22 rfl (inbN ((24 * k1) + v3w11) 384 (by omega) (by omega)) dX12_isUnlike_45 ?_
            refine lv_topi (fun f_23 ef_23 => ?_)
            refine lv_aload_n hx hb dX12_isUnlike_46 rfl (lv_at hl 2 rfl) ?_
            refine pg_get (D := D) (ci := 12) (v := .ref v19) (C := RX12) (T := TX12) (N := 51) hx hb hg inG12 hown hK hP ia.1 hM1 rfl 36 (by decide) (hg _ wd_705) (fun _ h9 => h9) hv19 dX12_isUnlike_47 ?_
            refine lv_bipush (v := 24) hx hb dX12_isUnlike_50 (by decide) ?_
            refine lv_iload_n hx hb dX12_isUnlike_52 rfl (lv_at hl 3 rfl) ?_
            refine lv_iconst (v := 1) hx hb dX12_isUnlike_53 (by decide) ?_
            refine lv_isub hx hb dX12_isUnlike_54 ?_
            refine lv_topi (fun f_24 ef_24 => ?_)
            obtain rfl : f_24 = (nI (k1 - 1)) := ef_24.trans (nI_prd (by omega))
            refine lv_imul hx hb dX12_isUnlike_55 ?_
            refine lv_topi (fun f_25 ef_25 => ?_)
            obtain rfl : f_25 = (nI (24 * (k1 - 1))) := ef_25.trans (nI_mul 24 (k1 - 1))
            refine lv_iload_n hx hb dX12_isUnlike_56 rfl (lv_at hl 0 rfl) ?_
            refine lv_iadd hx hb dX12_isUnlike_57 ?_
            refine lv_topi (fun f_26 ef_26 => ?_)
            obtain rfl : f_26 = (nI ((24 * (k1 - 1)) + v3w11)) := ef_26.trans (nI_add (24 * (k1 - 1)) v3w11)
            refine pg_iald hx hb hK hP hc19.1 0 hM22 rfl (inbN ((24 * (k1 - 1)) + v3w11) 384 (by omega) (by omega)) dX12_isUnlike_58 ?_
            refine lv_topi (fun f_27 ef_27 => ?_)
            refine lv_icmp_eq (tgt := 66) hx hb dX12_isUnlike_59 (by decide) (fun c_28 => ?_) (fun c_28 => ?_)
            · have hz := rfl (a := 0)
              refine lv_iconst (v := 0) hx hb dX12_isUnlike_66 (by decide) ?_
              refine lv_istore_n (lv' := [(2, .int 0), (3, .int (nI v3w11)), (0, .ref oa), (1, .int (nI k1))]) hx hb dX12_isUnlike_67 rfl hl (by decide) rfl (fun ls hl => ?_)
              refine lv_iinc (v := (nI (v3w11 + 1))) (lv' := [(3, .int (nI (v3w11 + 1))), (2, .int 0), (0, .ref oa), (1, .int (nI k1))]) hx hb dX12_isUnlike_68 hl (k := 1) rfl (nI_1 v3w11) (by decide) rfl (fun ls hl => ?_)
              refine lv_goto (tgt := 25) hx hb dX12_isUnlike_71 (by decide) ?_
              exact ih_9 0 (v3w11 + 1) H_14 _ _ (by omega) (Or.inl rfl) (by omega) hW hP hD hS (lv_sub hl [0, 1, 2, 3] rfl)
            · have hz := rfl (a := 0)
              refine lv_iconst (v := 1) hx hb dX12_isUnlike_62 (by decide) ?_
              refine lv_goto (tgt := 67) hx hb dX12_isUnlike_63 (by decide) ?_
              refine lv_istore_n (lv' := [(2, .int 1), (3, .int (nI v3w11)), (0, .ref oa), (1, .int (nI k1))]) hx hb dX12_isUnlike_67 rfl hl (by decide) rfl (fun ls hl => ?_)
              refine lv_iinc (v := (nI (v3w11 + 1))) (lv' := [(3, .int (nI (v3w11 + 1))), (2, .int 1), (0, .ref oa), (1, .int (nI k1))]) hx hb dX12_isUnlike_68 hl (k := 1) rfl (nI_1 v3w11) (by decide) rfl (fun ls hl => ?_)
              refine lv_goto (tgt := 25) hx hb dX12_isUnlike_71 (by decide) ?_
              exact ih_9 1 (v3w11 + 1) H_14 _ _ (by omega) (Or.inr rfl) (by omega) hW hP hD hS (lv_sub hl [0, 1, 2, 3] rfl)
        · have hz := rfl (a := 0)
          refine lv_iload_n hx hb dX12_isUnlike_25 rfl (lv_at hl 0 rfl) ?_
          refine lv_bipush (v := 24) hx hb dX12_isUnlike_26 (by decide) ?_
          refine lv_icmp_ge (tgt := 74) hx hb dX12_isUnlike_28 (by decide) (fun c_29 => ?_) (fun c_29 => ?_)
          · have hz := rfl (a := 0)
            have n_30 : 24 ≤ v3w11 := (iLE (a := 24) (b := v3w11) (by omega) (by omega)).mp c_29
            refine lv_iload_n hx hb dX12_isUnlike_74 rfl (lv_at hl 1 rfl) ?_
            rw [hQ]
            exact W.zret (v := 1) hx hb hr rfl (fun t ht hW9 => ⟨⟨1, (), rfl, (Or.inl rfl), ⟨by rw [ht]; exact hP, hD⟩⟩, hS.F ht⟩) hS.2.2 dX12_isUnlike_75
          · have hz := rfl (a := 0)
            have n_31 : ¬ (24 ≤ v3w11) := fun q => c_29 ((iLE (a := 24) (b := v3w11) (by omega) (by omega)).mpr q)
            refine lv_iload_n hx hb dX12_isUnlike_31 rfl (lv_at hl 1 rfl) ?_
            refine lv_if_ne (tgt := 62) hx hb dX12_isUnlike_32 (by decide) (fun _ => ?_) (fun c_32 => absurd c_32 (by decide))
            refine lv_iconst (v := 1) hx hb dX12_isUnlike_62 (by decide) ?_
            refine lv_goto (tgt := 67) hx hb dX12_isUnlike_63 (by decide) ?_
            refine lv_istore_n (lv' := [(2, .int 1), (3, .int (nI v3w11)), (0, .ref oa), (1, .int (nI k1))]) hx hb dX12_isUnlike_67 rfl hl (by decide) rfl (fun ls hl => ?_)
            refine lv_iinc (v := (nI (v3w11 + 1))) (lv' := [(3, .int (nI (v3w11 + 1))), (2, .int 1), (0, .ref oa), (1, .int (nI k1))]) hx hb dX12_isUnlike_68 hl (k := 1) rfl (nI_1 v3w11) (by decide) rfl (fun ls hl => ?_)
            refine lv_goto (tgt := 25) hx hb dX12_isUnlike_71 (by decide) ?_
            exact ih_9 1 (v3w11 + 1) H_14 _ _ (by omega) (Or.inr rfl) (by omega) hW hP hD hS (lv_sub hl [0, 1, 2, 3] rfl)
    exact key_8 (24 - 0 + 1) 0 0 s.heap _ _ (by omega) (Or.inl rfl) (by omega) hW hP hD hS (lv_sub hl [0, 1, 2, 3] rfl)
  · have hz := rfl (a := 0)
    refine lv_iconst (v := 1) hx hb dX12_isUnlike_17 (by decide) ?_
    refine lv_goto (tgt := 22) hx hb dX12_isUnlike_18 (by decide) ?_
    refine lv_istore_n (lv' := [(2, .int 1), (0, .ref oa), (1, .int (nI k1))]) hx hb dX12_isUnlike_22 rfl hl (by decide) rfl (fun ls hl => ?_)
    refine lv_iconst (v := 0) hx hb dX12_isUnlike_23 (by decide) ?_
    refine lv_istore_n (lv' := [(3, .int 0), (2, .int 1), (0, .ref oa), (1, .int (nI k1))]) hx hb dX12_isUnlike_24 rfl hl (by decide) rfl (fun ls hl => ?_)
    have key_33 : ∀ (fu_35 : Nat) (v2w36 : Int32) (v3w36 : Nat) (H_39 : Heap) (locs : List Loc) (ls : Array Slot), 24 - v3w36 < fu_35 → (v2w36 = 0 ∨ v2w36 = 1) → v3w36 ≤ 24 → WOM cy K L M → va_P D vwCl ([] ++ va_pl L M) H_39 → va_D A ([] ++ va_pl L M) → va_S A s.heap H_39 locs → lv_has ls 4 [(3, .int (nI v3w36)), (2, .int v2w36), (0, .ref oa), (1, .int (nI k1))] → W p l e R s m ([.ref oa, .int (nI k1)] : List Value).toArray below meth c H_39 locs 0 0 Q (F0 m 25 ls []) := by
      intro fu_35
      induction fu_35 with
      | zero => intro v2w36 v3w36 H_39 locs ls h; exact absurd h (Nat.not_lt_zero _)
      | succ fu_35 ih_34 =>
        intro v2w36 v3w36 H_39 locs ls hfu hq_37 hx_38 hW hP hD hS hl
        rcases hq_37 with rfl | rfl
        · have hz := rfl (a := 0)
          refine lv_iload_n hx hb dX12_isUnlike_25 rfl (lv_at hl 0 rfl) ?_
          refine lv_bipush (v := 24) hx hb dX12_isUnlike_26 (by decide) ?_
          refine lv_icmp_ge (tgt := 74) hx hb dX12_isUnlike_28 (by decide) (fun c_40 => ?_) (fun c_40 => ?_)
          · have hz := rfl (a := 0)
            have n_41 : 24 ≤ v3w36 := (iLE (a := 24) (b := v3w36) (by omega) (by omega)).mp c_40
            refine lv_iload_n hx hb dX12_isUnlike_74 rfl (lv_at hl 1 rfl) ?_
            rw [hQ]
            exact W.zret (v := 0) hx hb hr rfl (fun t ht hW9 => ⟨⟨0, (), rfl, (Or.inr rfl), ⟨by rw [ht]; exact hP, hD⟩⟩, hS.F ht⟩) hS.2.2 dX12_isUnlike_75
          · have hz := rfl (a := 0)
            have n_42 : ¬ (24 ≤ v3w36) := fun q => c_40 ((iLE (a := 24) (b := v3w36) (by omega) (by omega)).mpr q)
            refine lv_iload_n hx hb dX12_isUnlike_31 rfl (lv_at hl 1 rfl) ?_
            refine lv_if_ne (tgt := 62) hx hb dX12_isUnlike_32 (by decide) (fun c_43 => absurd c_43 (by decide)) (fun _ => ?_)
            refine lv_aload_n hx hb dX12_isUnlike_35 rfl (lv_at hl 2 rfl) ?_
            obtain ⟨v44, hv44, hc44⟩ : ∃ v : Nat, fs1[36]? = some (.ref v : Value) ∧ isk K L v 78 384 := hl1 36 (by decide)
            refine pg_get (D := D) (ci := 12) (v := .ref v44) (C := RX12) (T := TX12) (N := 51) hx hb hg inG12 hown hK hP ia.1 hM1 rfl 36 (by decide) (hg _ wd_705) (fun _ h9 => h9) hv44 dX12_isUnlike_36 ?_
            refine lv_bipush (v := 24) hx hb dX12_isUnlike_39 (by decide) ?_
            refine lv_iload_n hx hb dX12_isUnlike_41 rfl (lv_at hl 3 rfl) ?_
            refine lv_imul hx hb dX12_isUnlike_42 ?_
            refine lv_topi (fun f_45 ef_45 => ?_)
            obtain rfl : f_45 = (nI (24 * k1)) := ef_45.trans (nI_mul 24 k1)
            refine lv_iload_n hx hb dX12_isUnlike_43 rfl (lv_at hl 0 rfl) ?_
            refine lv_iadd hx hb dX12_isUnlike_44 ?_
            refine lv_topi (fun f_46 ef_46 => ?_)
            obtain rfl : f_46 = (nI ((24 * k1) + v3w36)) := ef_46.trans (nI_add (24 * k1) v3w36)
            obtain ⟨f47, hM47⟩ := hW.open_78 hc44
            refine pg_iald hx hb hK hP hc44.1 0 hM47 rfl (inbN ((24 * k1) + v3w36) 384 (by omega) (by omega)) dX12_isUnlike_45 ?_
            refine lv_topi (fun f_48 ef_48 => ?_)
            refine lv_aload_n hx hb dX12_isUnlike_46 rfl (lv_at hl 2 rfl) ?_
            refine pg_get (D := D) (ci := 12) (v := .ref v44) (C := RX12) (T := TX12) (N := 51) hx hb hg inG12 hown hK hP ia.1 hM1 rfl 36 (by decide) (hg _ wd_705) (fun _ h9 => h9) hv44 dX12_isUnlike_47 ?_
            refine lv_bipush (v := 24) hx hb dX12_isUnlike_50 (by decide) ?_
            refine lv_iload_n hx hb dX12_isUnlike_52 rfl (lv_at hl 3 rfl) ?_
            refine lv_iconst (v := 1) hx hb dX12_isUnlike_53 (by decide) ?_
            refine lv_isub hx hb dX12_isUnlike_54 ?_
            refine lv_topi (fun f_49 ef_49 => ?_)
            obtain rfl : f_49 = (nI (k1 - 1)) := ef_49.trans (nI_prd (by omega))
            refine lv_imul hx hb dX12_isUnlike_55 ?_
            refine lv_topi (fun f_50 ef_50 => ?_)
            obtain rfl : f_50 = (nI (24 * (k1 - 1))) := ef_50.trans (nI_mul 24 (k1 - 1))
            refine lv_iload_n hx hb dX12_isUnlike_56 rfl (lv_at hl 0 rfl) ?_
            refine lv_iadd hx hb dX12_isUnlike_57 ?_
            refine lv_topi (fun f_51 ef_51 => ?_)
            obtain rfl : f_51 = (nI ((24 * (k1 - 1)) + v3w36)) := ef_51.trans (nI_add (24 * (k1 - 1)) v3w36)
            refine pg_iald hx hb hK hP hc44.1 0 hM47 rfl (inbN ((24 * (k1 - 1)) + v3w36) 384 (by omega) (by omega)) dX12_isUnlike_58 ?_
            refine lv_topi (fun f_52 ef_52 => ?_)
            refine lv_icmp_eq (tgt := 66) hx hb dX12_isUnlike_59 (by decide) (fun c_53 => ?_) (fun c_53 => ?_)
            · have hz := rfl (a := 0)
              refine lv_iconst (v := 0) hx hb dX12_isUnlike_66 (by decide) ?_
              refine lv_istore_n (lv' := [(2, .int 0), (3, .int (nI v3w36)), (0, .ref oa), (1, .int (nI k1))]) hx hb dX12_isUnlike_67 rfl hl (by decide) rfl (fun ls hl => ?_)
              refine lv_iinc (v := (nI (v3w36 + 1))) (lv' := [(3, .int (nI (v3w36 + 1))), (2, .int 0), (0, .ref oa), (1, .int (nI k1))]) hx hb dX12_isUnlike_68 hl (k := 1) rfl (nI_1 v3w36) (by decide) rfl (fun ls hl => ?_)
              refine lv_goto (tgt := 25) hx hb dX12_isUnlike_71 (by decide) ?_
              exact ih_34 0 (v3w36 + 1) H_39 _ _ (by omega) (Or.inl rfl) (by omega) hW hP hD hS (lv_sub hl [0, 1, 2, 3] rfl)
            · have hz := rfl (a := 0)
              refine lv_iconst (v := 1) hx hb dX12_isUnlike_62 (by decide) ?_
              refine lv_goto (tgt := 67) hx hb dX12_isUnlike_63 (by decide) ?_
              refine lv_istore_n (lv' := [(2, .int 1), (3, .int (nI v3w36)), (0, .ref oa), (1, .int (nI k1))]) hx hb dX12_isUnlike_67 rfl hl (by decide) rfl (fun ls hl => ?_)
              refine lv_iinc (v := (nI (v3w36 + 1))) (lv' := [(3, .int (nI (v3w36 + 1))), (2, .int 1), (0, .ref oa), (1, .int (nI k1))]) hx hb dX12_isUnlike_68 hl (k := 1) rfl (nI_1 v3w36) (by decide) rfl (fun ls hl => ?_)
              refine lv_goto (tgt := 25) hx hb dX12_isUnlike_71 (by decide) ?_
              exact ih_34 1 (v3w36 + 1) H_39 _ _ (by omega) (Or.inr rfl) (by omega) hW hP hD hS (lv_sub hl [0, 1, 2, 3] rfl)
        · have hz := rfl (a := 0)
          refine lv_iload_n hx hb dX12_isUnlike_25 rfl (lv_at hl 0 rfl) ?_
          refine lv_bipush (v := 24) hx hb dX12_isUnlike_26 (by decide) ?_
          refine lv_icmp_ge (tgt := 74) hx hb dX12_isUnlike_28 (by decide) (fun c_54 => ?_) (fun c_54 => ?_)
          · have hz := rfl (a := 0)
            have n_55 : 24 ≤ v3w36 := (iLE (a := 24) (b := v3w36) (by omega) (by omega)).mp c_54
            refine lv_iload_n hx hb dX12_isUnlike_74 rfl (lv_at hl 1 rfl) ?_
            rw [hQ]
            exact W.zret (v := 1) hx hb hr rfl (fun t ht hW9 => ⟨⟨1, (), rfl, (Or.inl rfl), ⟨by rw [ht]; exact hP, hD⟩⟩, hS.F ht⟩) hS.2.2 dX12_isUnlike_75
          · have hz := rfl (a := 0)
            have n_56 : ¬ (24 ≤ v3w36) := fun q => c_54 ((iLE (a := 24) (b := v3w36) (by omega) (by omega)).mpr q)
            refine lv_iload_n hx hb dX12_isUnlike_31 rfl (lv_at hl 1 rfl) ?_
            refine lv_if_ne (tgt := 62) hx hb dX12_isUnlike_32 (by decide) (fun _ => ?_) (fun c_57 => absurd c_57 (by decide))
            refine lv_iconst (v := 1) hx hb dX12_isUnlike_62 (by decide) ?_
            refine lv_goto (tgt := 67) hx hb dX12_isUnlike_63 (by decide) ?_
            refine lv_istore_n (lv' := [(2, .int 1), (3, .int (nI v3w36)), (0, .ref oa), (1, .int (nI k1))]) hx hb dX12_isUnlike_67 rfl hl (by decide) rfl (fun ls hl => ?_)
            refine lv_iinc (v := (nI (v3w36 + 1))) (lv' := [(3, .int (nI (v3w36 + 1))), (2, .int 1), (0, .ref oa), (1, .int (nI k1))]) hx hb dX12_isUnlike_68 hl (k := 1) rfl (nI_1 v3w36) (by decide) rfl (fun ls hl => ?_)
            refine lv_goto (tgt := 25) hx hb dX12_isUnlike_71 (by decide) ?_
            exact ih_34 1 (v3w36 + 1) H_39 _ _ (by omega) (Or.inr rfl) (by omega) hW hP hD hS (lv_sub hl [0, 1, 2, 3] rfl)
    exact key_33 (24 - 0 + 1) 1 0 s.heap _ _ (by omega) (Or.inr rfl) (by omega) hW hP hD hS (lv_sub hl [0, 1, 2, 3] rfl)
