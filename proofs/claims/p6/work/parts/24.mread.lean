theorem dX13_holder_0 : decode cX13_holder 0 = .ok (.aload_n 1, 1) := by decide +kernel
theorem dX13_holder_1 : decode cX13_holder 1 = .ok (.getfield 92, 3) := by decide +kernel
theorem dX13_holder_4 : decode cX13_holder 4 = .ok (.iload_n 2, 1) := by decide +kernel
theorem dX13_holder_5 : decode cX13_holder 5 = .ok (.iaload, 1) := by decide +kernel
theorem dX13_holder_6 : decode cX13_holder 6 = .ok (.iconst 1, 1) := by decide +kernel
theorem dX13_holder_7 : decode cX13_holder 7 = .ok (.isub, 1) := by decide +kernel
theorem dX13_holder_8 : decode cX13_holder 8 = .ok (.istore_n 3, 1) := by decide +kernel
theorem dX13_holder_9 : decode cX13_holder 9 = .ok (.iload_n 3, 1) := by decide +kernel
theorem dX13_holder_10 : decode cX13_holder 10 = .ok (.ifCond .lt 17, 3) := by decide +kernel
theorem dX13_holder_13 : decode cX13_holder 13 = .ok (.aload_n 1, 1) := by decide +kernel
theorem dX13_holder_14 : decode cX13_holder 14 = .ok (.getfield 95, 3) := by decide +kernel
theorem dX13_holder_17 : decode cX13_holder 17 = .ok (.iload_n 3, 1) := by decide +kernel
theorem dX13_holder_18 : decode cX13_holder 18 = .ok (.iaload, 1) := by decide +kernel
theorem dX13_holder_19 : decode cX13_holder 19 = .ok (.iconst (-1), 1) := by decide +kernel
theorem dX13_holder_20 : decode cX13_holder 20 = .ok (.if_icmp .ne 7, 3) := by decide +kernel
theorem dX13_holder_23 : decode cX13_holder 23 = .ok (.iload_n 3, 1) := by decide +kernel
theorem dX13_holder_24 : decode cX13_holder 24 = .ok (.goto 4, 3) := by decide +kernel
theorem dX13_holder_27 : decode cX13_holder 27 = .ok (.iconst (-1), 1) := by decide +kernel
theorem dX13_holder_28 : decode cX13_holder 28 = .ok (.ireturn, 1) := by decide +kernel
theorem dX13_isParted_0 : decode cX13_isParted 0 = .ok (.iconst 0, 1) := by decide +kernel
theorem dX13_isParted_1 : decode cX13_isParted 1 = .ok (.istore_n 2, 1) := by decide +kernel
theorem dX13_isParted_2 : decode cX13_isParted 2 = .ok (.iconst 0, 1) := by decide +kernel
theorem dX13_isParted_3 : decode cX13_isParted 3 = .ok (.istore_n 3, 1) := by decide +kernel
theorem dX13_isParted_4 : decode cX13_isParted 4 = .ok (.iload_n 3, 1) := by decide +kernel
theorem dX13_isParted_5 : decode cX13_isParted 5 = .ok (.aload_n 0, 1) := by decide +kernel
theorem dX13_isParted_6 : decode cX13_isParted 6 = .ok (.getfield 68, 3) := by decide +kernel
theorem dX13_isParted_9 : decode cX13_isParted 9 = .ok (.if_icmp .ge 39, 3) := by decide +kernel
theorem dX13_isParted_12 : decode cX13_isParted 12 = .ok (.iload_n 2, 1) := by decide +kernel
theorem dX13_isParted_13 : decode cX13_isParted 13 = .ok (.ifCond .ne 23, 3) := by decide +kernel
theorem dX13_isParted_16 : decode cX13_isParted 16 = .ok (.aload_n 0, 1) := by decide +kernel
theorem dX13_isParted_17 : decode cX13_isParted 17 = .ok (.getfield 112, 3) := by decide +kernel
theorem dX13_isParted_20 : decode cX13_isParted 20 = .ok (.iload_n 3, 1) := by decide +kernel
theorem dX13_isParted_21 : decode cX13_isParted 21 = .ok (.iaload, 1) := by decide +kernel
theorem dX13_isParted_22 : decode cX13_isParted 22 = .ok (.iload_n 1, 1) := by decide +kernel
theorem dX13_isParted_23 : decode cX13_isParted 23 = .ok (.if_icmp .eq 13, 3) := by decide +kernel
theorem dX13_isParted_26 : decode cX13_isParted 26 = .ok (.aload_n 0, 1) := by decide +kernel
theorem dX13_isParted_27 : decode cX13_isParted 27 = .ok (.getfield 95, 3) := by decide +kernel
theorem dX13_isParted_30 : decode cX13_isParted 30 = .ok (.iload_n 3, 1) := by decide +kernel
theorem dX13_isParted_31 : decode cX13_isParted 31 = .ok (.iaload, 1) := by decide +kernel
theorem dX13_isParted_32 : decode cX13_isParted 32 = .ok (.iload_n 1, 1) := by decide +kernel
theorem dX13_isParted_33 : decode cX13_isParted 33 = .ok (.if_icmp .ne 7, 3) := by decide +kernel
theorem dX13_isParted_36 : decode cX13_isParted 36 = .ok (.iconst 1, 1) := by decide +kernel
theorem dX13_isParted_37 : decode cX13_isParted 37 = .ok (.goto 4, 3) := by decide +kernel
theorem dX13_isParted_40 : decode cX13_isParted 40 = .ok (.iconst 0, 1) := by decide +kernel
theorem dX13_isParted_41 : decode cX13_isParted 41 = .ok (.istore_n 2, 1) := by decide +kernel
theorem dX13_isParted_42 : decode cX13_isParted 42 = .ok (.iinc 3 1, 3) := by decide +kernel
theorem dX13_isParted_45 : decode cX13_isParted 45 = .ok (.goto (-41), 3) := by decide +kernel
theorem dX13_isParted_48 : decode cX13_isParted 48 = .ok (.iconst 1, 1) := by decide +kernel
theorem dX13_isParted_49 : decode cX13_isParted 49 = .ok (.istore_n 3, 1) := by decide +kernel
theorem dX13_isParted_50 : decode cX13_isParted 50 = .ok (.iload_n 3, 1) := by decide +kernel
theorem dX13_isParted_51 : decode cX13_isParted 51 = .ok (.aload_n 0, 1) := by decide +kernel
theorem dX13_isParted_52 : decode cX13_isParted 52 = .ok (.getfield 142, 3) := by decide +kernel
theorem dX13_isParted_55 : decode cX13_isParted 55 = .ok (.if_icmp .ge 37, 3) := by decide +kernel
theorem dX13_isParted_58 : decode cX13_isParted 58 = .ok (.iload_n 2, 1) := by decide +kernel
theorem dX13_isParted_59 : decode cX13_isParted 59 = .ok (.ifCond .ne 21, 3) := by decide +kernel
theorem dX13_isParted_62 : decode cX13_isParted 62 = .ok (.aload_n 0, 1) := by decide +kernel
theorem dX13_isParted_63 : decode cX13_isParted 63 = .ok (.getfield 145, 3) := by decide +kernel
theorem dX13_isParted_66 : decode cX13_isParted 66 = .ok (.iload_n 3, 1) := by decide +kernel
theorem dX13_isParted_67 : decode cX13_isParted 67 = .ok (.iaload, 1) := by decide +kernel
theorem dX13_isParted_68 : decode cX13_isParted 68 = .ok (.iload_n 1, 1) := by decide +kernel
theorem dX13_isParted_69 : decode cX13_isParted 69 = .ok (.if_icmp .ne 15, 3) := by decide +kernel
theorem dX13_isParted_72 : decode cX13_isParted 72 = .ok (.aload_n 0, 1) := by decide +kernel
theorem dX13_isParted_73 : decode cX13_isParted 73 = .ok (.iload_n 3, 1) := by decide +kernel
theorem dX13_isParted_74 : decode cX13_isParted 74 = .ok (.invokevirtual 298, 3) := by decide +kernel
theorem dX13_isParted_77 : decode cX13_isParted 77 = .ok (.ifCond .eq 7, 3) := by decide +kernel
theorem dX13_isParted_80 : decode cX13_isParted 80 = .ok (.iconst 1, 1) := by decide +kernel
theorem dX13_isParted_81 : decode cX13_isParted 81 = .ok (.goto 4, 3) := by decide +kernel
theorem dX13_isParted_84 : decode cX13_isParted 84 = .ok (.iconst 0, 1) := by decide +kernel
theorem dX13_isParted_85 : decode cX13_isParted 85 = .ok (.istore_n 2, 1) := by decide +kernel
theorem dX13_isParted_86 : decode cX13_isParted 86 = .ok (.iinc 3 1, 3) := by decide +kernel
theorem dX13_isParted_89 : decode cX13_isParted 89 = .ok (.goto (-39), 3) := by decide +kernel
theorem dX13_isParted_92 : decode cX13_isParted 92 = .ok (.iload_n 2, 1) := by decide +kernel
theorem dX13_isParted_93 : decode cX13_isParted 93 = .ok (.ireturn, 1) := by decide +kernel
theorem dX13_since_0 : decode cX13_since 0 = .ok (.iconst 0, 1) := by decide +kernel
theorem dX13_since_1 : decode cX13_since 1 = .ok (.istore_n 2, 1) := by decide +kernel
theorem dX13_since_2 : decode cX13_since 2 = .ok (.iconst 0, 1) := by decide +kernel
theorem dX13_since_3 : decode cX13_since 3 = .ok (.istore_n 3, 1) := by decide +kernel
theorem dX13_since_4 : decode cX13_since 4 = .ok (.iload_n 3, 1) := by decide +kernel
theorem dX13_since_5 : decode cX13_since 5 = .ok (.aload_n 0, 1) := by decide +kernel
theorem dX13_since_6 : decode cX13_since 6 = .ok (.getfield 244, 3) := by decide +kernel
theorem dX13_since_9 : decode cX13_since 9 = .ok (.if_icmp .ge 27, 3) := by decide +kernel
theorem dX13_since_12 : decode cX13_since 12 = .ok (.iload_n 2, 1) := by decide +kernel
theorem dX13_since_13 : decode cX13_since 13 = .ok (.aload_n 0, 1) := by decide +kernel
theorem dX13_since_14 : decode cX13_since 14 = .ok (.getfield 236, 3) := by decide +kernel
theorem dX13_since_17 : decode cX13_since 17 = .ok (.iload_n 3, 1) := by decide +kernel
theorem dX13_since_18 : decode cX13_since 18 = .ok (.iaload, 1) := by decide +kernel
theorem dX13_since_19 : decode cX13_since 19 = .ok (.iload_n 1, 1) := by decide +kernel
theorem dX13_since_20 : decode cX13_since 20 = .ok (.if_icmp .lt 7, 3) := by decide +kernel
theorem dX13_since_23 : decode cX13_since 23 = .ok (.iconst 1, 1) := by decide +kernel
theorem dX13_since_24 : decode cX13_since 24 = .ok (.goto 4, 3) := by decide +kernel
theorem dX13_since_27 : decode cX13_since 27 = .ok (.iconst 0, 1) := by decide +kernel
theorem dX13_since_28 : decode cX13_since 28 = .ok (.iadd, 1) := by decide +kernel
theorem dX13_since_29 : decode cX13_since 29 = .ok (.istore_n 2, 1) := by decide +kernel
theorem dX13_since_30 : decode cX13_since 30 = .ok (.iinc 3 1, 3) := by decide +kernel
theorem dX13_since_33 : decode cX13_since 33 = .ok (.goto (-29), 3) := by decide +kernel
theorem dX13_since_36 : decode cX13_since 36 = .ok (.iload_n 2, 1) := by decide +kernel
theorem dX13_since_37 : decode cX13_since 37 = .ok (.ireturn, 1) := by decide +kernel
theorem wd_734 : Cond.methodLink RX13 298 yX12_isUnlike ∈ lw_good := mem_t7 47 (by decide +kernel) rfl
theorem wd_735 : Cond.instanceMethod yX12_isUnlike ∈ lw_good := mem_t7 48 (by decide +kernel) rfl
theorem wd_736 : Cond.selects RX12 yX12_isUnlike yX12_isUnlike ∈ lw_good := mem_t7 49 (by decide +kernel) rfl
theorem wd_737 : Cond.initialized RX12 ∈ lw_good := mem_t1 5 (by decide +kernel) rfl
theorem wd_738 : Cond.code yX12_isUnlike cX12_isUnlike 4 (some .boolean) ∈ lw_good := mem_t7 50 rfl rfl
set_option maxHeartbeats 4000000 in
set_option maxRecDepth 100000 in
theorem r_X13_since (l : Launch) (D : va_G) (cy : Nat → ClassId) (K : Kp) (L : List Nat) (M : Hp) (sz : Nat) (k1 : Nat) (k2 : Int32) (hW : WOM cy K L M) (ik1 : isk K L k1 12 0) : Met l yX13_since (wsM yX13_since cX13_since 4 (some .int)) ({ frames := 0, cells := 0, slots := 0, locals := 0 }) (va_Pc [.ref k1, .int k2] (PG D cy [] L M sz)) (va_Qi (fun (r : Int32) (_ : Unit) => True) (fun _ t => PQ D [] L M (va_A ([] ++ va_pl L M) sz) t) (va_A ([] ++ va_pl L M) sz)) 0 0 (va_A ([] ++ va_pl L M) sz) := by
  refine Met.ofW (cc := cX13_since) (maxL := 4) (ret := (some .int)) (by decide) rfl ?_
  intro p e s m args below meth c s₁ B hml hv
  obtain ⟨rfl, hsz, hP, hK, hD0, hN⟩ := hv
  have hx := B.exec
  have hb := B.bytes
  have hr := B.returns
  have hts := atoms_spec (ws := (wsM yX13_since cX13_since 4 (some .int))) B.pre
  have hg : ∀ w ∈ lw_good, w.before _ s = true := fun w h => hts w (List.mem_cons_of_mem _ h)
  have hown : s.vm.findClass RX13 = some m.cls := findClass_of_methodNamed B.named
  have hlocks := B.notSynchronized
  subst hsz
  have hD := hD0.self (sz := s.heap.size)
  generalize hAe : va_A ([] ++ va_pl L M) s.heap.size = A at hD ⊢
  have hA : ∀ q : Nat, s.heap.size ≤ q → A q := fun q h => by rw [← hAe]; exact Or.inr h
  have hS : va_S A s.heap s.heap [] := va_S.rf
  have hl := lv_entry ([.ref k1, .int k2]) (n := 4) (Nat.le_of_ble_eq_true rfl)
  rw [lg_entry_eq]
  generalize (lg_sl ([.ref k1, .int k2]) ++ List.replicate (4 - (lg_sl ([.ref k1, .int k2])).length) Slot.unset).toArray = ls at hl ⊢
  refine W.nameQ (fun Q hQ => ?_)
  refine W.nameR (fun R hR => ?_)
  have hRf : 0 ≤ R.frames := by rw [hR]; exact Nat.le_of_ble_eq_true rfl
  have hRl : 0 ≤ R.locals := by rw [hR]; exact Nat.le_of_ble_eq_true rfl
  have hRc : 0 ≤ R.cells := by rw [hR]; exact Nat.le_of_ble_eq_true rfl
  have hRs : 0 ≤ R.slots := by rw [hR]; exact Nat.le_of_ble_eq_true rfl
  have hl : lv_has ls 4 [(0, .ref k1), (1, .int k2)] := hl
  refine lv_iconst (v := 0) hx hb dX13_since_0 (by decide) ?_
  refine lv_istore_n (lv' := [(2, .int 0), (0, .ref k1), (1, .int k2)]) hx hb dX13_since_1 rfl hl (by decide) rfl (fun ls hl => ?_)
  refine lv_iconst (v := 0) hx hb dX13_since_2 (by decide) ?_
  refine lv_istore_n (lv' := [(3, .int 0), (2, .int 0), (0, .ref k1), (1, .int k2)]) hx hb dX13_since_3 rfl hl (by decide) rfl (fun ls hl => ?_)
  have key_1 : ∀ (fu_3 : Nat) (v2w4 : Int32) (v3w4 : Nat) (H_6 : Heap) (locs : List Loc) (ls : Array Slot), 12 - v3w4 < fu_3 → v3w4 ≤ 12 → WOM cy K L M → va_P D vwCl ([] ++ va_pl L M) H_6 → va_D A ([] ++ va_pl L M) → va_S A s.heap H_6 locs → lv_has ls 4 [(3, .int (nI v3w4)), (2, .int v2w4), (0, .ref k1), (1, .int k2)] → W p l e R s m ([.ref k1, .int k2] : List Value).toArray below meth c H_6 locs 0 0 Q (F0 m 4 ls []) := by
    intro fu_3
    induction fu_3 with
    | zero => intro v2w4 v3w4 H_6 locs ls h; exact absurd h (Nat.not_lt_zero _)
    | succ fu_3 ih_2 =>
      intro v2w4 v3w4 H_6 locs ls hfu hx_5 hW hP hD hS hl
      refine lv_iload_n hx hb dX13_since_4 rfl (lv_at hl 0 rfl) ?_
      refine lv_aload_n hx hb dX13_since_5 rfl (lv_at hl 2 rfl) ?_
      obtain ⟨fs7, hM7, hn7, hl7⟩ := hW.open_12 ik1
      obtain ⟨v8, hv8, hc8⟩ : ∃ v : Nat, fs7[13]? = some (.int (nI v) : Value) ∧ v ≤ 12 := hl7 13 (by decide)
      refine pg_getN (D := D) (ci := 12) (v := .int (nI v8)) (C := RX12) (T := TX12) (N := 51) hx hb hg inG12 hown hK hP ik1.1 hM7 rfl 13 (by decide) (hN.use (Cond.fieldLinkNest RX13 244 RX12 "closed" "I" RX13) 22 rfl rfl) (fun _ h9 => h9) hv8 dX13_since_6 ?_
      refine lv_icmp_ge (tgt := 36) hx hb dX13_since_9 (by decide) (fun c_9 => ?_) (fun c_9 => ?_)
      · have hz := rfl (a := 0)
        have n_10 : v8 ≤ v3w4 := (iLE (a := v8) (b := v3w4) (by omega) (by omega)).mp c_9
        refine lv_iload_n hx hb dX13_since_36 rfl (lv_at hl 1 rfl) ?_
        rw [hQ]
        exact W.iret (v := v2w4) hx hb hr (fun t ht hW9 => ⟨⟨v2w4, (), rfl, trivial, ⟨by rw [ht]; exact hP, hD⟩⟩, hS.F ht⟩) hS.2.2 dX13_since_37
      · have hz := rfl (a := 0)
        have n_11 : ¬ (v8 ≤ v3w4) := fun q => c_9 ((iLE (a := v8) (b := v3w4) (by omega) (by omega)).mpr q)
        refine lv_iload_n hx hb dX13_since_12 rfl (lv_at hl 1 rfl) ?_
        refine lv_aload_n hx hb dX13_since_13 rfl (lv_at hl 2 rfl) ?_
        obtain ⟨v12, hv12, hc12⟩ : ∃ v : Nat, fs7[37]? = some (.ref v : Value) ∧ isk K L v 38 12 := hl7 37 (by decide)
        refine pg_getN (D := D) (ci := 12) (v := .ref v12) (C := RX12) (T := TX12) (N := 51) hx hb hg inG12 hown hK hP ik1.1 hM7 rfl 37 (by decide) (hN.use (Cond.fieldLinkNest RX13 236 RX12 "end" "[I" RX13) 46 rfl rfl) (fun _ h9 => h9) hv12 dX13_since_14 ?_
        refine lv_iload_n hx hb dX13_since_17 rfl (lv_at hl 0 rfl) ?_
        obtain ⟨f13, hM13, hf13⟩ := hW.open_38 hc12
        have hi_14 : vp_in (nI v3w4) 12 := (inbN v3w4 12 (by omega) (by omega))
        refine pg_iald hx hb hK hP hc12.1 0 hM13 rfl hi_14 dX13_since_18 ?_
        have hp_15 := hf13 _ (vp_lt hi_14)
        obtain ⟨c_16, hc_17, ec_18⟩ := hp_15
        rw [ec_18]
        refine lv_iload_n hx hb dX13_since_19 rfl (lv_at hl 3 rfl) ?_
        refine lv_icmp_lt (tgt := 27) hx hb dX13_since_20 (by decide) (fun c_19 => ?_) (fun c_19 => ?_)
        · have hz := rfl (a := 0)
          refine lv_iconst (v := 0) hx hb dX13_since_27 (by decide) ?_
          refine lv_iadd hx hb dX13_since_28 ?_
          refine lv_topi (fun f_20 ef_20 => ?_)
          refine lv_istore_n (lv' := [(2, .int f_20), (3, .int (nI v3w4)), (0, .ref k1), (1, .int k2)]) hx hb dX13_since_29 rfl hl (by decide) rfl (fun ls hl => ?_)
          refine lv_iinc (v := (nI (v3w4 + 1))) (lv' := [(3, .int (nI (v3w4 + 1))), (2, .int f_20), (0, .ref k1), (1, .int k2)]) hx hb dX13_since_30 hl (k := 1) rfl (nI_1 v3w4) (by decide) rfl (fun ls hl => ?_)
          refine lv_goto (tgt := 4) hx hb dX13_since_33 (by decide) ?_
          exact ih_2 f_20 (v3w4 + 1) H_6 _ _ (by omega) (by omega) hW hP hD hS (lv_sub hl [0, 1, 2, 3] rfl)
        · have hz := rfl (a := 0)
          refine lv_iconst (v := 1) hx hb dX13_since_23 (by decide) ?_
          refine lv_goto (tgt := 28) hx hb dX13_since_24 (by decide) ?_
          refine lv_iadd hx hb dX13_since_28 ?_
          refine lv_topi (fun f_21 ef_21 => ?_)
          refine lv_istore_n (lv' := [(2, .int f_21), (3, .int (nI v3w4)), (0, .ref k1), (1, .int k2)]) hx hb dX13_since_29 rfl hl (by decide) rfl (fun ls hl => ?_)
          refine lv_iinc (v := (nI (v3w4 + 1))) (lv' := [(3, .int (nI (v3w4 + 1))), (2, .int f_21), (0, .ref k1), (1, .int k2)]) hx hb dX13_since_30 hl (k := 1) rfl (nI_1 v3w4) (by decide) rfl (fun ls hl => ?_)
          refine lv_goto (tgt := 4) hx hb dX13_since_33 (by decide) ?_
          exact ih_2 f_21 (v3w4 + 1) H_6 _ _ (by omega) (by omega) hW hP hD hS (lv_sub hl [0, 1, 2, 3] rfl)
  exact key_1 (12 - 0 + 1) 0 0 s.heap _ _ (by omega) (by omega) hW hP hD hS (lv_sub hl [0, 1, 2, 3] rfl)
