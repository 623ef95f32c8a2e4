theorem dX5_forget_0 : decode cX5_forget 0 = .ok (.aload_n 0, 1) := by decide +kernel
theorem dX5_forget_1 : decode cX5_forget 1 = .ok (.iconst 0, 1) := by decide +kernel
theorem dX5_forget_2 : decode cX5_forget 2 = .ok (.putfield 18, 3) := by decide +kernel
theorem dX5_forget_5 : decode cX5_forget 5 = .ok (.return_, 1) := by decide +kernel
theorem dX5_houseAtStep_0 : decode cX5_houseAtStep 0 = .ok (.iload_n 1, 1) := by decide +kernel
theorem dX5_houseAtStep_1 : decode cX5_houseAtStep 1 = .ok (.ifCond .lt 26, 3) := by decide +kernel
theorem dX5_houseAtStep_4 : decode cX5_houseAtStep 4 = .ok (.iload_n 1, 1) := by decide +kernel
theorem dX5_houseAtStep_5 : decode cX5_houseAtStep 5 = .ok (.aload_n 0, 1) := by decide +kernel
theorem dX5_houseAtStep_6 : decode cX5_houseAtStep 6 = .ok (.getfield 18, 3) := by decide +kernel
theorem dX5_houseAtStep_9 : decode cX5_houseAtStep 9 = .ok (.if_icmp .ge 18, 3) := by decide +kernel
theorem dX5_houseAtStep_12 : decode cX5_houseAtStep 12 = .ok (.iload_n 1, 1) := by decide +kernel
theorem dX5_houseAtStep_13 : decode cX5_houseAtStep 13 = .ok (.bipush 8, 2) := by decide +kernel
theorem dX5_houseAtStep_15 : decode cX5_houseAtStep 15 = .ok (.if_icmp .ge 12, 3) := by decide +kernel
theorem dX5_houseAtStep_18 : decode cX5_houseAtStep 18 = .ok (.aload_n 0, 1) := by decide +kernel
theorem dX5_houseAtStep_19 : decode cX5_houseAtStep 19 = .ok (.getfield 15, 3) := by decide +kernel
theorem dX5_houseAtStep_22 : decode cX5_houseAtStep 22 = .ok (.iload_n 1, 1) := by decide +kernel
theorem dX5_houseAtStep_23 : decode cX5_houseAtStep 23 = .ok (.iaload, 1) := by decide +kernel
theorem dX5_houseAtStep_24 : decode cX5_houseAtStep 24 = .ok (.goto 4, 3) := by decide +kernel
theorem dX5_houseAtStep_27 : decode cX5_houseAtStep 27 = .ok (.iconst (-1), 1) := by decide +kernel
theorem dX5_houseAtStep_28 : decode cX5_houseAtStep 28 = .ok (.ireturn, 1) := by decide +kernel
theorem dX5_measure_0 : decode cX5_measure 0 = .ok (.aload_n 0, 1) := by decide +kernel
theorem dX5_measure_1 : decode cX5_measure 1 = .ok (.getfield 9, 3) := by decide +kernel
theorem dX5_measure_4 : decode cX5_measure 4 = .ok (.iconst 0, 1) := by decide +kernel
theorem dX5_measure_5 : decode cX5_measure 5 = .ok (.invokestatic 36, 3) := by decide +kernel
theorem dX5_measure_8 : decode cX5_measure 8 = .ok (.aload_n 0, 1) := by decide +kernel
theorem dX5_measure_9 : decode cX5_measure 9 = .ok (.getfield 9, 3) := by decide +kernel
theorem dX5_measure_12 : decode cX5_measure 12 = .ok (.iload_n 3, 1) := by decide +kernel
theorem dX5_measure_13 : decode cX5_measure 13 = .ok (.iconst 1, 1) := by decide +kernel
theorem dX5_measure_14 : decode cX5_measure 14 = .ok (.iastore, 1) := by decide +kernel
theorem dX5_measure_15 : decode cX5_measure 15 = .ok (.iconst 1, 1) := by decide +kernel
theorem dX5_measure_16 : decode cX5_measure 16 = .ok (.istore 4, 2) := by decide +kernel
theorem dX5_measure_18 : decode cX5_measure 18 = .ok (.iload 4, 2) := by decide +kernel
theorem dX5_measure_20 : decode cX5_measure 20 = .ok (.bipush 8, 2) := by decide +kernel
theorem dX5_measure_22 : decode cX5_measure 22 = .ok (.if_icmp .ge 65, 3) := by decide +kernel
theorem dX5_measure_25 : decode cX5_measure 25 = .ok (.iconst 0, 1) := by decide +kernel
theorem dX5_measure_26 : decode cX5_measure 26 = .ok (.istore 5, 2) := by decide +kernel
theorem dX5_measure_28 : decode cX5_measure 28 = .ok (.iload 5, 2) := by decide +kernel
theorem dX5_measure_30 : decode cX5_measure 30 = .ok (.iload_n 2, 1) := by decide +kernel
theorem dX5_measure_31 : decode cX5_measure 31 = .ok (.if_icmp .ge 50, 3) := by decide +kernel
theorem dX5_measure_34 : decode cX5_measure 34 = .ok (.iload 5, 2) := by decide +kernel
theorem dX5_measure_36 : decode cX5_measure 36 = .ok (.bipush 8, 2) := by decide +kernel
theorem dX5_measure_38 : decode cX5_measure 38 = .ok (.if_icmp .ge 43, 3) := by decide +kernel
theorem dX5_measure_41 : decode cX5_measure 41 = .ok (.aload_n 1, 1) := by decide +kernel
theorem dX5_measure_42 : decode cX5_measure 42 = .ok (.iload 5, 2) := by decide +kernel
theorem dX5_measure_44 : decode cX5_measure 44 = .ok (.aaload, 1) := by decide +kernel
theorem dX5_measure_45 : decode cX5_measure 45 = .ok (.astore 6, 2) := by decide +kernel
theorem dX5_measure_47 : decode cX5_measure 47 = .ok (.aload 6, 2) := by decide +kernel
theorem dX5_measure_49 : decode cX5_measure 49 = .ok (.ifnull 26, 3) := by decide +kernel
theorem dX5_measure_52 : decode cX5_measure 52 = .ok (.aload_n 0, 1) := by decide +kernel
theorem dX5_measure_53 : decode cX5_measure 53 = .ok (.getfield 9, 3) := by decide +kernel
theorem dX5_measure_56 : decode cX5_measure 56 = .ok (.iload 5, 2) := by decide +kernel
theorem dX5_measure_58 : decode cX5_measure 58 = .ok (.iaload, 1) := by decide +kernel
theorem dX5_measure_59 : decode cX5_measure 59 = .ok (.iload 4, 2) := by decide +kernel
theorem dX5_measure_61 : decode cX5_measure 61 = .ok (.if_icmp .ne 14, 3) := by decide +kernel
theorem dX5_measure_64 : decode cX5_measure 64 = .ok (.aload_n 0, 1) := by decide +kernel
theorem dX5_measure_65 : decode cX5_measure 65 = .ok (.aload 6, 2) := by decide +kernel
theorem dX5_measure_67 : decode cX5_measure 67 = .ok (.iload_n 2, 1) := by decide +kernel
theorem dX5_measure_68 : decode cX5_measure 68 = .ok (.iload 4, 2) := by decide +kernel
theorem dX5_measure_70 : decode cX5_measure 70 = .ok (.iconst 1, 1) := by decide +kernel
theorem dX5_measure_71 : decode cX5_measure 71 = .ok (.iadd, 1) := by decide +kernel
theorem dX5_measure_72 : decode cX5_measure 72 = .ok (.invokevirtual 42, 3) := by decide +kernel
theorem dX5_measure_75 : decode cX5_measure 75 = .ok (.iinc 5 1, 3) := by decide +kernel
theorem dX5_measure_78 : decode cX5_measure 78 = .ok (.goto (-50), 3) := by decide +kernel
theorem dX5_measure_81 : decode cX5_measure 81 = .ok (.iinc 4 1, 3) := by decide +kernel
theorem dX5_measure_84 : decode cX5_measure 84 = .ok (.goto (-66), 3) := by decide +kernel
theorem dX5_measure_87 : decode cX5_measure 87 = .ok (.return_, 1) := by decide +kernel
theorem dX5_markOwners_0 : decode cX5_markOwners 0 = .ok (.iconst 0, 1) := by decide +kernel
theorem dX5_markOwners_1 : decode cX5_markOwners 1 = .ok (.istore 4, 2) := by decide +kernel
theorem dX5_markOwners_3 : decode cX5_markOwners 3 = .ok (.iload 4, 2) := by decide +kernel
theorem dX5_markOwners_5 : decode cX5_markOwners 5 = .ok (.iload_n 2, 1) := by decide +kernel
theorem dX5_markOwners_6 : decode cX5_markOwners 6 = .ok (.if_icmp .ge 43, 3) := by decide +kernel
theorem dX5_markOwners_9 : decode cX5_markOwners 9 = .ok (.iload 4, 2) := by decide +kernel
theorem dX5_markOwners_11 : decode cX5_markOwners 11 = .ok (.bipush 8, 2) := by decide +kernel
theorem dX5_markOwners_13 : decode cX5_markOwners 13 = .ok (.if_icmp .ge 36, 3) := by decide +kernel
theorem dX5_markOwners_16 : decode cX5_markOwners 16 = .ok (.aload_n 0, 1) := by decide +kernel
theorem dX5_markOwners_17 : decode cX5_markOwners 17 = .ok (.getfield 9, 3) := by decide +kernel
theorem dX5_markOwners_20 : decode cX5_markOwners 20 = .ok (.iload 4, 2) := by decide +kernel
theorem dX5_markOwners_22 : decode cX5_markOwners 22 = .ok (.iaload, 1) := by decide +kernel
theorem dX5_markOwners_23 : decode cX5_markOwners 23 = .ok (.ifCond .ne 20, 3) := by decide +kernel
theorem dX5_markOwners_26 : decode cX5_markOwners 26 = .ok (.aload_n 1, 1) := by decide +kernel
theorem dX5_markOwners_27 : decode cX5_markOwners 27 = .ok (.iload 4, 2) := by decide +kernel
theorem dX5_markOwners_29 : decode cX5_markOwners 29 = .ok (.invokevirtual 46, 3) := by decide +kernel
theorem dX5_markOwners_32 : decode cX5_markOwners 32 = .ok (.ifCond .eq 11, 3) := by decide +kernel
theorem dX5_markOwners_35 : decode cX5_markOwners 35 = .ok (.aload_n 0, 1) := by decide +kernel
theorem dX5_markOwners_36 : decode cX5_markOwners 36 = .ok (.getfield 9, 3) := by decide +kernel
theorem dX5_markOwners_39 : decode cX5_markOwners 39 = .ok (.iload 4, 2) := by decide +kernel
theorem dX5_markOwners_41 : decode cX5_markOwners 41 = .ok (.iload_n 3, 1) := by decide +kernel
theorem dX5_markOwners_42 : decode cX5_markOwners 42 = .ok (.iastore, 1) := by decide +kernel
theorem dX5_markOwners_43 : decode cX5_markOwners 43 = .ok (.iinc 4 1, 3) := by decide +kernel
theorem dX5_markOwners_46 : decode cX5_markOwners 46 = .ok (.goto (-43), 3) := by decide +kernel
theorem dX5_markOwners_49 : decode cX5_markOwners 49 = .ok (.return_, 1) := by decide +kernel
theorem dX5_nextTowards_0 : decode cX5_nextTowards 0 = .ok (.iload_n 3, 1) := by decide +kernel
theorem dX5_nextTowards_1 : decode cX5_nextTowards 1 = .ok (.ifCond .lt 20, 3) := by decide +kernel
theorem dX5_nextTowards_4 : decode cX5_nextTowards 4 = .ok (.iload_n 3, 1) := by decide +kernel
theorem dX5_nextTowards_5 : decode cX5_nextTowards 5 = .ok (.bipush 8, 2) := by decide +kernel
theorem dX5_nextTowards_7 : decode cX5_nextTowards 7 = .ok (.if_icmp .ge 14, 3) := by decide +kernel
theorem dX5_nextTowards_10 : decode cX5_nextTowards 10 = .ok (.aload_n 0, 1) := by decide +kernel
theorem dX5_nextTowards_11 : decode cX5_nextTowards 11 = .ok (.getfield 9, 3) := by decide +kernel
theorem dX5_nextTowards_14 : decode cX5_nextTowards 14 = .ok (.iload_n 3, 1) := by decide +kernel
theorem dX5_nextTowards_15 : decode cX5_nextTowards 15 = .ok (.iaload, 1) := by decide +kernel
theorem dX5_nextTowards_16 : decode cX5_nextTowards 16 = .ok (.iconst 1, 1) := by decide +kernel
theorem dX5_nextTowards_17 : decode cX5_nextTowards 17 = .ok (.isub, 1) := by decide +kernel
theorem dX5_nextTowards_18 : decode cX5_nextTowards 18 = .ok (.goto 4, 3) := by decide +kernel
theorem dX5_nextTowards_21 : decode cX5_nextTowards 21 = .ok (.iconst 0, 1) := by decide +kernel
theorem dX5_nextTowards_22 : decode cX5_nextTowards 22 = .ok (.istore 4, 2) := by decide +kernel
theorem dX5_nextTowards_24 : decode cX5_nextTowards 24 = .ok (.iconst 0, 1) := by decide +kernel
theorem dX5_nextTowards_25 : decode cX5_nextTowards 25 = .ok (.istore 5, 2) := by decide +kernel
theorem dX5_nextTowards_27 : decode cX5_nextTowards 27 = .ok (.iload 5, 2) := by decide +kernel
theorem dX5_nextTowards_29 : decode cX5_nextTowards 29 = .ok (.iload_n 2, 1) := by decide +kernel
theorem dX5_nextTowards_30 : decode cX5_nextTowards 30 = .ok (.if_icmp .ge 56, 3) := by decide +kernel
theorem dX5_nextTowards_33 : decode cX5_nextTowards 33 = .ok (.iload 5, 2) := by decide +kernel
theorem dX5_nextTowards_35 : decode cX5_nextTowards 35 = .ok (.bipush 8, 2) := by decide +kernel
theorem dX5_nextTowards_37 : decode cX5_nextTowards 37 = .ok (.if_icmp .ge 49, 3) := by decide +kernel
theorem dX5_nextTowards_40 : decode cX5_nextTowards 40 = .ok (.iload 4, 2) := by decide +kernel
theorem dX5_nextTowards_42 : decode cX5_nextTowards 42 = .ok (.ifCond .le 44, 3) := by decide +kernel
theorem dX5_nextTowards_45 : decode cX5_nextTowards 45 = .ok (.aload_n 1, 1) := by decide +kernel
theorem dX5_nextTowards_46 : decode cX5_nextTowards 46 = .ok (.iload 5, 2) := by decide +kernel
theorem dX5_nextTowards_48 : decode cX5_nextTowards 48 = .ok (.aaload, 1) := by decide +kernel
theorem dX5_nextTowards_49 : decode cX5_nextTowards 49 = .ok (.astore 6, 2) := by decide +kernel
theorem dX5_nextTowards_51 : decode cX5_nextTowards 51 = .ok (.aload 6, 2) := by decide +kernel
theorem dX5_nextTowards_53 : decode cX5_nextTowards 53 = .ok (.ifnull 27, 3) := by decide +kernel
theorem dX5_nextTowards_56 : decode cX5_nextTowards 56 = .ok (.aload_n 0, 1) := by decide +kernel
theorem dX5_nextTowards_57 : decode cX5_nextTowards 57 = .ok (.getfield 9, 3) := by decide +kernel
theorem dX5_nextTowards_60 : decode cX5_nextTowards 60 = .ok (.iload 5, 2) := by decide +kernel
theorem dX5_nextTowards_62 : decode cX5_nextTowards 62 = .ok (.iaload, 1) := by decide +kernel
theorem dX5_nextTowards_63 : decode cX5_nextTowards 63 = .ok (.iload 4, 2) := by decide +kernel
theorem dX5_nextTowards_65 : decode cX5_nextTowards 65 = .ok (.if_icmp .ne 15, 3) := by decide +kernel
theorem dX5_nextTowards_68 : decode cX5_nextTowards 68 = .ok (.aload 6, 2) := by decide +kernel
theorem dX5_nextTowards_70 : decode cX5_nextTowards 70 = .ok (.iload_n 3, 1) := by decide +kernel
theorem dX5_nextTowards_71 : decode cX5_nextTowards 71 = .ok (.invokevirtual 46, 3) := by decide +kernel
theorem dX5_nextTowards_74 : decode cX5_nextTowards 74 = .ok (.ifCond .eq 6, 3) := by decide +kernel
theorem dX5_nextTowards_77 : decode cX5_nextTowards 77 = .ok (.iload 5, 2) := by decide +kernel
theorem dX5_nextTowards_79 : decode cX5_nextTowards 79 = .ok (.ireturn, 1) := by decide +kernel
theorem dX5_nextTowards_80 : decode cX5_nextTowards 80 = .ok (.iinc 5 1, 3) := by decide +kernel
theorem dX5_nextTowards_83 : decode cX5_nextTowards 83 = .ok (.goto (-56), 3) := by decide +kernel
theorem dX5_nextTowards_86 : decode cX5_nextTowards 86 = .ok (.iconst (-1), 1) := by decide +kernel
theorem dX5_nextTowards_87 : decode cX5_nextTowards 87 = .ok (.ireturn, 1) := by decide +kernel
set_option maxHeartbeats 4000000 in
set_option maxRecDepth 100000 in
theorem s_X5_forget (l : Launch) (D : va_G) (cy : Nat → ClassId) (K : Kp) (L : List Nat) (M : Hp) (sz : Nat) (oa : Nat) (hW : WOK cy K L M) (ia : isk K L oa 5 0) : Met l yX5_forget (wsM yX5_forget cX5_forget 1 none) ({ frames := 0, cells := 0, slots := 0, locals := 0 }) (va_Pc [.ref oa] (PG D cy [] L M sz)) (va_Qv (fun (M9 : Hp) => WOK cy K L M9 ∧ fr K L [5] M M9 ∧ (True)) (fun M9 t => PQ D [] L M9 (va_A ([] ++ va_pl L M) sz) t) (va_A ([] ++ va_pl L M) sz)) 0 0 (va_A ([] ++ va_pl L M) sz) := by
  refine Met.ofW (cc := cX5_forget) (maxL := 1) (ret := none) (by decide) rfl ?_
  intro p e s m args below meth c s₁ B hml hv
  obtain ⟨rfl, hsz, hP, hK, hD0, hN⟩ := hv
  have hx := B.exec
  have hb := B.bytes
  have hr := B.returns
  have hts := atoms_spec (ws := (wsM yX5_forget cX5_forget 1 none)) B.pre
  have hg : ∀ w ∈ lw_good, w.before _ s = true := fun w h => hts w (List.mem_cons_of_mem _ h)
  have hown : s.vm.findClass RX5 = some m.cls := findClass_of_methodNamed B.named
  have hlocks := B.notSynchronized
  subst hsz
  have hD := hD0.self (sz := s.heap.size)
  generalize hAe : va_A ([] ++ va_pl L M) s.heap.size = A at hD ⊢
  have hA : ∀ q : Nat, s.heap.size ≤ q → A q := fun q h => by rw [← hAe]; exact Or.inr h
  have hS : va_S A s.heap s.heap [] := va_S.rf
  have hl := lv_entry ([.ref oa]) (n := 1) (Nat.le_of_ble_eq_true rfl)
  rw [lg_entry_eq]
  generalize (lg_sl ([.ref oa]) ++ List.replicate (1 - (lg_sl ([.ref oa])).length) Slot.unset).toArray = ls at hl ⊢
  refine W.nameQ (fun Q hQ => ?_)
  refine W.nameR (fun R hR => ?_)
  have hRf : 0 ≤ R.frames := by rw [hR]; exact Nat.le_of_ble_eq_true rfl
  have hRl : 0 ≤ R.locals := by rw [hR]; exact Nat.le_of_ble_eq_true rfl
  have hRc : 0 ≤ R.cells := by rw [hR]; exact Nat.le_of_ble_eq_true rfl
  have hRs : 0 ≤ R.slots := by rw [hR]; exact Nat.le_of_ble_eq_true rfl
  have hF : fr K L [5] M M := fr.rf
  have hl : lv_has ls 1 [(0, .ref oa)] := hl
  refine lv_aload_n hx hb dX5_forget_0 rfl (lv_at hl 0 rfl) ?_
  refine lv_iconst (v := 0) hx hb dX5_forget_1 (by decide) ?_
  obtain ⟨v2_0, v2_1, v2_2, hM2, h2_0, h2_1⟩ := hW.open_5 ia
  refine pg_put (D := D) (ci := 5) (v := .int 0) (ty := .int) (C := RX5) (T := TX5) (N := 3) hx hb hg inG5 tyX5 tyX5_ok nmX5 hown hK hP hD hS ia.1 hM2 rfl 2 (by decide) (hg _ wd_296) (fun _ h9 => h9) rfl (by decide +kernel) rfl rfl (Nat.le_of_ble_eq_true rfl) dX5_forget_2 (fun H_1 locs hP hD hS => ?_)
  obtain ⟨M_3, eM_3⟩ : ∃ M1 : Hp, M1 = va_up M oa (.inr (5, [.ref v2_0, .ref v2_1, .int 0])) := ⟨_, rfl⟩
  have hP : va_P D vwCl ([] ++ va_pl L M_3) H_1 := by rw [eM_3]; exact hP
  have hD : va_D A ([] ++ va_pl L M_3) := by rw [eM_3]; exact hD
  have hW : WOK cy K L M_3 := by rw [eM_3]; exact hW.up_5 ia ⟨v2_0, v2_1, 0, rfl, h2_0, h2_1⟩
  have hF : fr K L [5] M M_3 := by rw [eM_3]; exact hF.up ia (by decide)
  have hM_4 : M_3 oa = .inr (5, [.ref v2_0, .ref v2_1, .int 0]) := by rw [eM_3]; exact va_up_self _ _ _
  rw [hQ]
  exact W.vret hx hb hr (fun t ht hW9 => ⟨⟨M_3, rfl, ⟨hW, hF, trivial⟩, ⟨by rw [ht]; exact hP, hD⟩⟩, hS.F ht⟩) hS.2.2 dX5_forget_5
set_option maxHeartbeats 4000000 in
set_option maxRecDepth 100000 in
theorem s_X5_houseAtStep (l : Launch) (D : va_G) (cy : Nat → ClassId) (K : Kp) (L : List Nat) (M : Hp) (sz : Nat) (oa : Nat) (k1 : Int32) (hW : WOK cy K L M) (ia : isk K L oa 5 0) : Met l yX5_houseAtStep (wsM yX5_houseAtStep cX5_houseAtStep 2 (some .int)) ({ frames := 0, cells := 0, slots := 0, locals := 0 }) (va_Pc [.ref oa, .int k1] (PG D cy [] L M sz)) (va_Qi (fun (r : Int32) (_ : Unit) => True) (fun _ t => PQ D [] L M (va_A ([] ++ va_pl L M) sz) t) (va_A ([] ++ va_pl L M) sz)) 0 0 (va_A ([] ++ va_pl L M) sz) := by
  refine Met.ofW (cc := cX5_houseAtStep) (maxL := 2) (ret := (some .int)) (by decide) rfl ?_
  intro p e s m args below meth c s₁ B hml hv
  obtain ⟨rfl, hsz, hP, hK, hD0, hN⟩ := hv
  have hx := B.exec
  have hb := B.bytes
  have hr := B.returns
  have hts := atoms_spec (ws := (wsM yX5_houseAtStep cX5_houseAtStep 2 (some .int))) B.pre
  have hg : ∀ w ∈ lw_good, w.before _ s = true := fun w h => hts w (List.mem_cons_of_mem _ h)
  have hown : s.vm.findClass RX5 = some m.cls := findClass_of_methodNamed B.named
  have hlocks := B.notSynchronized
  subst hsz
  have hD := hD0.self (sz := s.heap.size)
  generalize hAe : va_A ([] ++ va_pl L M) s.heap.size = A at hD ⊢
  have hA : ∀ q : Nat, s.heap.size ≤ q → A q := fun q h => by rw [← hAe]; exact Or.inr h
  have hS : va_S A s.heap s.heap [] := va_S.rf
  have hl := lv_entry ([.ref oa, .int k1]) (n := 2) (Nat.le_of_ble_eq_true rfl)
  rw [lg_entry_eq]
  generalize (lg_sl ([.ref oa, .int k1]) ++ List.replicate (2 - (lg_sl ([.ref oa, .int k1])).length) Slot.unset).toArray = ls at hl ⊢
  refine W.nameQ (fun Q hQ => ?_)
  refine W.nameR (fun R hR => ?_)
  have hRf : 0 ≤ R.frames := by rw [hR]; exact Nat.le_of_ble_eq_true rfl
  have hRl : 0 ≤ R.locals := by rw [hR]; exact Nat.le_of_ble_eq_true rfl
  have hRc : 0 ≤ R.cells := by rw [hR]; exact Nat.le_of_ble_eq_true rfl
  have hRs : 0 ≤ R.slots := by rw [hR]; exact Nat.le_of_ble_eq_true rfl
  have hl : lv_has ls 2 [(0, .ref oa), (1, .int k1)] := hl
  refine lv_iload_n hx hb dX5_houseAtStep_0 rfl (lv_at hl 1 rfl) ?_
  refine lv_if_lt (tgt := 27) hx hb dX5_houseAtStep_1 (by decide) (fun c_1 => ?_) (fun c_1 => ?_)
  · have hz := rfl (a := 0)
    refine lv_iconst (v := (-1)) hx hb dX5_houseAtStep_27 (by decide) ?_
    rw [hQ]
    exact W.iret (v := (-1)) hx hb hr (fun t ht hW9 => ⟨⟨(-1), (), rfl, trivial, ⟨by rw [ht]; exact hP, hD⟩⟩, hS.F ht⟩) hS.2.2 dX5_houseAtStep_28
  · have hz := rfl (a := 0)
    refine lv_iload_n hx hb dX5_houseAtStep_4 rfl (lv_at hl 1 rfl) ?_
    refine lv_aload_n hx hb dX5_houseAtStep_5 rfl (lv_at hl 0 rfl) ?_
    obtain ⟨v2_0, v2_1, v2_2, hM2, h2_0, h2_1⟩ := hW.open_5 ia
    refine pg_get (D := D) (ci := 5) (v := .int v2_2) (C := RX5) (T := TX5) (N := 3) hx hb hg inG5 hown hK hP ia.1 hM2 rfl 2 (by decide) (hg _ wd_296) (fun _ h9 => h9) rfl dX5_houseAtStep_6 ?_
    refine lv_icmp_ge (tgt := 27) hx hb dX5_houseAtStep_9 (by decide) (fun c_3 => ?_) (fun c_3 => ?_)
    · have hz := rfl (a := 0)
      refine lv_iconst (v := (-1)) hx hb dX5_houseAtStep_27 (by decide) ?_
      rw [hQ]
      exact W.iret (v := (-1)) hx hb hr (fun t ht hW9 => ⟨⟨(-1), (), rfl, trivial, ⟨by rw [ht]; exact hP, hD⟩⟩, hS.F ht⟩) hS.2.2 dX5_houseAtStep_28
    · have hz := rfl (a := 0)
      refine lv_iload_n hx hb dX5_houseAtStep_12 rfl (lv_at hl 1 rfl) ?_
      refine lv_bipush (v := 8) hx hb dX5_houseAtStep_13 (by decide) ?_
      refine lv_icmp_ge (tgt := 27) hx hb dX5_houseAtStep_15 (by decide) (fun c_4 => ?_) (fun c_4 => ?_)
      · have hz := rfl (a := 0)
        refine lv_iconst (v := (-1)) hx hb dX5_houseAtStep_27 (by decide) ?_
        rw [hQ]
        exact W.iret (v := (-1)) hx hb hr (fun t ht hW9 => ⟨⟨(-1), (), rfl, trivial, ⟨by rw [ht]; exact hP, hD⟩⟩, hS.F ht⟩) hS.2.2 dX5_houseAtStep_28
      · have hz := rfl (a := 0)
        refine lv_aload_n hx hb dX5_houseAtStep_18 rfl (lv_at hl 0 rfl) ?_
        refine pg_get (D := D) (ci := 5) (v := .ref v2_1) (C := RX5) (T := TX5) (N := 3) hx hb hg inG5 hown hK hP ia.1 hM2 rfl 1 (by decide) (hg _ wd_297) (fun _ h9 => h9) rfl dX5_houseAtStep_19 ?_
        refine lv_iload_n hx hb dX5_houseAtStep_22 rfl (lv_at hl 1 rfl) ?_
        obtain ⟨f5, hM5⟩ := hW.open_14 h2_1
        refine pg_iald hx hb hK hP h2_1.1 0 hM5 rfl (inb k1 8 (by omega) c_1 c_4) dX5_houseAtStep_23 ?_
        refine lv_topi (fun f_6 ef_6 => ?_)
        refine lv_goto (tgt := 28) hx hb dX5_houseAtStep_24 (by decide) ?_
        rw [hQ]
        exact W.iret (v := f_6) hx hb hr (fun t ht hW9 => ⟨⟨f_6, (), rfl, trivial, ⟨by rw [ht]; exact hP, hD⟩⟩, hS.F ht⟩) hS.2.2 dX5_houseAtStep_28
set_option maxHeartbeats 4000000 in
set_option maxRecDepth 100000 in
theorem s_X5_markOwners (l : Launch) (D : va_G) (cy : Nat → ClassId) (K : Kp) (L : List Nat) (M : Hp) (sz : Nat) (oa : Nat) (k1 : Nat) (k2 : Int32) (k3 : Int32) (hW : WOK cy K L M) (ia : isk K L oa 5 0) (ik1 : isk K L k1 2 0) : Met l yX5_markOwners (wsM yX5_markOwners cX5_markOwners 5 none) ({ frames := 1, cells := 0, slots := 0, locals := 21 }) (va_Pc [.ref oa, .ref k1, .int k2, .int k3] (PG D cy [] L M sz)) (va_Qv (fun (M9 : Hp) => WOK cy K L M9 ∧ fr K L [14] M M9 ∧ (True)) (fun M9 t => PQ D [] L M9 (va_A ([] ++ va_pl L M) sz) t) (va_A ([] ++ va_pl L M) sz)) 0 0 (va_A ([] ++ va_pl L M) sz) := by
  refine Met.ofW (cc := cX5_markOwners) (maxL := 5) (ret := none) (by decide) rfl ?_
  intro p e s m args below meth c s₁ B hml hv
  obtain ⟨rfl, hsz, hP, hK, hD0, hN⟩ := hv
  have hx := B.exec
  have hb := B.bytes
  have hr := B.returns
  have hts := atoms_spec (ws := (wsM yX5_markOwners cX5_markOwners 5 none)) B.pre
  have hg : ∀ w ∈ lw_good, w.before _ s = true := fun w h => hts w (List.mem_cons_of_mem _ h)
  have hown : s.vm.findClass RX5 = some m.cls := findClass_of_methodNamed B.named
  have hlocks := B.notSynchronized
  subst hsz
  have hD := hD0.self (sz := s.heap.size)
  generalize hAe : va_A ([] ++ va_pl L M) s.heap.size = A at hD ⊢
  have hA : ∀ q : Nat, s.heap.size ≤ q → A q := fun q h => by rw [← hAe]; exact Or.inr h
  have hS : va_S A s.heap s.heap [] := va_S.rf
  have hl := lv_entry ([.ref oa, .ref k1, .int k2, .int k3]) (n := 5) (Nat.le_of_ble_eq_true rfl)
  rw [lg_entry_eq]
  generalize (lg_sl ([.ref oa, .ref k1, .int k2, .int k3]) ++ List.replicate (5 - (lg_sl ([.ref oa, .ref k1, .int k2, .int k3])).length) Slot.unset).toArray = ls at hl ⊢
  refine W.nameQ (fun Q hQ => ?_)
  refine W.nameR (fun R hR => ?_)
  have hRf : 1 ≤ R.frames := by rw [hR]; exact Nat.le_of_ble_eq_true rfl
  have hRl : 21 ≤ R.locals := by rw [hR]; exact Nat.le_of_ble_eq_true rfl
  have hRc : 0 ≤ R.cells := by rw [hR]; exact Nat.le_of_ble_eq_true rfl
  have hRs : 0 ≤ R.slots := by rw [hR]; exact Nat.le_of_ble_eq_true rfl
  have hF : fr K L [14] M M := fr.rf
  have hl : lv_has ls 5 [(0, .ref oa), (1, .ref k1), (2, .int k2), (3, .int k3)] := hl
  refine lv_iconst (v := 0) hx hb dX5_markOwners_0 (by decide) ?_
  refine lv_istore (lv' := [(4, .int 0), (0, .ref oa), (1, .ref k1), (2, .int k2), (3, .int k3)]) hx hb dX5_markOwners_1 hl (by decide) rfl (fun ls hl => ?_)
  have key_1 : ∀ (fu_3 : Nat) (v4w4 : Nat) (M_6 : Hp) (H_7 : Heap) (locs : List Loc) (ls : Array Slot), 8 - v4w4 < fu_3 → v4w4 ≤ 8 → WOK cy K L M_6 → fr K L [14] M M_6 → va_P D vwCl ([] ++ va_pl L M_6) H_7 → va_D A ([] ++ va_pl L M_6) → va_S A s.heap H_7 locs → lv_has ls 5 [(4, .int (nI v4w4)), (0, .ref oa), (1, .ref k1), (2, .int k2), (3, .int k3)] → W p l e R s m ([.ref oa, .ref k1, .int k2, .int k3] : List Value).toArray below meth c H_7 locs 0 0 Q (F0 m 3 ls []) := by
    intro fu_3
    induction fu_3 with
    | zero => intro v4w4 M_6 H_7 locs ls h; exact absurd h (Nat.not_lt_zero _)
    | succ fu_3 ih_2 =>
      intro v4w4 M_6 H_7 locs ls hfu hx_5 hW hF hP hD hS hl
      refine lv_iload hx hb dX5_markOwners_3 (lv_at hl 0 rfl) ?_
      refine lv_iload_n hx hb dX5_markOwners_5 rfl (lv_at hl 3 rfl) ?_
      refine lv_icmp_ge (tgt := 49) hx hb dX5_markOwners_6 (by decide) (fun c_8 => ?_) (fun c_8 => ?_)
      · have hz := rfl (a := 0)
        rw [hQ]
        exact W.vret hx hb hr (fun t ht hW9 => ⟨⟨M_6, rfl, ⟨hW, hF, trivial⟩, ⟨by rw [ht]; exact hP, hD⟩⟩, hS.F ht⟩) hS.2.2 dX5_markOwners_49
      · have hz := rfl (a := 0)
        refine lv_iload hx hb dX5_markOwners_9 (lv_at hl 0 rfl) ?_
        refine lv_bipush (v := 8) hx hb dX5_markOwners_11 (by decide) ?_
        refine lv_icmp_ge (tgt := 49) hx hb dX5_markOwners_13 (by decide) (fun c_9 => ?_) (fun c_9 => ?_)
        · have hz := rfl (a := 0)
          have n_10 : 8 ≤ v4w4 := (iLE (a := 8) (b := v4w4) (by omega) (by omega)).mp c_9
          rw [hQ]
          exact W.vret hx hb hr (fun t ht hW9 => ⟨⟨M_6, rfl, ⟨hW, hF, trivial⟩, ⟨by rw [ht]; exact hP, hD⟩⟩, hS.F ht⟩) hS.2.2 dX5_markOwners_49
        · have hz := rfl (a := 0)
          have n_11 : ¬ (8 ≤ v4w4) := fun q => c_9 ((iLE (a := 8) (b := v4w4) (by omega) (by omega)).mpr q)
          refine lv_aload_n hx hb dX5_markOwners_16 rfl (lv_at hl 1 rfl) ?_
          obtain ⟨v12_0, v12_1, v12_2, hM12, h12_0, h12_1⟩ := hW.open_5 ia
          refine pg_get (D := D) (ci := 5) (v := .ref v12_0) (C := RX5) (T := TX5) (N := 3) hx hb hg inG5 hown hK hP ia.1 hM12 rfl 0 (by decide) (hg _ wd_298) (fun _ h9 => h9) rfl dX5_markOwners_17 ?_
          refine lv_iload hx hb dX5_markOwners_20 (lv_at hl 0 rfl) ?_
          obtain ⟨f13, hM13⟩ := hW.open_14 h12_0
          refine pg_iald hx hb hK hP h12_0.1 0 hM13 rfl (inbN v4w4 8 (by omega) (by omega)) dX5_markOwners_22 ?_
          refine lv_topi (fun f_14 ef_14 => ?_)
          refine lv_if_ne (tgt := 43) hx hb dX5_markOwners_23 (by decide) (fun c_15 => ?_) (fun c_15 => ?_)
          · have hz := rfl (a := 0)
            refine lv_iinc (v := (nI (v4w4 + 1))) (lv' := [(4, .int (nI (v4w4 + 1))), (0, .ref oa), (1, .ref k1), (2, .int k2), (3, .int k3)]) hx hb dX5_markOwners_43 hl (k := 0) rfl (nI_1 v4w4) (by decide) rfl (fun ls hl => ?_)
            refine lv_goto (tgt := 3) hx hb dX5_markOwners_46 (by decide) ?_
            exact ih_2 (v4w4 + 1) M_6 H_7 _ _ (by omega) (by omega) hW hF hP hD hS (lv_sub hl [0, 1, 2, 3, 4] rfl)
          · have hz := rfl (a := 0)
            refine lv_aload_n hx hb dX5_markOwners_26 rfl (lv_at hl 2 rfl) ?_
            refine lv_iload hx hb dX5_markOwners_27 (lv_at hl 0 rfl) ?_
            obtain ⟨v16_0, v16_1, v16_2, v16_3, v16_4, v16_5, v16_6, v16_7, v16_8, v16_9, v16_10, v16_11, v16_12, v16_13, v16_14, v16_15, v16_16, v16_17, v16_18, v16_19, hM16, h16_3, h16_4, h16_5, h16_6, h16_7, h16_8, h16_9, h16_10, h16_11, h16_12, h16_13, h16_16, h16_17, h16_18, h16_19⟩ := hW.open_2 ik1
            have hPc : va_P D vwCl ([] ++ va_pl L M_6) H_7 := hP
            have hDc : va_D A ([] ++ va_pl L M_6) := hD
            have hFc : ∀ q, va_A ([] ++ va_pl L M_6) H_7.size q → A q := pg_free hDc hS hA
            refine va_calli (va_runV (As := [.int (nI v4w4)]) (rest := []) ⟨hx, hb, hml, hown, hg⟩ (s_X2_isOwnedBy l D cy K L M_6 H_7.size k1 (nI v4w4)  hW ik1) (cwV 1 hg (gV wd_299 wd_300 wd_301 wd_57 wd_302) rfl rfl rfl (by decide +kernel) ⟨(Nat.le_trans (Nat.le_of_ble_eq_true rfl) hRf), (Nat.le_trans (Nat.le_of_ble_eq_true rfl) hRl)⟩) ⟨PG.blind, pg_recv hK hP ik1.1 hM16 rfl, fun U hU hW => ⟨rfl, PG.at hPc hK hDc hN hU hW⟩⟩ rfl rfl hl.1 rfl (lv_room (Nat.le_of_ble_eq_true rfl)) dX5_markOwners_29 ⟨(Nat.le_trans (Nat.le_of_ble_eq_true rfl) hRc), (Nat.le_trans (Nat.le_of_ble_eq_true rfl) hRs)⟩) hS (fun q _ h => hFc q h) hFc (fun r_18 M_19 t H_17 locs ht hvm hw hB hz1 hk1 hS => ?_)
            have hp_20 := hw
            obtain ⟨hP1, hD1⟩ := hB
            rw [ht] at hP1
            have hP : va_P D vwCl ([] ++ va_pl L M_6) H_17 := hP1
            have hD : va_D A ([] ++ va_pl L M_6) := hD1.mono hFc
            rcases hp_20 with rfl | rfl
            · have hz := rfl (a := 0)
              refine lv_if_eq (tgt := 43) hx hb dX5_markOwners_32 (by decide) (fun c_21 => absurd c_21 (by decide)) (fun _ => ?_)
              refine lv_aload_n hx hb dX5_markOwners_35 rfl (lv_at hl 1 rfl) ?_
              refine pg_get (D := D) (ci := 5) (v := .ref v12_0) (C := RX5) (T := TX5) (N := 3) hx hb hg inG5 hown hK hP ia.1 hM12 rfl 0 (by decide) (hg _ wd_298) (fun _ h9 => h9) rfl dX5_markOwners_36 ?_
              refine lv_iload hx hb dX5_markOwners_39 (lv_at hl 0 rfl) ?_
              refine lv_iload_n hx hb dX5_markOwners_41 rfl (lv_at hl 4 rfl) ?_
              refine pg_iast hx hb hK hP hD hS h12_0.1 0 hM13 rfl (inbN v4w4 8 (by omega) (by omega)) dX5_markOwners_42 (fun H_22 locs hP hD hS => ?_)
              obtain ⟨M_23, eM_23⟩ : ∃ M1 : Hp, M1 = va_up M_6 v12_0 (.inl (cy 14, 8, .inl (upd f13 ((nI v4w4) : Int32).toNatClampNeg k3))) := ⟨_, rfl⟩
              have hP : va_P D vwCl ([] ++ va_pl L M_23) H_22 := by rw [eM_23]; exact hP
              have hD : va_D A ([] ++ va_pl L M_23) := by rw [eM_23]; exact hD
              have hW : WOK cy K L M_23 := by rw [eM_23]; exact hW.up_14 h12_0 ⟨_, rfl⟩
              have hF : fr K L [14] M M_23 := by rw [eM_23]; exact hF.up h12_0 (by decide)
              have hM_24 : M_23 v12_0 = .inl (cy 14, 8, .inl (upd f13 ((nI v4w4) : Int32).toNatClampNeg k3)) := by rw [eM_23]; exact va_up_self _ _ _
              have hM_25 : M_23 oa = .inr (5, [.ref v12_0, .ref v12_1, .int v12_2]) := by rw [eM_23, va_up_ne _ _ (ia.neT h12_0 (by decide))]; exact hM12
              have hM_26 : M_23 k1 = .inr (2, [.int v16_0, .int v16_1, .int v16_2, .ref v16_3, .int (nI v16_4), .int (nI v16_5), .ref v16_6, .ref v16_7, .ref v16_8, .int (nI v16_9), .ref v16_10, .int (nI v16_11), .ref v16_12, .ref v16_13, .long v16_14, .int v16_15, .ref v16_16, .ref v16_17, .ref v16_18, .ref v16_19]) := by rw [eM_23, va_up_ne _ _ (ik1.neT h12_0 (by decide))]; exact hM16
              obtain ⟨f_27, ef_27⟩ : ∃ f : Nat → Int32, f = upd f13 ((nI v4w4) : Int32).toNatClampNeg k3 := ⟨_, rfl⟩
              rw [← ef_27] at hM_24
              clear ef_27
              refine lv_iinc (v := (nI (v4w4 + 1))) (lv' := [(4, .int (nI (v4w4 + 1))), (0, .ref oa), (1, .ref k1), (2, .int k2), (3, .int k3)]) hx hb dX5_markOwners_43 hl (k := 0) rfl (nI_1 v4w4) (by decide) rfl (fun ls hl => ?_)
              refine lv_goto (tgt := 3) hx hb dX5_markOwners_46 (by decide) ?_
              exact ih_2 (v4w4 + 1) M_23 H_22 _ _ (by omega) (by omega) hW hF hP hD hS (lv_sub hl [0, 1, 2, 3, 4] rfl)
            · have hz := rfl (a := 0)
              refine lv_if_eq (tgt := 43) hx hb dX5_markOwners_32 (by decide) (fun _ => ?_) (fun c_28 => absurd c_28 (by decide))
              refine lv_iinc (v := (nI (v4w4 + 1))) (lv' := [(4, .int (nI (v4w4 + 1))), (0, .ref oa), (1, .ref k1), (2, .int k2), (3, .int k3)]) hx hb dX5_markOwners_43 hl (k := 0) rfl (nI_1 v4w4) (by decide) rfl (fun ls hl => ?_)
              refine lv_goto (tgt := 3) hx hb dX5_markOwners_46 (by decide) ?_
              exact ih_2 (v4w4 + 1) M_6 H_17 _ _ (by omega) (by omega) hW hF hP hD hS (lv_sub hl [0, 1, 2, 3, 4] rfl)
  exact key_1 (8 - 0 + 1) 0 M s.heap _ _ (by omega) (by omega) hW hF hP hD hS (lv_sub hl [0, 1, 2, 3, 4] rfl)
set_option maxHeartbeats 4000000 in
set_option maxRecDepth 100000 in
theorem s_X5_measure (l : Launch) (D : va_G) (cy : Nat → ClassId) (K : Kp) (L : List Nat) (M : Hp) (sz : Nat) (oa : Nat) (k1 : Nat) (k2 : Int32) (k3 : Int32) (hW : WOK cy K L M) (ia : isk K L oa 5 0) (ik1 : isk K L k1 17 8) (g0 : ¬ k3 < 0) (g1 : ¬ 8 ≤ k3) : Met l yX5_measure (wsM yX5_measure cX5_measure 7 none) ({ frames := 2, cells := 0, slots := 0, locals := 45 }) (va_Pc [.ref oa, .ref k1, .int k2, .int k3] (PG D cy [] L M sz)) (va_Qv (fun (M9 : Hp) => WOK cy K L M9 ∧ fr K L [14] M M9 ∧ (True)) (fun M9 t => PQ D [] L M9 (va_A ([] ++ va_pl L M) sz) t) (va_A ([] ++ va_pl L M) sz)) 0 0 (va_A ([] ++ va_pl L M) sz) := by
  refine Met.ofW (cc := cX5_measure) (maxL := 7) (ret := none) (by decide) rfl ?_
  intro p e s m args below meth c s₁ B hml hv
  obtain ⟨rfl, hsz, hP, hK, hD0, hN⟩ := hv
  have hx := B.exec
  have hb := B.bytes
  have hr := B.returns
  have hts := atoms_spec (ws := (wsM yX5_measure cX5_measure 7 none)) B.pre
  have hg : ∀ w ∈ lw_good, w.before _ s = true := fun w h => hts w (List.mem_cons_of_mem _ h)
  have hown : s.vm.findClass RX5 = some m.cls := findClass_of_methodNamed B.named
  have hlocks := B.notSynchronized
  subst hsz
  have hD := hD0.self (sz := s.heap.size)
  generalize hAe : va_A ([] ++ va_pl L M) s.heap.size = A at hD ⊢
  have hA : ∀ q : Nat, s.heap.size ≤ q → A q := fun q h => by rw [← hAe]; exact Or.inr h
  have hS : va_S A s.heap s.heap [] := va_S.rf
  have hl := lv_entry ([.ref oa, .ref k1, .int k2, .int k3]) (n := 7) (Nat.le_of_ble_eq_true rfl)
  rw [lg_entry_eq]
  generalize (lg_sl ([.ref oa, .ref k1, .int k2, .int k3]) ++ List.replicate (7 - (lg_sl ([.ref oa, .ref k1, .int k2, .int k3])).length) Slot.unset).toArray = ls at hl ⊢
  refine W.nameQ (fun Q hQ => ?_)
  refine W.nameR (fun R hR => ?_)
  have hRf : 2 ≤ R.frames := by rw [hR]; exact Nat.le_of_ble_eq_true rfl
  have hRl : 45 ≤ R.locals := by rw [hR]; exact Nat.le_of_ble_eq_true rfl
  have hRc : 0 ≤ R.cells := by rw [hR]; exact Nat.le_of_ble_eq_true rfl
  have hRs : 0 ≤ R.slots := by rw [hR]; exact Nat.le_of_ble_eq_true rfl
  have hF : fr K L [14] M M := fr.rf
  have hl : lv_has ls 7 [(0, .ref oa), (1, .ref k1), (2, .int k2), (3, .int k3)] := hl
  refine lv_aload_n hx hb dX5_measure_0 rfl (lv_at hl 0 rfl) ?_
  obtain ⟨v1_0, v1_1, v1_2, hM1, h1_0, h1_1⟩ := hW.open_5 ia
  refine pg_get (D := D) (ci := 5) (v := .ref v1_0) (C := RX5) (T := TX5) (N := 3) hx hb hg inG5 hown hK hP ia.1 hM1 rfl 0 (by decide) (hg _ wd_298) (fun _ h9 => h9) rfl dX5_measure_1 ?_
  refine lv_iconst (v := 0) hx hb dX5_measure_4 (by decide) ?_
  have hPc : va_P D vwCl ([] ++ va_pl L M) s.heap := hP
  have hDc : va_D A ([] ++ va_pl L M) := hD
  have hFc : ∀ q, va_A ([] ++ va_pl L M) s.heap.size q → A q := pg_free hDc hS hA
  refine va_callv (va_runS (As := [.ref v1_0, .int 0]) (rest := []) ⟨hx, hb, hml, hown, hg⟩ (s_J7_fill_53178 l D cy K L M s.heap.size v1_0 8 0  hW h1_0 (by omega)) (va_cwS 2 hg (gS wd_303 wd_304 wd_159 wd_305) rfl rfl rfl (by decide +kernel) ⟨(Nat.le_trans (Nat.le_of_ble_eq_true rfl) hRf), (Nat.le_trans (Nat.le_of_ble_eq_true rfl) hRl)⟩) ⟨PG.blind, fun U hU hW => ⟨rfl, PG.at hPc hK hDc hN hU hW⟩⟩ rfl rfl hl.1 rfl (lv_room (Nat.le_of_ble_eq_true rfl)) dX5_measure_5 ⟨(Nat.le_trans (Nat.le_of_ble_eq_true rfl) hRc), (Nat.le_trans (Nat.le_of_ble_eq_true rfl) hRs)⟩) hS (fun q _ h => hFc q h) hFc (fun M_4 t H_2 locs ht hvm hw hB hz1 hk1 hS => ?_)
  obtain ⟨hW, hF2, hp_5⟩ := hw
  obtain ⟨hP1, hD1⟩ := hB
  rw [ht] at hP1
  have hP : va_P D vwCl ([] ++ va_pl L M_4) H_2 := hP1
  have hD : va_D A ([] ++ va_pl L M_4) := hD1.mono hFc
  have hM_6 : M_4 oa = .inr (5, [.ref v1_0, .ref v1_1, .int v1_2]) := (hF2.at ia (by decide)).trans hM1
  have hF : fr K L [14] M M_4 := hF.tr hF2 (by decide)
  refine lv_aload_n hx hb dX5_measure_8 rfl (lv_at hl 0 rfl) ?_
  refine pg_get (D := D) (ci := 5) (v := .ref v1_0) (C := RX5) (T := TX5) (N := 3) hx hb hg inG5 hown hK hP ia.1 hM_6 rfl 0 (by decide) (hg _ wd_298) (fun _ h9 => h9) rfl dX5_measure_9 ?_
  refine lv_iload_n hx hb dX5_measure_12 rfl (lv_at hl 3 rfl) ?_
  refine lv_iconst (v := 1) hx hb dX5_measure_13 (by decide) ?_
  obtain ⟨f7, hM7⟩ := hW.open_14 h1_0
  refine pg_iast hx hb hK hP hD hS h1_0.1 0 hM7 rfl (inb k3 8 (by omega) g0 g1) dX5_measure_14 (fun H_8 locs hP hD hS => ?_)
  obtain ⟨M_9, eM_9⟩ : ∃ M1 : Hp, M1 = va_up M_4 v1_0 (.inl (cy 14, 8, .inl (upd f7 (k3 : Int32).toNatClampNeg 1))) := ⟨_, rfl⟩
  have hP : va_P D vwCl ([] ++ va_pl L M_9) H_8 := by rw [eM_9]; exact hP
  have hD : va_D A ([] ++ va_pl L M_9) := by rw [eM_9]; exact hD
  have hW : WOK cy K L M_9 := by rw [eM_9]; exact hW.up_14 h1_0 ⟨_, rfl⟩
  have hF : fr K L [14] M M_9 := by rw [eM_9]; exact hF.up h1_0 (by decide)
  have hM_10 : M_9 v1_0 = .inl (cy 14, 8, .inl (upd f7 (k3 : Int32).toNatClampNeg 1)) := by rw [eM_9]; exact va_up_self _ _ _
  have hM_11 : M_9 oa = .inr (5, [.ref v1_0, .ref v1_1, .int v1_2]) := by rw [eM_9, va_up_ne _ _ (ia.neT h1_0 (by decide))]; exact hM_6
  obtain ⟨f_12, ef_12⟩ : ∃ f : Nat → Int32, f = upd f7 (k3 : Int32).toNatClampNeg 1 := ⟨_, rfl⟩
  rw [← ef_12] at hM_10
  clear ef_12
  refine lv_iconst (v := 1) hx hb dX5_measure_15 (by decide) ?_
  refine lv_istore (lv' := [(4, .int 1), (0, .ref oa), (1, .ref k1), (2, .int k2), (3, .int k3)]) hx hb dX5_measure_16 hl (by decide) rfl (fun ls hl => ?_)
  have key_13 : ∀ (fu_15 : Nat) (v4w16 : Nat) (M_18 : Hp) (H_19 : Heap) (locs : List Loc) (ls : Array Slot), 8 - v4w16 < fu_15 → v4w16 ≤ 8 → WOK cy K L M_18 → fr K L [14] M M_18 → va_P D vwCl ([] ++ va_pl L M_18) H_19 → va_D A ([] ++ va_pl L M_18) → va_S A s.heap H_19 locs → lv_has ls 7 [(4, .int (nI v4w16)), (0, .ref oa), (1, .ref k1), (2, .int k2), (3, .int k3)] → W p l e R s m ([.ref oa, .ref k1, .int k2, .int k3] : List Value).toArray below meth c H_19 locs 0 0 Q (F0 m 18 ls []) := by
    intro fu_15
    induction fu_15 with
    | zero => intro v4w16 M_18 H_19 locs ls h; exact absurd h (Nat.not_lt_zero _)
    | succ fu_15 ih_14 =>
      intro v4w16 M_18 H_19 locs ls hfu hx_17 hW hF hP hD hS hl
      refine lv_iload hx hb dX5_measure_18 (lv_at hl 0 rfl) ?_
      refine lv_bipush (v := 8) hx hb dX5_measure_20 (by decide) ?_
      refine lv_icmp_ge (tgt := 87) hx hb dX5_measure_22 (by decide) (fun c_20 => ?_) (fun c_20 => ?_)
      · have hz := rfl (a := 0)
        have n_21 : 8 ≤ v4w16 := (iLE (a := 8) (b := v4w16) (by omega) (by omega)).mp c_20
        rw [hQ]
        exact W.vret hx hb hr (fun t ht hW9 => ⟨⟨M_18, rfl, ⟨hW, hF, trivial⟩, ⟨by rw [ht]; exact hP, hD⟩⟩, hS.F ht⟩) hS.2.2 dX5_measure_87
      · have hz := rfl (a := 0)
        have n_22 : ¬ (8 ≤ v4w16) := fun q => c_20 ((iLE (a := 8) (b := v4w16) (by omega) (by omega)).mpr q)
        refine lv_iconst (v := 0) hx hb dX5_measure_25 (by decide) ?_
        refine lv_istore (lv' := [(5, .int 0), (4, .int (nI v4w16)), (0, .ref oa), (1, .ref k1), (2, .int k2), (3, .int k3)]) hx hb dX5_measure_26 hl (by decide) rfl (fun ls hl => ?_)
        have key_23 : ∀ (fu_25 : Nat) (v5w26 : Nat) (M_28 : Hp) (H_29 : Heap) (locs : List Loc) (ls : Array Slot), 8 - v5w26 < fu_25 → v5w26 ≤ 8 → WOK cy K L M_28 → fr K L [14] M M_28 → va_P D vwCl ([] ++ va_pl L M_28) H_29 → va_D A ([] ++ va_pl L M_28) → va_S A s.heap H_29 locs → lv_has ls 7 [(5, .int (nI v5w26)), (4, .int (nI v4w16)), (0, .ref oa), (1, .ref k1), (2, .int k2), (3, .int k3)] → W p l e R s m ([.ref oa, .ref k1, .int k2, .int k3] : List Value).toArray below meth c H_29 locs 0 0 Q (F0 m 28 ls []) := by
          intro fu_25
          induction fu_25 with
          | zero => intro v5w26 M_28 H_29 locs ls h; exact absurd h (Nat.not_lt_zero _)
          | succ fu_25 ih_24 =>
            intro v5w26 M_28 H_29 locs ls hfu hx_27 hW hF hP hD hS hl
            refine lv_iload hx hb dX5_measure_28 (lv_at hl 0 rfl) ?_
            refine lv_iload_n hx hb dX5_measure_30 rfl (lv_at hl 4 rfl) ?_
            refine lv_icmp_ge (tgt := 81) hx hb dX5_measure_31 (by decide) (fun c_30 => ?_) (fun c_30 => ?_)
            · have hz := rfl (a := 0)
              refine lv_iinc (v := (nI (v4w16 + 1))) (lv' := [(4, .int (nI (v4w16 + 1))), (5, .int (nI v5w26)), (0, .ref oa), (1, .ref k1), (2, .int k2), (3, .int k3)]) hx hb dX5_measure_81 hl (k := 1) rfl (nI_1 v4w16) (by decide) rfl (fun ls hl => ?_)
              refine lv_goto (tgt := 18) hx hb dX5_measure_84 (by decide) ?_
              exact ih_14 (v4w16 + 1) M_28 H_29 _ _ (by omega) (by omega) hW hF hP hD hS (lv_sub hl [0, 2, 3, 4, 5] rfl)
            · have hz := rfl (a := 0)
              refine lv_iload hx hb dX5_measure_34 (lv_at hl 0 rfl) ?_
              refine lv_bipush (v := 8) hx hb dX5_measure_36 (by decide) ?_
              refine lv_icmp_ge (tgt := 81) hx hb dX5_measure_38 (by decide) (fun c_31 => ?_) (fun c_31 => ?_)
              · have hz := rfl (a := 0)
                have n_32 : 8 ≤ v5w26 := (iLE (a := 8) (b := v5w26) (by omega) (by omega)).mp c_31
                refine lv_iinc (v := (nI (v4w16 + 1))) (lv' := [(4, .int (nI (v4w16 + 1))), (5, .int (nI v5w26)), (0, .ref oa), (1, .ref k1), (2, .int k2), (3, .int k3)]) hx hb dX5_measure_81 hl (k := 1) rfl (nI_1 v4w16) (by decide) rfl (fun ls hl => ?_)
                refine lv_goto (tgt := 18) hx hb dX5_measure_84 (by decide) ?_
                exact ih_14 (v4w16 + 1) M_28 H_29 _ _ (by omega) (by omega) hW hF hP hD hS (lv_sub hl [0, 2, 3, 4, 5] rfl)
              · have hz := rfl (a := 0)
                have n_33 : ¬ (8 ≤ v5w26) := fun q => c_31 ((iLE (a := 8) (b := v5w26) (by omega) (by omega)).mpr q)
                refine lv_aload_n hx hb dX5_measure_41 rfl (lv_at hl 3 rfl) ?_
                refine lv_iload hx hb dX5_measure_42 (lv_at hl 0 rfl) ?_
                obtain ⟨f34, hM34, hf34⟩ := hW.open_17 ik1
                have hi_35 : vp_in (nI v5w26) 8 := (inbN v5w26 8 (by omega) (by omega))
                refine pg_aldq hx hb hK hP ik1.1 3 hM34 rfl hi_35 dX5_measure_44 ?_
                obtain ⟨q_36, ho_37⟩ : ∃ q : Option Nat, q = f34 ((nI v5w26) : Int32).toNatClampNeg := ⟨_, rfl⟩
                rw [← ho_37]
                have hq_38 : iskN K L q_36 2 0 := by rw [ho_37]; exact hf34 _ (vp_lt hi_35)
                clear ho_37
                rcases q_36 with _ | b_39
                · have hz := rfl (a := 0)
                  refine lv_astoreN (lv' := [(6, .null), (5, .int (nI v5w26)), (4, .int (nI v4w16)), (0, .ref oa), (1, .ref k1), (2, .int k2), (3, .int k3)]) hx hb dX5_measure_45 hl (by decide) rfl (fun ls hl => ?_)
                  refine lv_aloadN hx hb dX5_measure_47 (lv_at hl 0 rfl) ?_
                  refine lv_ifnullN (tgt := 75) hx hb dX5_measure_49 (by decide) ?_
                  refine lv_iinc (v := (nI (v5w26 + 1))) (lv' := [(5, .int (nI (v5w26 + 1))), (6, .null), (4, .int (nI v4w16)), (0, .ref oa), (1, .ref k1), (2, .int k2), (3, .int k3)]) hx hb dX5_measure_75 hl (k := 1) rfl (nI_1 v5w26) (by decide) rfl (fun ls hl => ?_)
                  refine lv_goto (tgt := 28) hx hb dX5_measure_78 (by decide) ?_
                  exact ih_24 (v5w26 + 1) M_28 H_29 _ _ (by omega) (by omega) hW hF hP hD hS (lv_sub hl [0, 2, 3, 4, 5, 6] rfl)
                · have hb_40 := hq_38 b_39 rfl
                  refine lv_astore (lv' := [(6, .ref b_39), (5, .int (nI v5w26)), (4, .int (nI v4w16)), (0, .ref oa), (1, .ref k1), (2, .int k2), (3, .int k3)]) hx hb dX5_measure_45 hl (by decide) rfl (fun ls hl => ?_)
                  refine lv_aload hx hb dX5_measure_47 (lv_at hl 0 rfl) ?_
                  refine lv_ifnull hx hb dX5_measure_49 ?_
                  refine lv_aload_n hx hb dX5_measure_52 rfl (lv_at hl 3 rfl) ?_
                  obtain ⟨v41_0, v41_1, v41_2, hM41, h41_0, h41_1⟩ := hW.open_5 ia
                  refine pg_get (D := D) (ci := 5) (v := .ref v41_0) (C := RX5) (T := TX5) (N := 3) hx hb hg inG5 hown hK hP ia.1 hM41 rfl 0 (by decide) (hg _ wd_298) (fun _ h9 => h9) rfl dX5_measure_53 ?_
                  refine lv_iload hx hb dX5_measure_56 (lv_at hl 1 rfl) ?_
                  obtain ⟨f42, hM42⟩ := hW.open_14 h41_0
                  refine pg_iald hx hb hK hP h41_0.1 0 hM42 rfl (inbN v5w26 8 (by omega) (by omega)) dX5_measure_58 ?_
                  refine lv_topi (fun f_43 ef_43 => ?_)
                  refine lv_iload hx hb dX5_measure_59 (lv_at hl 2 rfl) ?_
                  refine lv_icmp_ne (tgt := 75) hx hb dX5_measure_61 (by decide) (fun c_44 => ?_) (fun c_44 => ?_)
                  · have hz := rfl (a := 0)
                    refine lv_iinc (v := (nI (v5w26 + 1))) (lv' := [(5, .int (nI (v5w26 + 1))), (6, .ref b_39), (4, .int (nI v4w16)), (0, .ref oa), (1, .ref k1), (2, .int k2), (3, .int k3)]) hx hb dX5_measure_75 hl (k := 1) rfl (nI_1 v5w26) (by decide) rfl (fun ls hl => ?_)
                    refine lv_goto (tgt := 28) hx hb dX5_measure_78 (by decide) ?_
                    exact ih_24 (v5w26 + 1) M_28 H_29 _ _ (by omega) (by omega) hW hF hP hD hS (lv_sub hl [0, 2, 3, 4, 5, 6] rfl)
                  · have hz := rfl (a := 0)
                    refine lv_aload_n hx hb dX5_measure_64 rfl (lv_at hl 3 rfl) ?_
                    refine lv_aload hx hb dX5_measure_65 (lv_at hl 0 rfl) ?_
                    refine lv_iload_n hx hb dX5_measure_67 rfl (lv_at hl 5 rfl) ?_
                    refine lv_iload hx hb dX5_measure_68 (lv_at hl 2 rfl) ?_
                    refine lv_iconst (v := 1) hx hb dX5_measure_70 (by decide) ?_
                    refine lv_iadd hx hb dX5_measure_71 ?_
                    refine lv_topi (fun f_45 ef_45 => ?_)
                    obtain rfl : f_45 = (nI (v4w16 + 1)) := ef_45.trans (nI_add v4w16 1)
                    have hPc : va_P D vwCl ([] ++ va_pl L M_28) H_29 := hP
                    have hDc : va_D A ([] ++ va_pl L M_28) := hD
                    have hFc : ∀ q, va_A ([] ++ va_pl L M_28) H_29.size q → A q := pg_free hDc hS hA
                    refine va_callv (va_runV (As := [.ref b_39, .int k2, .int (nI (v4w16 + 1))]) (rest := []) ⟨hx, hb, hml, hown, hg⟩ (s_X5_markOwners l D cy K L M_28 H_29.size oa b_39 k2 (nI (v4w16 + 1))  hW ia hb_40) (cwV 3 hg (gV wd_306 wd_307 wd_308 wd_309 wd_310) rfl rfl rfl (by decide +kernel) ⟨(Nat.le_trans (Nat.le_of_ble_eq_true rfl) hRf), (Nat.le_trans (Nat.le_of_ble_eq_true rfl) hRl)⟩) ⟨PG.blind, pg_recv hK hP ia.1 hM41 rfl, fun U hU hW => ⟨rfl, PG.at hPc hK hDc hN hU hW⟩⟩ rfl rfl hl.1 rfl (lv_room (Nat.le_of_ble_eq_true rfl)) dX5_measure_72 ⟨(Nat.le_trans (Nat.le_of_ble_eq_true rfl) hRc), (Nat.le_trans (Nat.le_of_ble_eq_true rfl) hRs)⟩) hS (fun q _ h => hFc q h) hFc (fun M_48 t H_46 locs ht hvm hw hB hz1 hk1 hS => ?_)
                    obtain ⟨hW, hF2, hp_49⟩ := hw
                    obtain ⟨hP1, hD1⟩ := hB
                    rw [ht] at hP1
                    have hP : va_P D vwCl ([] ++ va_pl L M_48) H_46 := hP1
                    have hD : va_D A ([] ++ va_pl L M_48) := hD1.mono hFc
                    have hM_50 : M_48 k1 = .inl (cy 17, 8, .inr (.inr (.inr (.inr (f34))))) := (hF2.at ik1 (by decide)).trans hM34
                    have hM_51 : M_48 oa = .inr (5, [.ref v41_0, .ref v41_1, .int v41_2]) := (hF2.at ia (by decide)).trans hM41
                    have hF : fr K L [14] M M_48 := hF.tr hF2 (by decide)
                    refine lv_iinc (v := (nI (v5w26 + 1))) (lv' := [(5, .int (nI (v5w26 + 1))), (6, .ref b_39), (4, .int (nI v4w16)), (0, .ref oa), (1, .ref k1), (2, .int k2), (3, .int k3)]) hx hb dX5_measure_75 hl (k := 1) rfl (nI_1 v5w26) (by decide) rfl (fun ls hl => ?_)
                    refine lv_goto (tgt := 28) hx hb dX5_measure_78 (by decide) ?_
                    exact ih_24 (v5w26 + 1) M_48 H_46 _ _ (by omega) (by omega) hW hF hP hD hS (lv_sub hl [0, 2, 3, 4, 5, 6] rfl)
        exact key_23 (8 - 0 + 1) 0 M_18 H_19 _ _ (by omega) (by omega) hW hF hP hD hS (lv_sub hl [0, 1, 2, 3, 4, 5] rfl)
  exact key_13 (8 - 1 + 1) 1 M_9 H_8 _ _ (by omega) (by omega) hW hF hP hD hS (lv_sub hl [0, 1, 2, 3, 4] rfl)
set_option maxHeartbeats 4000000 in
set_option maxRecDepth 100000 in
theorem s_X5_nextTowards (l : Launch) (D : va_G) (cy : Nat → ClassId) (K : Kp) (L : List Nat) (M : Hp) (sz : Nat) (oa : Nat) (k1 : Nat) (k2 : Int32) (k3 : Int32) (hW : WOK cy K L M) (ia : isk K L oa 5 0) (ik1 : isk K L k1 17 8) : Met l yX5_nextTowards (wsM yX5_nextTowards cX5_nextTowards 7 (some .int)) ({ frames := 1, cells := 0, slots := 0, locals := 21 }) (va_Pc [.ref oa, .ref k1, .int k2, .int k3] (PG D cy [] L M sz)) (va_Qi (fun (r : Int32) (_ : Unit) => True) (fun _ t => PQ D [] L M (va_A ([] ++ va_pl L M) sz) t) (va_A ([] ++ va_pl L M) sz)) 0 0 (va_A ([] ++ va_pl L M) sz) := by
  refine Met.ofW (cc := cX5_nextTowards) (maxL := 7) (ret := (some .int)) (by decide) rfl ?_
  intro p e s m args below meth c s₁ B hml hv
  obtain ⟨rfl, hsz, hP, hK, hD0, hN⟩ := hv
  have hx := B.exec
  have hb := B.bytes
  have hr := B.returns
  have hts := atoms_spec (ws := (wsM yX5_nextTowards cX5_nextTowards 7 (some .int))) B.pre
  have hg : ∀ w ∈ lw_good, w.before _ s = true := fun w h => hts w (List.mem_cons_of_mem _ h)
  have hown : s.vm.findClass RX5 = some m.cls := findClass_of_methodNamed B.named
  have hlocks := B.notSynchronized
  subst hsz
  have hD := hD0.self (sz := s.heap.size)
  generalize hAe : va_A ([] ++ va_pl L M) s.heap.size = A at hD ⊢
  have hA : ∀ q : Nat, s.heap.size ≤ q → A q := fun q h => by rw [← hAe]; exact Or.inr h
  have hS : va_S A s.heap s.heap [] := va_S.rf
  have hl := lv_entry ([.ref oa, .ref k1, .int k2, .int k3]) (n := 7) (Nat.le_of_ble_eq_true rfl)
  rw [lg_entry_eq]
  generalize (lg_sl ([.ref oa, .ref k1, .int k2, .int k3]) ++ List.replicate (7 - (lg_sl ([.ref oa, .ref k1, .int k2, .int k3])).length) Slot.unset).toArray = ls at hl ⊢
  refine W.nameQ (fun Q hQ => ?_)
  refine W.nameR (fun R hR => ?_)
  have hRf : 1 ≤ R.frames := by rw [hR]; exact Nat.le_of_ble_eq_true rfl
  have hRl : 21 ≤ R.locals := by rw [hR]; exact Nat.le_of_ble_eq_true rfl
  have hRc : 0 ≤ R.cells := by rw [hR]; exact Nat.le_of_ble_eq_true rfl
  have hRs : 0 ≤ R.slots := by rw [hR]; exact Nat.le_of_ble_eq_true rfl
  have hl : lv_has ls 7 [(0, .ref oa), (1, .ref k1), (2, .int k2), (3, .int k3)] := hl
  refine lv_iload_n hx hb dX5_nextTowards_0 rfl (lv_at hl 3 rfl) ?_
  refine lv_if_lt (tgt := 21) hx hb dX5_nextTowards_1 (by decide) (fun c_1 => ?_) (fun c_1 => ?_)
  · have hz := rfl (a := 0)
    refine lv_iconst (v := 0) hx hb dX5_nextTowards_21 (by decide) ?_
    refine lv_istore (lv' := [(4, .int 0), (0, .ref oa), (1, .ref k1), (2, .int k2), (3, .int k3)]) hx hb dX5_nextTowards_22 hl (by decide) rfl (fun ls hl => ?_)
    refine lv_iconst (v := 0) hx hb dX5_nextTowards_24 (by decide) ?_
    refine lv_istore (lv' := [(5, .int 0), (4, .int 0), (0, .ref oa), (1, .ref k1), (2, .int k2), (3, .int k3)]) hx hb dX5_nextTowards_25 hl (by decide) rfl (fun ls hl => ?_)
    have key_2 : ∀ (fu_4 : Nat) (v5w5 : Nat) (H_7 : Heap) (locs : List Loc) (ls : Array Slot), 8 - v5w5 < fu_4 → v5w5 ≤ 8 → WOK cy K L M → va_P D vwCl ([] ++ va_pl L M) H_7 → va_D A ([] ++ va_pl L M) → va_S A s.heap H_7 locs → lv_has ls 7 [(5, .int (nI v5w5)), (4, .int 0), (0, .ref oa), (1, .ref k1), (2, .int k2), (3, .int k3)] → W p l e R s m ([.ref oa, .ref k1, .int k2, .int k3] : List Value).toArray below meth c H_7 locs 0 0 Q (F0 m 27 ls []) := by
      intro fu_4
      induction fu_4 with
      | zero => intro v5w5 H_7 locs ls h; exact absurd h (Nat.not_lt_zero _)
      | succ fu_4 ih_3 =>
        intro v5w5 H_7 locs ls hfu hx_6 hW hP hD hS hl
        refine lv_iload hx hb dX5_nextTowards_27 (lv_at hl 0 rfl) ?_
        refine lv_iload_n hx hb dX5_nextTowards_29 rfl (lv_at hl 4 rfl) ?_
        refine lv_icmp_ge (tgt := 86) hx hb dX5_nextTowards_30 (by decide) (fun c_8 => ?_) (fun c_8 => ?_)
        · have hz := rfl (a := 0)
          refine lv_iconst (v := (-1)) hx hb dX5_nextTowards_86 (by decide) ?_
          rw [hQ]
          exact W.iret (v := (-1)) hx hb hr (fun t ht hW9 => ⟨⟨(-1), (), rfl, trivial, ⟨by rw [ht]; exact hP, hD⟩⟩, hS.F ht⟩) hS.2.2 dX5_nextTowards_87
        · have hz := rfl (a := 0)
          refine lv_iload hx hb dX5_nextTowards_33 (lv_at hl 0 rfl) ?_
          refine lv_bipush (v := 8) hx hb dX5_nextTowards_35 (by decide) ?_
          refine lv_icmp_ge (tgt := 86) hx hb dX5_nextTowards_37 (by decide) (fun c_9 => ?_) (fun c_9 => ?_)
          · have hz := rfl (a := 0)
            have n_10 : 8 ≤ v5w5 := (iLE (a := 8) (b := v5w5) (by omega) (by omega)).mp c_9
            refine lv_iconst (v := (-1)) hx hb dX5_nextTowards_86 (by decide) ?_
            rw [hQ]
            exact W.iret (v := (-1)) hx hb hr (fun t ht hW9 => ⟨⟨(-1), (), rfl, trivial, ⟨by rw [ht]; exact hP, hD⟩⟩, hS.F ht⟩) hS.2.2 dX5_nextTowards_87
          · have hz := rfl (a := 0)
            have n_11 : ¬ (8 ≤ v5w5) := fun q => c_9 ((iLE (a := 8) (b := v5w5) (by omega) (by omega)).mpr q)
            refine lv_iload hx hb dX5_nextTowards_40 (lv_at hl 1 rfl) ?_
            refine lv_if_le (tgt := 86) hx hb dX5_nextTowards_42 (by decide) (fun _ => ?_) (fun c_12 => absurd c_12 (by decide))
            refine lv_iconst (v := (-1)) hx hb dX5_nextTowards_86 (by decide) ?_
            rw [hQ]
            exact W.iret (v := (-1)) hx hb hr (fun t ht hW9 => ⟨⟨(-1), (), rfl, trivial, ⟨by rw [ht]; exact hP, hD⟩⟩, hS.F ht⟩) hS.2.2 dX5_nextTowards_87
    exact key_2 (8 - 0 + 1) 0 s.heap _ _ (by omega) (by omega) hW hP hD hS (lv_sub hl [0, 1, 2, 3, 4, 5] rfl)
  · have hz := rfl (a := 0)
    refine lv_iload_n hx hb dX5_nextTowards_4 rfl (lv_at hl 3 rfl) ?_
    refine lv_bipush (v := 8) hx hb dX5_nextTowards_5 (by decide) ?_
    refine lv_icmp_ge (tgt := 21) hx hb dX5_nextTowards_7 (by decide) (fun c_13 => ?_) (fun c_13 => ?_)
    · have hz := rfl (a := 0)
      refine lv_iconst (v := 0) hx hb dX5_nextTowards_21 (by decide) ?_
      refine lv_istore (lv' := [(4, .int 0), (0, .ref oa), (1, .ref k1), (2, .int k2), (3, .int k3)]) hx hb dX5_nextTowards_22 hl (by decide) rfl (fun ls hl => ?_)
      refine lv_iconst (v := 0) hx hb dX5_nextTowards_24 (by decide) ?_
      refine lv_istore (lv' := [(5, .int 0), (4, .int 0), (0, .ref oa), (1, .ref k1), (2, .int k2), (3, .int k3)]) hx hb dX5_nextTowards_25 hl (by decide) rfl (fun ls hl => ?_)
      have key_14 : ∀ (fu_16 : Nat) (v5w17 : Nat) (H_19 : Heap) (locs : List Loc) (ls : Array Slot), 8 - v5w17 < fu_16 → v5w17 ≤ 8 → WOK cy K L M → va_P D vwCl ([] ++ va_pl L M) H_19 → va_D A ([] ++ va_pl L M) → va_S A s.heap H_19 locs → lv_has ls 7 [(5, .int (nI v5w17)), (4, .int 0), (0, .ref oa), (1, .ref k1), (2, .int k2), (3, .int k3)] → W p l e R s m ([.ref oa, .ref k1, .int k2, .int k3] : List Value).toArray below meth c H_19 locs 0 0 Q (F0 m 27 ls []) := by
        intro fu_16
        induction fu_16 with
        | zero => intro v5w17 H_19 locs ls h; exact absurd h (Nat.not_lt_zero _)
        | succ fu_16 ih_15 =>
          intro v5w17 H_19 locs ls hfu hx_18 hW hP hD hS hl
          refine lv_iload hx hb dX5_nextTowards_27 (lv_at hl 0 rfl) ?_
          refine lv_iload_n hx hb dX5_nextTowards_29 rfl (lv_at hl 4 rfl) ?_
          refine lv_icmp_ge (tgt := 86) hx hb dX5_nextTowards_30 (by decide) (fun c_20 => ?_) (fun c_20 => ?_)
          · have hz := rfl (a := 0)
            refine lv_iconst (v := (-1)) hx hb dX5_nextTowards_86 (by decide) ?_
            rw [hQ]
            exact W.iret (v := (-1)) hx hb hr (fun t ht hW9 => ⟨⟨(-1), (), rfl, trivial, ⟨by rw [ht]; exact hP, hD⟩⟩, hS.F ht⟩) hS.2.2 dX5_nextTowards_87
          · have hz := rfl (a := 0)
            refine lv_iload hx hb dX5_nextTowards_33 (lv_at hl 0 rfl) ?_
            refine lv_bipush (v := 8) hx hb dX5_nextTowards_35 (by decide) ?_
            refine lv_icmp_ge (tgt := 86) hx hb dX5_nextTowards_37 (by decide) (fun c_21 => ?_) (fun c_21 => ?_)
            · have hz := rfl (a := 0)
              have n_22 : 8 ≤ v5w17 := (iLE (a := 8) (b := v5w17) (by omega) (by omega)).mp c_21
              refine lv_iconst (v := (-1)) hx hb dX5_nextTowards_86 (by decide) ?_
              rw [hQ]
              exact W.iret (v := (-1)) hx hb hr (fun t ht hW9 => ⟨⟨(-1), (), rfl, trivial, ⟨by rw [ht]; exact hP, hD⟩⟩, hS.F ht⟩) hS.2.2 dX5_nextTowards_87
            · have hz := rfl (a := 0)
              have n_23 : ¬ (8 ≤ v5w17) := fun q => c_21 ((iLE (a := 8) (b := v5w17) (by omega) (by omega)).mpr q)
              refine lv_iload hx hb dX5_nextTowards_40 (lv_at hl 1 rfl) ?_
              refine lv_if_le (tgt := 86) hx hb dX5_nextTowards_42 (by decide) (fun _ => ?_) (fun c_24 => absurd c_24 (by decide))
              refine lv_iconst (v := (-1)) hx hb dX5_nextTowards_86 (by decide) ?_
              rw [hQ]
              exact W.iret (v := (-1)) hx hb hr (fun t ht hW9 => ⟨⟨(-1), (), rfl, trivial, ⟨by rw [ht]; exact hP, hD⟩⟩, hS.F ht⟩) hS.2.2 dX5_nextTowards_87
      exact key_14 (8 - 0 + 1) 0 s.heap _ _ (by omega) (by omega) hW hP hD hS (lv_sub hl [0, 1, 2, 3, 4, 5] rfl)
    · have hz := rfl (a := 0)
      refine lv_aload_n hx hb dX5_nextTowards_10 rfl (lv_at hl 0 rfl) ?_
      obtain ⟨v25_0, v25_1, v25_2, hM25, h25_0, h25_1⟩ := hW.open_5 ia
      refine pg_get (D := D) (ci := 5) (v := .ref v25_0) (C := RX5) (T := TX5) (N := 3) hx hb hg inG5 hown hK hP ia.1 hM25 rfl 0 (by decide) (hg _ wd_298) (fun _ h9 => h9) rfl dX5_nextTowards_11 ?_
      refine lv_iload_n hx hb dX5_nextTowards_14 rfl (lv_at hl 3 rfl) ?_
      obtain ⟨f26, hM26⟩ := hW.open_14 h25_0
      refine pg_iald hx hb hK hP h25_0.1 0 hM26 rfl (inb k3 8 (by omega) c_1 c_13) dX5_nextTowards_15 ?_
      refine lv_topi (fun f_27 ef_27 => ?_)
      refine lv_iconst (v := 1) hx hb dX5_nextTowards_16 (by decide) ?_
      refine lv_isub hx hb dX5_nextTowards_17 ?_
      refine lv_topi (fun f_28 ef_28 => ?_)
      refine lv_goto (tgt := 22) hx hb dX5_nextTowards_18 (by decide) ?_
      refine lv_istore (lv' := [(4, .int f_28), (0, .ref oa), (1, .ref k1), (2, .int k2), (3, .int k3)]) hx hb dX5_nextTowards_22 hl (by decide) rfl (fun ls hl => ?_)
      refine lv_iconst (v := 0) hx hb dX5_nextTowards_24 (by decide) ?_
      refine lv_istore (lv' := [(5, .int 0), (4, .int f_28), (0, .ref oa), (1, .ref k1), (2, .int k2), (3, .int k3)]) hx hb dX5_nextTowards_25 hl (by decide) rfl (fun ls hl => ?_)
      have key_29 : ∀ (fu_31 : Nat) (v5w32 : Nat) (H_34 : Heap) (locs : List Loc) (ls : Array Slot), 8 - v5w32 < fu_31 → v5w32 ≤ 8 → WOK cy K L M → va_P D vwCl ([] ++ va_pl L M) H_34 → va_D A ([] ++ va_pl L M) → va_S A s.heap H_34 locs → lv_has ls 7 [(5, .int (nI v5w32)), (4, .int f_28), (0, .ref oa), (1, .ref k1), (2, .int k2), (3, .int k3)] → W p l e R s m ([.ref oa, .ref k1, .int k2, .int k3] : List Value).toArray below meth c H_34 locs 0 0 Q (F0 m 27 ls []) := by
        intro fu_31
        induction fu_31 with
        | zero => intro v5w32 H_34 locs ls h; exact absurd h (Nat.not_lt_zero _)
        | succ fu_31 ih_30 =>
          intro v5w32 H_34 locs ls hfu hx_33 hW hP hD hS hl
          refine lv_iload hx hb dX5_nextTowards_27 (lv_at hl 0 rfl) ?_
          refine lv_iload_n hx hb dX5_nextTowards_29 rfl (lv_at hl 4 rfl) ?_
          refine lv_icmp_ge (tgt := 86) hx hb dX5_nextTowards_30 (by decide) (fun c_35 => ?_) (fun c_35 => ?_)
          · have hz := rfl (a := 0)
            refine lv_iconst (v := (-1)) hx hb dX5_nextTowards_86 (by decide) ?_
            rw [hQ]
            exact W.iret (v := (-1)) hx hb hr (fun t ht hW9 => ⟨⟨(-1), (), rfl, trivial, ⟨by rw [ht]; exact hP, hD⟩⟩, hS.F ht⟩) hS.2.2 dX5_nextTowards_87
          · have hz := rfl (a := 0)
            refine lv_iload hx hb dX5_nextTowards_33 (lv_at hl 0 rfl) ?_
            refine lv_bipush (v := 8) hx hb dX5_nextTowards_35 (by decide) ?_
            refine lv_icmp_ge (tgt := 86) hx hb dX5_nextTowards_37 (by decide) (fun c_36 => ?_) (fun c_36 => ?_)
            · have hz := rfl (a := 0)
              have n_37 : 8 ≤ v5w32 := (iLE (a := 8) (b := v5w32) (by omega) (by omega)).mp c_36
              refine lv_iconst (v := (-1)) hx hb dX5_nextTowards_86 (by decide) ?_
              rw [hQ]
              exact W.iret (v := (-1)) hx hb hr (fun t ht hW9 => ⟨⟨(-1), (), rfl, trivial, ⟨by rw [ht]; exact hP, hD⟩⟩, hS.F ht⟩) hS.2.2 dX5_nextTowards_87
            · have hz := rfl (a := 0)
              have n_38 : ¬ (8 ≤ v5w32) := fun q => c_36 ((iLE (a := 8) (b := v5w32) (by omega) (by omega)).mpr q)
              refine lv_iload hx hb dX5_nextTowards_40 (lv_at hl 1 rfl) ?_
              refine lv_if_le (tgt := 86) hx hb dX5_nextTowards_42 (by decide) (fun c_39 => ?_) (fun c_39 => ?_)
              · have hz := rfl (a := 0)
                refine lv_iconst (v := (-1)) hx hb dX5_nextTowards_86 (by decide) ?_
                rw [hQ]
                exact W.iret (v := (-1)) hx hb hr (fun t ht hW9 => ⟨⟨(-1), (), rfl, trivial, ⟨by rw [ht]; exact hP, hD⟩⟩, hS.F ht⟩) hS.2.2 dX5_nextTowards_87
              · have hz := rfl (a := 0)
                refine lv_aload_n hx hb dX5_nextTowards_45 rfl (lv_at hl 3 rfl) ?_
                refine lv_iload hx hb dX5_nextTowards_46 (lv_at hl 0 rfl) ?_
                obtain ⟨f40, hM40, hf40⟩ := hW.open_17 ik1
                have hi_41 : vp_in (nI v5w32) 8 := (inbN v5w32 8 (by omega) (by omega))
                refine pg_aldq hx hb hK hP ik1.1 3 hM40 rfl hi_41 dX5_nextTowards_48 ?_
                obtain ⟨q_42, ho_43⟩ : ∃ q : Option Nat, q = f40 ((nI v5w32) : Int32).toNatClampNeg := ⟨_, rfl⟩
                rw [← ho_43]
                have hq_44 : iskN K L q_42 2 0 := by rw [ho_43]; exact hf40 _ (vp_lt hi_41)
                clear ho_43
                rcases q_42 with _ | b_45
                · have hz := rfl (a := 0)
                  refine lv_astoreN (lv' := [(6, .null), (5, .int (nI v5w32)), (4, .int f_28), (0, .ref oa), (1, .ref k1), (2, .int k2), (3, .int k3)]) hx hb dX5_nextTowards_49 hl (by decide) rfl (fun ls hl => ?_)
                  refine lv_aloadN hx hb dX5_nextTowards_51 (lv_at hl 0 rfl) ?_
                  refine lv_ifnullN (tgt := 80) hx hb dX5_nextTowards_53 (by decide) ?_
                  refine lv_iinc (v := (nI (v5w32 + 1))) (lv' := [(5, .int (nI (v5w32 + 1))), (6, .null), (4, .int f_28), (0, .ref oa), (1, .ref k1), (2, .int k2), (3, .int k3)]) hx hb dX5_nextTowards_80 hl (k := 1) rfl (nI_1 v5w32) (by decide) rfl (fun ls hl => ?_)
                  refine lv_goto (tgt := 27) hx hb dX5_nextTowards_83 (by decide) ?_
                  exact ih_30 (v5w32 + 1) H_34 _ _ (by omega) (by omega) hW hP hD hS (lv_sub hl [0, 2, 3, 4, 5, 6] rfl)
                · have hb_46 := hq_44 b_45 rfl
                  refine lv_astore (lv' := [(6, .ref b_45), (5, .int (nI v5w32)), (4, .int f_28), (0, .ref oa), (1, .ref k1), (2, .int k2), (3, .int k3)]) hx hb dX5_nextTowards_49 hl (by decide) rfl (fun ls hl => ?_)
                  refine lv_aload hx hb dX5_nextTowards_51 (lv_at hl 0 rfl) ?_
                  refine lv_ifnull hx hb dX5_nextTowards_53 ?_
                  refine lv_aload_n hx hb dX5_nextTowards_56 rfl (lv_at hl 3 rfl) ?_
                  refine pg_get (D := D) (ci := 5) (v := .ref v25_0) (C := RX5) (T := TX5) (N := 3) hx hb hg inG5 hown hK hP ia.1 hM25 rfl 0 (by decide) (hg _ wd_298) (fun _ h9 => h9) rfl dX5_nextTowards_57 ?_
                  refine lv_iload hx hb dX5_nextTowards_60 (lv_at hl 1 rfl) ?_
                  refine pg_iald hx hb hK hP h25_0.1 0 hM26 rfl (inbN v5w32 8 (by omega) (by omega)) dX5_nextTowards_62 ?_
                  refine lv_topi (fun f_47 ef_47 => ?_)
                  refine lv_iload hx hb dX5_nextTowards_63 (lv_at hl 2 rfl) ?_
                  refine lv_icmp_ne (tgt := 80) hx hb dX5_nextTowards_65 (by decide) (fun c_48 => ?_) (fun c_48 => ?_)
                  · have hz := rfl (a := 0)
                    refine lv_iinc (v := (nI (v5w32 + 1))) (lv' := [(5, .int (nI (v5w32 + 1))), (6, .ref b_45), (4, .int f_28), (0, .ref oa), (1, .ref k1), (2, .int k2), (3, .int k3)]) hx hb dX5_nextTowards_80 hl (k := 1) rfl (nI_1 v5w32) (by decide) rfl (fun ls hl => ?_)
                    refine lv_goto (tgt := 27) hx hb dX5_nextTowards_83 (by decide) ?_
                    exact ih_30 (v5w32 + 1) H_34 _ _ (by omega) (by omega) hW hP hD hS (lv_sub hl [0, 2, 3, 4, 5, 6] rfl)
                  · have hz := rfl (a := 0)
                    refine lv_aload hx hb dX5_nextTowards_68 (lv_at hl 0 rfl) ?_
                    refine lv_iload_n hx hb dX5_nextTowards_70 rfl (lv_at hl 6 rfl) ?_
                    obtain ⟨v49_0, v49_1, v49_2, v49_3, v49_4, v49_5, v49_6, v49_7, v49_8, v49_9, v49_10, v49_11, v49_12, v49_13, v49_14, v49_15, v49_16, v49_17, v49_18, v49_19, hM49, h49_3, h49_4, h49_5, h49_6, h49_7, h49_8, h49_9, h49_10, h49_11, h49_12, h49_13, h49_16, h49_17, h49_18, h49_19⟩ := hW.open_2 hb_46
                    have hPc : va_P D vwCl ([] ++ va_pl L M) H_34 := hP
                    have hDc : va_D A ([] ++ va_pl L M) := hD
                    have hFc : ∀ q, va_A ([] ++ va_pl L M) H_34.size q → A q := pg_free hDc hS hA
                    refine va_calli (va_runV (As := [.int k3]) (rest := []) ⟨hx, hb, hml, hown, hg⟩ (s_X2_isOwnedBy l D cy K L M H_34.size b_45 k3  hW hb_46) (cwV 1 hg (gV wd_299 wd_300 wd_301 wd_57 wd_302) rfl rfl rfl (by decide +kernel) ⟨(Nat.le_trans (Nat.le_of_ble_eq_true rfl) hRf), (Nat.le_trans (Nat.le_of_ble_eq_true rfl) hRl)⟩) ⟨PG.blind, pg_recv hK hP hb_46.1 hM49 rfl, fun U hU hW => ⟨rfl, PG.at hPc hK hDc hN hU hW⟩⟩ rfl rfl hl.1 rfl (lv_room (Nat.le_of_ble_eq_true rfl)) dX5_nextTowards_71 ⟨(Nat.le_trans (Nat.le_of_ble_eq_true rfl) hRc), (Nat.le_trans (Nat.le_of_ble_eq_true rfl) hRs)⟩) hS (fun q _ h => hFc q h) hFc (fun r_51 M_52 t H_50 locs ht hvm hw hB hz1 hk1 hS => ?_)
                    have hp_53 := hw
                    obtain ⟨hP1, hD1⟩ := hB
                    rw [ht] at hP1
                    have hP : va_P D vwCl ([] ++ va_pl L M) H_50 := hP1
                    have hD : va_D A ([] ++ va_pl L M) := hD1.mono hFc
                    rcases hp_53 with rfl | rfl
                    · have hz := rfl (a := 0)
                      refine lv_if_eq (tgt := 80) hx hb dX5_nextTowards_74 (by decide) (fun c_54 => absurd c_54 (by decide)) (fun _ => ?_)
                      refine lv_iload hx hb dX5_nextTowards_77 (lv_at hl 1 rfl) ?_
                      rw [hQ]
                      exact W.iret (v := (nI v5w32)) hx hb hr (fun t ht hW9 => ⟨⟨(nI v5w32), (), rfl, trivial, ⟨by rw [ht]; exact hP, hD⟩⟩, hS.F ht⟩) hS.2.2 dX5_nextTowards_79
                    · have hz := rfl (a := 0)
                      refine lv_if_eq (tgt := 80) hx hb dX5_nextTowards_74 (by decide) (fun _ => ?_) (fun c_55 => absurd c_55 (by decide))
                      refine lv_iinc (v := (nI (v5w32 + 1))) (lv' := [(5, .int (nI (v5w32 + 1))), (6, .ref b_45), (4, .int f_28), (0, .ref oa), (1, .ref k1), (2, .int k2), (3, .int k3)]) hx hb dX5_nextTowards_80 hl (k := 1) rfl (nI_1 v5w32) (by decide) rfl (fun ls hl => ?_)
                      refine lv_goto (tgt := 27) hx hb dX5_nextTowards_83 (by decide) ?_
                      exact ih_30 (v5w32 + 1) H_50 _ _ (by omega) (by omega) hW hP hD hS (lv_sub hl [0, 2, 3, 4, 5, 6] rfl)
      exact key_29 (8 - 0 + 1) 0 s.heap _ _ (by omega) (by omega) hW hP hD hS (lv_sub hl [0, 1, 2, 3, 4, 5] rfl)
