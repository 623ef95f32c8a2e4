theorem dX5_init_0 : decode cX5_init 0 = .ok (.aload_n 0, 1) := by decide +kernel
theorem dX5_init_1 : decode cX5_init 1 = .ok (.invokespecial 3, 3) := by decide +kernel
theorem dX5_init_4 : decode cX5_init 4 = .ok (.aload_n 0, 1) := by decide +kernel
theorem dX5_init_5 : decode cX5_init 5 = .ok (.bipush 8, 2) := by decide +kernel
theorem dX5_init_7 : decode cX5_init 7 = .ok (.newarray .int, 2) := by decide +kernel
theorem dX5_init_9 : decode cX5_init 9 = .ok (.putfield 9, 3) := by decide +kernel
theorem dX5_init_12 : decode cX5_init 12 = .ok (.aload_n 0, 1) := by decide +kernel
theorem dX5_init_13 : decode cX5_init 13 = .ok (.bipush 8, 2) := by decide +kernel
theorem dX5_init_15 : decode cX5_init 15 = .ok (.newarray .int, 2) := by decide +kernel
theorem dX5_init_17 : decode cX5_init 17 = .ok (.putfield 15, 3) := by decide +kernel
theorem dX5_init_20 : decode cX5_init 20 = .ok (.return_, 1) := by decide +kernel
theorem dX7_init_0 : decode cX7_init 0 = .ok (.aload_n 0, 1) := by decide +kernel
theorem dX7_init_1 : decode cX7_init 1 = .ok (.invokespecial 3, 3) := by decide +kernel
theorem dX7_init_4 : decode cX7_init 4 = .ok (.aload_n 0, 1) := by decide +kernel
theorem dX7_init_5 : decode cX7_init 5 = .ok (.bipush 100, 2) := by decide +kernel
theorem dX7_init_7 : decode cX7_init 7 = .ok (.anewarray 9, 3) := by decide +kernel
theorem dX7_init_10 : decode cX7_init 10 = .ok (.putfield 11, 3) := by decide +kernel
theorem dX7_init_13 : decode cX7_init 13 = .ok (.aload_n 0, 1) := by decide +kernel
theorem dX7_init_14 : decode cX7_init 14 = .ok (.bipush 100, 2) := by decide +kernel
theorem dX7_init_16 : decode cX7_init 16 = .ok (.newarray .long, 2) := by decide +kernel
theorem dX7_init_18 : decode cX7_init 18 = .ok (.putfield 17, 3) := by decide +kernel
theorem dX7_init_21 : decode cX7_init 21 = .ok (.aload_n 0, 1) := by decide +kernel
theorem dX7_init_22 : decode cX7_init 22 = .ok (.bipush 100, 2) := by decide +kernel
theorem dX7_init_24 : decode cX7_init 24 = .ok (.newarray .long, 2) := by decide +kernel
theorem dX7_init_26 : decode cX7_init 26 = .ok (.putfield 21, 3) := by decide +kernel
theorem dX7_init_29 : decode cX7_init 29 = .ok (.aload_n 0, 1) := by decide +kernel
theorem dX7_init_30 : decode cX7_init 30 = .ok (.bipush 100, 2) := by decide +kernel
theorem dX7_init_32 : decode cX7_init 32 = .ok (.newarray .long, 2) := by decide +kernel
theorem dX7_init_34 : decode cX7_init 34 = .ok (.putfield 24, 3) := by decide +kernel
theorem dX7_init_37 : decode cX7_init 37 = .ok (.aload_n 0, 1) := by decide +kernel
theorem dX7_init_38 : decode cX7_init 38 = .ok (.bipush 100, 2) := by decide +kernel
theorem dX7_init_40 : decode cX7_init 40 = .ok (.newarray .long, 2) := by decide +kernel
theorem dX7_init_42 : decode cX7_init 42 = .ok (.putfield 27, 3) := by decide +kernel
theorem dX7_init_45 : decode cX7_init 45 = .ok (.return_, 1) := by decide +kernel
theorem dX11_init_0 : decode cX11_init 0 = .ok (.aload_n 0, 1) := by decide +kernel
theorem dX11_init_1 : decode cX11_init 1 = .ok (.invokespecial 1, 3) := by decide +kernel
theorem dX11_init_4 : decode cX11_init 4 = .ok (.aload_n 0, 1) := by decide +kernel
theorem dX11_init_5 : decode cX11_init 5 = .ok (.bipush 8, 2) := by decide +kernel
theorem dX11_init_7 : decode cX11_init 7 = .ok (.anewarray 9, 3) := by decide +kernel
theorem dX11_init_10 : decode cX11_init 10 = .ok (.putfield 11, 3) := by decide +kernel
theorem dX11_init_13 : decode cX11_init 13 = .ok (.aload_n 0, 1) := by decide +kernel
theorem dX11_init_14 : decode cX11_init 14 = .ok (.bipush 40, 2) := by decide +kernel
theorem dX11_init_16 : decode cX11_init 16 = .ok (.anewarray 15, 3) := by decide +kernel
theorem dX11_init_19 : decode cX11_init 19 = .ok (.putfield 17, 3) := by decide +kernel
theorem dX11_init_22 : decode cX11_init 22 = .ok (.aload_n 0, 1) := by decide +kernel
theorem dX11_init_23 : decode cX11_init 23 = .ok (.new 21, 3) := by decide +kernel
theorem dX11_init_26 : decode cX11_init 26 = .ok (.dup, 1) := by decide +kernel
theorem dX11_init_27 : decode cX11_init 27 = .ok (.invokespecial 23, 3) := by decide +kernel
theorem dX11_init_30 : decode cX11_init 30 = .ok (.putfield 24, 3) := by decide +kernel
theorem dX11_init_33 : decode cX11_init 33 = .ok (.aload_n 0, 1) := by decide +kernel
theorem dX11_init_34 : decode cX11_init 34 = .ok (.new 28, 3) := by decide +kernel
theorem dX11_init_37 : decode cX11_init 37 = .ok (.dup, 1) := by decide +kernel
theorem dX11_init_38 : decode cX11_init 38 = .ok (.invokespecial 30, 3) := by decide +kernel
theorem dX11_init_41 : decode cX11_init 41 = .ok (.putfield 31, 3) := by decide +kernel
theorem dX11_init_44 : decode cX11_init 44 = .ok (.aload_n 0, 1) := by decide +kernel
theorem dX11_init_45 : decode cX11_init 45 = .ok (.bipush 24, 2) := by decide +kernel
theorem dX11_init_47 : decode cX11_init 47 = .ok (.newarray .int, 2) := by decide +kernel
theorem dX11_init_49 : decode cX11_init 49 = .ok (.putfield 35, 3) := by decide +kernel
theorem dX11_init_52 : decode cX11_init 52 = .ok (.aload_n 0, 1) := by decide +kernel
theorem dX11_init_53 : decode cX11_init 53 = .ok (.bipush 25, 2) := by decide +kernel
theorem dX11_init_55 : decode cX11_init 55 = .ok (.newarray .long, 2) := by decide +kernel
theorem dX11_init_57 : decode cX11_init 57 = .ok (.putfield 39, 3) := by decide +kernel
theorem dX11_init_60 : decode cX11_init 60 = .ok (.aload_n 0, 1) := by decide +kernel
theorem dX11_init_61 : decode cX11_init 61 = .ok (.iconst (-1), 1) := by decide +kernel
theorem dX11_init_62 : decode cX11_init 62 = .ok (.putfield 43, 3) := by decide +kernel
theorem dX11_init_65 : decode cX11_init 65 = .ok (.return_, 1) := by decide +kernel
theorem dX11_term_0 : decode cX11_term 0 = .ok (.aload_n 0, 1) := by decide +kernel
theorem dX11_term_1 : decode cX11_term 1 = .ok (.iload_n 1, 1) := by decide +kernel
theorem dX11_term_2 : decode cX11_term 2 = .ok (.invokevirtual 65, 3) := by decide +kernel
theorem dX11_term_5 : decode cX11_term 5 = .ok (.astore 5, 2) := by decide +kernel
theorem dX11_term_7 : decode cX11_term 7 = .ok (.aload 5, 2) := by decide +kernel
theorem dX11_term_9 : decode cX11_term 9 = .ok (.ifnonnull 7, 3) := by decide +kernel
theorem dX11_term_12 : decode cX11_term 12 = .ok (.aconst_null, 1) := by decide +kernel
theorem dX11_term_13 : decode cX11_term 13 = .ok (.goto 8, 3) := by decide +kernel
theorem dX11_term_16 : decode cX11_term 16 = .ok (.aload 5, 2) := by decide +kernel
theorem dX11_term_18 : decode cX11_term 18 = .ok (.invokevirtual 149, 3) := by decide +kernel
theorem dX11_term_21 : decode cX11_term 21 = .ok (.astore 6, 2) := by decide +kernel
theorem dX11_term_23 : decode cX11_term 23 = .ok (.aload 5, 2) := by decide +kernel
theorem dX11_term_25 : decode cX11_term 25 = .ok (.ifnull 20, 3) := by decide +kernel
theorem dX11_term_28 : decode cX11_term 28 = .ok (.aload 6, 2) := by decide +kernel
theorem dX11_term_30 : decode cX11_term 30 = .ok (.ifnull 15, 3) := by decide +kernel
theorem dX11_term_33 : decode cX11_term 33 = .ok (.iload_n 3, 1) := by decide +kernel
theorem dX11_term_34 : decode cX11_term 34 = .ok (.iconst 4, 1) := by decide +kernel
theorem dX11_term_35 : decode cX11_term 35 = .ok (.if_icmp .eq 16, 3) := by decide +kernel
theorem dX11_term_38 : decode cX11_term 38 = .ok (.iload_n 2, 1) := by decide +kernel
theorem dX11_term_39 : decode cX11_term 39 = .ok (.invokestatic 75, 3) := by decide +kernel
theorem dX11_term_42 : decode cX11_term 42 = .ok (.ifCond .ne 9, 3) := by decide +kernel
theorem dX11_term_45 : decode cX11_term 45 = .ok (.aload_n 0, 1) := by decide +kernel
theorem dX11_term_46 : decode cX11_term 46 = .ok (.iconst 1, 1) := by decide +kernel
theorem dX11_term_47 : decode cX11_term 47 = .ok (.invokevirtual 47, 3) := by decide +kernel
theorem dX11_term_50 : decode cX11_term 50 = .ok (.ireturn, 1) := by decide +kernel
theorem dX11_term_51 : decode cX11_term 51 = .ok (.iload_n 3, 1) := by decide +kernel
theorem dX11_term_52 : decode cX11_term 52 = .ok (.ifCond .lt 26, 3) := by decide +kernel
theorem dX11_term_55 : decode cX11_term 55 = .ok (.iload_n 3, 1) := by decide +kernel
theorem dX11_term_56 : decode cX11_term 56 = .ok (.getstatic 171, 3) := by decide +kernel
theorem dX11_term_59 : decode cX11_term 59 = .ok (.arraylength, 1) := by decide +kernel
theorem dX11_term_60 : decode cX11_term 60 = .ok (.if_icmp .ge 18, 3) := by decide +kernel
theorem dX11_term_63 : decode cX11_term 63 = .ok (.iload 4, 2) := by decide +kernel
theorem dX11_term_65 : decode cX11_term 65 = .ok (.ifCond .lt 13, 3) := by decide +kernel
theorem dX11_term_68 : decode cX11_term 68 = .ok (.iload 4, 2) := by decide +kernel
theorem dX11_term_70 : decode cX11_term 70 = .ok (.getstatic 171, 3) := by decide +kernel
theorem dX11_term_73 : decode cX11_term 73 = .ok (.iload_n 3, 1) := by decide +kernel
theorem dX11_term_74 : decode cX11_term 74 = .ok (.iaload, 1) := by decide +kernel
theorem dX11_term_75 : decode cX11_term 75 = .ok (.if_icmp .le 9, 3) := by decide +kernel
theorem dX11_term_78 : decode cX11_term 78 = .ok (.aload_n 0, 1) := by decide +kernel
theorem dX11_term_79 : decode cX11_term 79 = .ok (.iconst 2, 1) := by decide +kernel
theorem dX11_term_80 : decode cX11_term 80 = .ok (.invokevirtual 47, 3) := by decide +kernel
theorem dX11_term_83 : decode cX11_term 83 = .ok (.ireturn, 1) := by decide +kernel
theorem dX11_term_84 : decode cX11_term 84 = .ok (.aload 5, 2) := by decide +kernel
theorem dX11_term_86 : decode cX11_term 86 = .ok (.aload 6, 2) := by decide +kernel
theorem dX11_term_88 : decode cX11_term 88 = .ok (.getfield 156, 3) := by decide +kernel
theorem dX11_term_91 : decode cX11_term 91 = .ok (.invokevirtual 103, 3) := by decide +kernel
theorem dX11_term_94 : decode cX11_term 94 = .ok (.ifCond .ne 9, 3) := by decide +kernel
theorem dX11_term_97 : decode cX11_term 97 = .ok (.aload_n 0, 1) := by decide +kernel
theorem dX11_term_98 : decode cX11_term 98 = .ok (.iconst 3, 1) := by decide +kernel
theorem dX11_term_99 : decode cX11_term 99 = .ok (.invokevirtual 47, 3) := by decide +kernel
theorem dX11_term_102 : decode cX11_term 102 = .ok (.ireturn, 1) := by decide +kernel
theorem dX11_term_103 : decode cX11_term 103 = .ok (.aload_n 0, 1) := by decide +kernel
theorem dX11_term_104 : decode cX11_term 104 = .ok (.aload 6, 2) := by decide +kernel
theorem dX11_term_106 : decode cX11_term 106 = .ok (.iload_n 2, 1) := by decide +kernel
theorem dX11_term_107 : decode cX11_term 107 = .ok (.iload_n 3, 1) := by decide +kernel
theorem dX11_term_108 : decode cX11_term 108 = .ok (.iload 4, 2) := by decide +kernel
theorem dX11_term_110 : decode cX11_term 110 = .ok (.invokevirtual 174, 3) := by decide +kernel
theorem dX11_term_113 : decode cX11_term 113 = .ok (.invokevirtual 57, 3) := by decide +kernel
theorem dX11_term_116 : decode cX11_term 116 = .ok (.ireturn, 1) := by decide +kernel
theorem wd_683 : Cond.fieldLink RX11 171 RX11 "MAX_TERM" "[I" ∈ lw_good := mem_t3 72 (by decide +kernel) rfl
theorem wd_684 : Cond.methodLink RX11 174 yX6_replace ∈ lw_good := mem_t3 74 (by decide +kernel) rfl
theorem wd_685 : Cond.instanceMethod yX6_replace ∈ lw_good := mem_t3 75 (by decide +kernel) rfl
theorem wd_686 : Cond.selects RX6 yX6_replace yX6_replace ∈ lw_good := mem_t3 76 (by decide +kernel) rfl
theorem wd_687 : Cond.code yX6_replace cX6_replace 5 (some .int) ∈ lw_good := mem_t3 77 rfl rfl
theorem wd_688 : Cond.methodLink RX7 3 Lib.objectInit ∈ lw_good := mem_t1 35 (by decide +kernel) rfl
theorem wd_689 : Cond.classLink RX7 9 RX9 ∈ lw_good := mem_t1 36 (by decide +kernel) rfl
theorem wd_690 : Cond.methodLink RX5 3 Lib.objectInit ∈ lw_good := mem_t1 68 (by decide +kernel) rfl
theorem wd_691 : Cond.methodLink RX11 1 Lib.objectInit ∈ lw_good := mem_t1 23 (by decide +kernel) rfl
theorem wd_692 : Cond.classLink RX11 21 RX7 ∈ lw_good := mem_t1 30 (by decide +kernel) rfl
theorem wd_693 : Cond.instantiable RX7 6 ∈ lw_good := mem_t1 31 (by decide +kernel) rfl
theorem wd_694 : Cond.code yX7_init cX7_init 1 none ∈ lw_good := mem_t1 34 rfl rfl
theorem wd_695 : Cond.instanceMethod yX7_init ∈ lw_good := mem_t1 33 (by decide +kernel) rfl
theorem wd_696 : Cond.classLink RX11 28 RX5 ∈ lw_good := mem_t1 63 (by decide +kernel) rfl
theorem wd_697 : Cond.instantiable RX5 3 ∈ lw_good := mem_t1 64 (by decide +kernel) rfl
theorem wd_698 : Cond.code yX5_init cX5_init 1 none ∈ lw_good := mem_t1 67 rfl rfl
theorem wd_699 : Cond.instanceMethod yX5_init ∈ lw_good := mem_t1 66 (by decide +kernel) rfl
/-- the class's own row of greatest terms, as the Statement gives it -/
def mtI (j : Nat) : Int32 := match j with
  | 0 => 1000000
  | 1 => 1000000000
  | 2 => 1000
  | 3 => 1000
  | _ => 500
def STAT (A : Nat → Prop) (U : State) : Prop := ∃ t : Nat, va_Z RX11 "MAX_TERM" "[I" (.ref t) A U U.heap ∧ va_T .int t 5 (fun j => .int (mtI j)) A U U.heap
theorem STAT.calling {A : Nat → Prop} {U : State} (g : JFrame) (mk : MethodId) (a : Array Value) (h : STAT A U) : STAT A (U.calling g mk a) := by
  obtain ⟨t, h1, h2⟩ := h
  exact ⟨t, va_Z.moved (u := U) (U := U.calling g mk a) (Vm.Alike.refl U.vm) h1, va_T.moved (u := U) (U := U.calling g mk a) (Vm.Alike.refl U.vm) h2⟩
theorem STAT.at {A B : Nat → Prop} {s U : State} {H : Heap} {locs : List Loc} (h : STAT A s) (hS : va_S A s.heap H locs) (hU : U.heap = H) (hW : s.WarmedH U.vm) (hAB : ∀ q, B q → A q) : STAT B U := by
  obtain ⟨t, h1, h2⟩ := h
  refine ⟨t, ?_, ?_⟩
  · rw [hU]
    exact ((h1.kept (fun a ha hn => hS.2.1 a ha hn)).moved hW.alike).narrow hAB
  · rw [hU]
    exact ((h2.kept (fun a ha hn => hS.2.1 a ha hn)).moved hW.alike).narrow hAB
set_option maxHeartbeats 4000000 in
set_option maxRecDepth 100000 in
theorem k_Shares (l : Launch) (D : va_G) (sz : Nat) (oa : Nat) : Met l yX7_init (wsM yX7_init cX7_init 1 none) ({ frames := 1, cells := 5, slots := 500, locals := 12 }) (va_Pc [.ref oa] (Pr D [(oa, .inr (7, [.null, .null, .null, .null, .null, .int 0]))] [] sz)) (va_Qv (fun _ : Unit => True) (fun _ t => ∃ (e0 : Nat) (e1 : Nat) (e2 : Nat) (e3 : Nat) (e4 : Nat) (c0 : ClassId) (c1 : ClassId) (c2 : ClassId) (c3 : ClassId) (c4 : ClassId), Po D [(oa, (b7_8 e0 e1 e2 e3 e4 0)), (e0, .inl (c0, 100, .inr (.inr (.inr (.inr (fun _ => none)))))), (e1, .inl (c1, 100, .inr (.inl (fun _ => 0)))), (e2, .inl (c2, 100, .inr (.inl (fun _ => 0)))), (e3, .inl (c3, 100, .inr (.inl (fun _ => 0)))), (e4, .inl (c4, 100, .inr (.inl (fun _ => 0))))] [(c0, .object RX9), (c1, .long), (c2, .long), (c3, .long), (c4, .long)] (va_A [(oa, .inr (7, [.null, .null, .null, .null, .null, .int 0]))] sz) t) (va_A [(oa, .inr (7, [.null, .null, .null, .null, .null, .int 0]))] sz)) 5 500 (va_A [(oa, .inr (7, [.null, .null, .null, .null, .null, .int 0]))] sz) := by
  refine Met.ofW (cc := cX7_init) (maxL := 1) (ret := none) (by decide) rfl ?_
  intro p e s m args below meth c s₁ B hml hv
  obtain ⟨rfl, hsz, hP, hK, hD0, hN⟩ := hv
  have hx := B.exec
  have hb := B.bytes
  have hr := B.returns
  have hts := atoms_spec (ws := (wsM yX7_init cX7_init 1 none)) B.pre
  have hg : ∀ w ∈ lw_good, w.before _ s = true := fun w h => hts w (List.mem_cons_of_mem _ h)
  have hown : s.vm.findClass RX7 = some m.cls := findClass_of_methodNamed B.named
  have hlocks := B.notSynchronized
  have hin : meth.name = "<init>" := (name_of_methodNamed B.named B.method).1
  subst hsz
  have hD := hD0.self (sz := s.heap.size)
  generalize hAe : va_A [(oa, .inr (7, [.null, .null, .null, .null, .null, .int 0]))] s.heap.size = A at hD ⊢
  have hA : ∀ q : Nat, s.heap.size ≤ q → A q := fun q h => by rw [← hAe]; exact Or.inr h
  have hS : va_S A s.heap s.heap [] := va_S.rf
  have hP : va_P D vwCl [(oa, .inr (7, [.null, .null, .null, .null, .null, .int 0]))] s.heap := hP
  have hl := lv_entry ([.ref oa]) (n := 1) (Nat.le_of_ble_eq_true rfl)
  rw [lg_entry_eq]
  generalize (lg_sl ([.ref oa]) ++ List.replicate (1 - (lg_sl ([.ref oa])).length) Slot.unset).toArray = ls at hl ⊢
  have hl : lv_has ls 1 [(0, .ref oa)] := hl
  refine lv_aload_n hx hb dX7_init_0 rfl (lv_at hl 0 rfl) ?_
  refine W.objInit hx hb hown (hg _ wd_688) (hg _ wd_525) (hg _ wd_obj) rfl (by rw [hml]; exact hl.1) rfl dX7_init_1 (Nat.le_of_ble_eq_true rfl) (Nat.le_of_ble_eq_true rfl) ?_
  refine W.eq (g2 := F0 m 4 ls []) rfl ?_
  refine lv_aload_n hx hb dX7_init_4 rfl (lv_at hl 0 rfl) ?_
  refine lv_bipush (v := 100) hx hb dX7_init_5 (by decide) ?_
  refine va_newq (C := RX9) (N' := 100) hx hb hown (hg _ wd_689) (hN.ao RX9 62 rfl) hK hP hD hS hA (by decide) (by decide) (Nat.le_of_ble_eq_true rfl) (Nat.le_of_ble_eq_true rfl) (Nat.le_of_ble_eq_true rfl) dX7_init_7 (fun q_1 cA_3 H_2 hK hP hD hS => ?_)
  have hK : va_K D vwCl [(cA_3, .object RX9)] s := hK
  have hP : va_P D vwCl [(oa, .inr (7, [.null, .null, .null, .null, .null, .int 0])), (q_1, .inl (cA_3, 100, .inr (.inr (.inr (.inr (fun _ => none))))))] H_2 := hP
  have hD : va_D A [(oa, .inr (7, [.null, .null, .null, .null, .null, .int 0])), (q_1, .inl (cA_3, 100, .inr (.inr (.inr (.inr (fun _ => none))))))] := hD
  refine W.widen (k := 1) (n := 100) (Nat.le_of_ble_eq_true rfl) (Nat.le_of_ble_eq_true rfl) ?_
  refine va_putF (D := D) (ci := 7) (v := .ref q_1) (ty := .array (.object "PartnersBook$Tenure")) (C := RX7) (T := TX7) (N := 6) hx hb hg inG7 tyX7 tyX7_ok nmX7 hown hK hP hD hS 0 rfl rfl 0 (by decide) (hg _ wd_140) (fun _ h9 => h9) rfl hin rfl (by decide +kernel) rfl rfl (Nat.le_of_ble_eq_true rfl) dX7_init_10 (fun H_4 locs hP hD hS => ?_)
  have hP : va_P D vwCl [(oa, .inr (7, [.ref q_1, .null, .null, .null, .null, .int 0])), (q_1, .inl (cA_3, 100, .inr (.inr (.inr (.inr (fun _ => none))))))] H_4 := hP
  have hD : va_D A [(oa, .inr (7, [.ref q_1, .null, .null, .null, .null, .int 0])), (q_1, .inl (cA_3, 100, .inr (.inr (.inr (.inr (fun _ => none))))))] := hD
  refine lv_aload_n hx hb dX7_init_13 rfl (lv_at hl 0 rfl) ?_
  refine lv_bipush (v := 100) hx hb dX7_init_14 (by decide) ?_
  refine va_newa (atype := .long) (ty := .long) (a0 := (100, .inr (.inl (fun _ => 0)))) hx hb (hg _ wd_527) rfl hK hP hD hS hA (fun cA => rfl) (by decide) (by decide) (Nat.le_of_ble_eq_true rfl) (Nat.le_of_ble_eq_true rfl) (Nat.le_of_ble_eq_true rfl) dX7_init_16 (fun q_5 cA_7 H_6 hK hP hD hS => ?_)
  have hK : va_K D vwCl [(cA_3, .object RX9), (cA_7, .long)] s := hK
  have hP : va_P D vwCl [(oa, .inr (7, [.ref q_1, .null, .null, .null, .null, .int 0])), (q_1, .inl (cA_3, 100, .inr (.inr (.inr (.inr (fun _ => none)))))), (q_5, .inl (cA_7, 100, .inr (.inl (fun _ => 0))))] H_6 := hP
  have hD : va_D A [(oa, .inr (7, [.ref q_1, .null, .null, .null, .null, .int 0])), (q_1, .inl (cA_3, 100, .inr (.inr (.inr (.inr (fun _ => none)))))), (q_5, .inl (cA_7, 100, .inr (.inl (fun _ => 0))))] := hD
  refine W.widen (k := 2) (n := 200) (Nat.le_of_ble_eq_true rfl) (Nat.le_of_ble_eq_true rfl) ?_
  refine va_putF (D := D) (ci := 7) (v := .ref q_5) (ty := .array .long) (C := RX7) (T := TX7) (N := 6) hx hb hg inG7 tyX7 tyX7_ok nmX7 hown hK hP hD hS 0 rfl rfl 1 (by decide) (hg _ wd_141) (fun _ h9 => h9) rfl hin rfl (by decide +kernel) rfl rfl (Nat.le_of_ble_eq_true rfl) dX7_init_18 (fun H_8 locs hP hD hS => ?_)
  have hP : va_P D vwCl [(oa, .inr (7, [.ref q_1, .ref q_5, .null, .null, .null, .int 0])), (q_1, .inl (cA_3, 100, .inr (.inr (.inr (.inr (fun _ => none)))))), (q_5, .inl (cA_7, 100, .inr (.inl (fun _ => 0))))] H_8 := hP
  have hD : va_D A [(oa, .inr (7, [.ref q_1, .ref q_5, .null, .null, .null, .int 0])), (q_1, .inl (cA_3, 100, .inr (.inr (.inr (.inr (fun _ => none)))))), (q_5, .inl (cA_7, 100, .inr (.inl (fun _ => 0))))] := hD
  refine lv_aload_n hx hb dX7_init_21 rfl (lv_at hl 0 rfl) ?_
  refine lv_bipush (v := 100) hx hb dX7_init_22 (by decide) ?_
  refine va_newa (atype := .long) (ty := .long) (a0 := (100, .inr (.inl (fun _ => 0)))) hx hb (hg _ wd_527) rfl hK hP hD hS hA (fun cA => rfl) (by decide) (by decide) (Nat.le_of_ble_eq_true rfl) (Nat.le_of_ble_eq_true rfl) (Nat.le_of_ble_eq_true rfl) dX7_init_24 (fun q_9 cA_11 H_10 hK hP hD hS => ?_)
  have hK : va_K D vwCl [(cA_3, .object RX9), (cA_7, .long), (cA_11, .long)] s := hK
  have hP : va_P D vwCl [(oa, .inr (7, [.ref q_1, .ref q_5, .null, .null, .null, .int 0])), (q_1, .inl (cA_3, 100, .inr (.inr (.inr (.inr (fun _ => none)))))), (q_5, .inl (cA_7, 100, .inr (.inl (fun _ => 0)))), (q_9, .inl (cA_11, 100, .inr (.inl (fun _ => 0))))] H_10 := hP
  have hD : va_D A [(oa, .inr (7, [.ref q_1, .ref q_5, .null, .null, .null, .int 0])), (q_1, .inl (cA_3, 100, .inr (.inr (.inr (.inr (fun _ => none)))))), (q_5, .inl (cA_7, 100, .inr (.inl (fun _ => 0)))), (q_9, .inl (cA_11, 100, .inr (.inl (fun _ => 0))))] := hD
  refine W.widen (k := 3) (n := 300) (Nat.le_of_ble_eq_true rfl) (Nat.le_of_ble_eq_true rfl) ?_
  refine va_putF (D := D) (ci := 7) (v := .ref q_9) (ty := .array .long) (C := RX7) (T := TX7) (N := 6) hx hb hg inG7 tyX7 tyX7_ok nmX7 hown hK hP hD hS 0 rfl rfl 2 (by decide) (hg _ wd_142) (fun _ h9 => h9) rfl hin rfl (by decide +kernel) rfl rfl (Nat.le_of_ble_eq_true rfl) dX7_init_26 (fun H_12 locs hP hD hS => ?_)
  have hP : va_P D vwCl [(oa, .inr (7, [.ref q_1, .ref q_5, .ref q_9, .null, .null, .int 0])), (q_1, .inl (cA_3, 100, .inr (.inr (.inr (.inr (fun _ => none)))))), (q_5, .inl (cA_7, 100, .inr (.inl (fun _ => 0)))), (q_9, .inl (cA_11, 100, .inr (.inl (fun _ => 0))))] H_12 := hP
  have hD : va_D A [(oa, .inr (7, [.ref q_1, .ref q_5, .ref q_9, .null, .null, .int 0])), (q_1, .inl (cA_3, 100, .inr (.inr (.inr (.inr (fun _ => none)))))), (q_5, .inl (cA_7, 100, .inr (.inl (fun _ => 0)))), (q_9, .inl (cA_11, 100, .inr (.inl (fun _ => 0))))] := hD
  refine lv_aload_n hx hb dX7_init_29 rfl (lv_at hl 0 rfl) ?_
  refine lv_bipush (v := 100) hx hb dX7_init_30 (by decide) ?_
  refine va_newa (atype := .long) (ty := .long) (a0 := (100, .inr (.inl (fun _ => 0)))) hx hb (hg _ wd_527) rfl hK hP hD hS hA (fun cA => rfl) (by decide) (by decide) (Nat.le_of_ble_eq_true rfl) (Nat.le_of_ble_eq_true rfl) (Nat.le_of_ble_eq_true rfl) dX7_init_32 (fun q_13 cA_15 H_14 hK hP hD hS => ?_)
  have hK : va_K D vwCl [(cA_3, .object RX9), (cA_7, .long), (cA_11, .long), (cA_15, .long)] s := hK
  have hP : va_P D vwCl [(oa, .inr (7, [.ref q_1, .ref q_5, .ref q_9, .null, .null, .int 0])), (q_1, .inl (cA_3, 100, .inr (.inr (.inr (.inr (fun _ => none)))))), (q_5, .inl (cA_7, 100, .inr (.inl (fun _ => 0)))), (q_9, .inl (cA_11, 100, .inr (.inl (fun _ => 0)))), (q_13, .inl (cA_15, 100, .inr (.inl (fun _ => 0))))] H_14 := hP
  have hD : va_D A [(oa, .inr (7, [.ref q_1, .ref q_5, .ref q_9, .null, .null, .int 0])), (q_1, .inl (cA_3, 100, .inr (.inr (.inr (.inr (fun _ => none)))))), (q_5, .inl (cA_7, 100, .inr (.inl (fun _ => 0)))), (q_9, .inl (cA_11, 100, .inr (.inl (fun _ => 0)))), (q_13, .inl (cA_15, 100, .inr (.inl (fun _ => 0))))] := hD
  refine W.widen (k := 4) (n := 400) (Nat.le_of_ble_eq_true rfl) (Nat.le_of_ble_eq_true rfl) ?_
  refine va_putF (D := D) (ci := 7) (v := .ref q_13) (ty := .array .long) (C := RX7) (T := TX7) (N := 6) hx hb hg inG7 tyX7 tyX7_ok nmX7 hown hK hP hD hS 0 rfl rfl 3 (by decide) (hg _ wd_143) (fun _ h9 => h9) rfl hin rfl (by decide +kernel) rfl rfl (Nat.le_of_ble_eq_true rfl) dX7_init_34 (fun H_16 locs hP hD hS => ?_)
  have hP : va_P D vwCl [(oa, .inr (7, [.ref q_1, .ref q_5, .ref q_9, .ref q_13, .null, .int 0])), (q_1, .inl (cA_3, 100, .inr (.inr (.inr (.inr (fun _ => none)))))), (q_5, .inl (cA_7, 100, .inr (.inl (fun _ => 0)))), (q_9, .inl (cA_11, 100, .inr (.inl (fun _ => 0)))), (q_13, .inl (cA_15, 100, .inr (.inl (fun _ => 0))))] H_16 := hP
  have hD : va_D A [(oa, .inr (7, [.ref q_1, .ref q_5, .ref q_9, .ref q_13, .null, .int 0])), (q_1, .inl (cA_3, 100, .inr (.inr (.inr (.inr (fun _ => none)))))), (q_5, .inl (cA_7, 100, .inr (.inl (fun _ => 0)))), (q_9, .inl (cA_11, 100, .inr (.inl (fun _ => 0)))), (q_13, .inl (cA_15, 100, .inr (.inl (fun _ => 0))))] := hD
  refine lv_aload_n hx hb dX7_init_37 rfl (lv_at hl 0 rfl) ?_
  refine lv_bipush (v := 100) hx hb dX7_init_38 (by decide) ?_
  refine va_newa (atype := .long) (ty := .long) (a0 := (100, .inr (.inl (fun _ => 0)))) hx hb (hg _ wd_527) rfl hK hP hD hS hA (fun cA => rfl) (by decide) (by decide) (Nat.le_of_ble_eq_true rfl) (Nat.le_of_ble_eq_true rfl) (Nat.le_of_ble_eq_true rfl) dX7_init_40 (fun q_17 cA_19 H_18 hK hP hD hS => ?_)
  have hK : va_K D vwCl [(cA_3, .object RX9), (cA_7, .long), (cA_11, .long), (cA_15, .long), (cA_19, .long)] s := hK
  have hP : va_P D vwCl [(oa, .inr (7, [.ref q_1, .ref q_5, .ref q_9, .ref q_13, .null, .int 0])), (q_1, .inl (cA_3, 100, .inr (.inr (.inr (.inr (fun _ => none)))))), (q_5, .inl (cA_7, 100, .inr (.inl (fun _ => 0)))), (q_9, .inl (cA_11, 100, .inr (.inl (fun _ => 0)))), (q_13, .inl (cA_15, 100, .inr (.inl (fun _ => 0)))), (q_17, .inl (cA_19, 100, .inr (.inl (fun _ => 0))))] H_18 := hP
  have hD : va_D A [(oa, .inr (7, [.ref q_1, .ref q_5, .ref q_9, .ref q_13, .null, .int 0])), (q_1, .inl (cA_3, 100, .inr (.inr (.inr (.inr (fun _ => none)))))), (q_5, .inl (cA_7, 100, .inr (.inl (fun _ => 0)))), (q_9, .inl (cA_11, 100, .inr (.inl (fun _ => 0)))), (q_13, .inl (cA_15, 100, .inr (.inl (fun _ => 0)))), (q_17, .inl (cA_19, 100, .inr (.inl (fun _ => 0))))] := hD
  refine W.widen (k := 5) (n := 500) (Nat.le_of_ble_eq_true rfl) (Nat.le_of_ble_eq_true rfl) ?_
  refine va_putF (D := D) (ci := 7) (v := .ref q_17) (ty := .array .long) (C := RX7) (T := TX7) (N := 6) hx hb hg inG7 tyX7 tyX7_ok nmX7 hown hK hP hD hS 0 rfl rfl 4 (by decide) (hg _ wd_165) (fun _ h9 => h9) rfl hin rfl (by decide +kernel) rfl rfl (Nat.le_of_ble_eq_true rfl) dX7_init_42 (fun H_20 locs hP hD hS => ?_)
  have hP : va_P D vwCl [(oa, (b7_8 q_1 q_5 q_9 q_13 q_17 0)), (q_1, .inl (cA_3, 100, .inr (.inr (.inr (.inr (fun _ => none)))))), (q_5, .inl (cA_7, 100, .inr (.inl (fun _ => 0)))), (q_9, .inl (cA_11, 100, .inr (.inl (fun _ => 0)))), (q_13, .inl (cA_15, 100, .inr (.inl (fun _ => 0)))), (q_17, .inl (cA_19, 100, .inr (.inl (fun _ => 0))))] H_20 := hP
  have hD : va_D A [(oa, (b7_8 q_1 q_5 q_9 q_13 q_17 0)), (q_1, .inl (cA_3, 100, .inr (.inr (.inr (.inr (fun _ => none)))))), (q_5, .inl (cA_7, 100, .inr (.inl (fun _ => 0)))), (q_9, .inl (cA_11, 100, .inr (.inl (fun _ => 0)))), (q_13, .inl (cA_15, 100, .inr (.inl (fun _ => 0)))), (q_17, .inl (cA_19, 100, .inr (.inl (fun _ => 0))))] := hD
  have hP9 := hP.sub (ws' := [(oa, (b7_8 q_1 q_5 q_9 q_13 q_17 0)), (q_1, .inl (cA_3, 100, .inr (.inr (.inr (.inr (fun _ => none)))))), (q_5, .inl (cA_7, 100, .inr (.inl (fun _ => 0)))), (q_9, .inl (cA_11, 100, .inr (.inl (fun _ => 0)))), (q_13, .inl (cA_15, 100, .inr (.inl (fun _ => 0)))), (q_17, .inl (cA_19, 100, .inr (.inl (fun _ => 0))))]) [0, 1, 2, 3, 4, 5] rfl
  have hD9 := hD.sub (ws' := [(oa, (b7_8 q_1 q_5 q_9 q_13 q_17 0)), (q_1, .inl (cA_3, 100, .inr (.inr (.inr (.inr (fun _ => none)))))), (q_5, .inl (cA_7, 100, .inr (.inl (fun _ => 0)))), (q_9, .inl (cA_11, 100, .inr (.inl (fun _ => 0)))), (q_13, .inl (cA_15, 100, .inr (.inl (fun _ => 0)))), (q_17, .inl (cA_19, 100, .inr (.inl (fun _ => 0))))]) [0, 1, 2, 3, 4, 5] (by decide) rfl
  have hK9 := hK.sub (tys' := [(cA_3, .object RX9), (cA_7, .long), (cA_11, .long), (cA_15, .long), (cA_19, .long)]) [0, 1, 2, 3, 4] rfl
  exact W.vret hx hb hr (fun t ht hW => ⟨⟨(), rfl, trivial, ⟨q_1, q_5, q_9, q_13, q_17, cA_3, cA_7, cA_11, cA_15, cA_19, by rw [ht]; exact hP9, va_K.moved hW.alike hK9, hD9⟩⟩, hS.F ht⟩) hS.2.2 dX7_init_45
set_option maxHeartbeats 4000000 in
set_option maxRecDepth 100000 in
theorem k_Ring (l : Launch) (D : va_G) (sz : Nat) (oa : Nat) : Met l yX5_init (wsM yX5_init cX5_init 1 none) ({ frames := 1, cells := 2, slots := 16, locals := 12 }) (va_Pc [.ref oa] (Pr D [(oa, .inr (5, [.null, .null, .int 0]))] [] sz)) (va_Qv (fun _ : Unit => True) (fun _ t => ∃ (e0 : Nat) (e1 : Nat) (c0 : ClassId) (c1 : ClassId), Po D [(oa, (b5_14 e0 e1 0)), (e0, .inl (c0, 8, .inl (fun _ => 0))), (e1, .inl (c1, 8, .inl (fun _ => 0)))] [(c0, .int), (c1, .int)] (va_A [(oa, .inr (5, [.null, .null, .int 0]))] sz) t) (va_A [(oa, .inr (5, [.null, .null, .int 0]))] sz)) 2 16 (va_A [(oa, .inr (5, [.null, .null, .int 0]))] sz) := by
  refine Met.ofW (cc := cX5_init) (maxL := 1) (ret := none) (by decide) rfl ?_
  intro p e s m args below meth c s₁ B hml hv
  obtain ⟨rfl, hsz, hP, hK, hD0, hN⟩ := hv
  have hx := B.exec
  have hb := B.bytes
  have hr := B.returns
  have hts := atoms_spec (ws := (wsM yX5_init cX5_init 1 none)) B.pre
  have hg : ∀ w ∈ lw_good, w.before _ s = true := fun w h => hts w (List.mem_cons_of_mem _ h)
  have hown : s.vm.findClass RX5 = some m.cls := findClass_of_methodNamed B.named
  have hlocks := B.notSynchronized
  have hin : meth.name = "<init>" := (name_of_methodNamed B.named B.method).1
  subst hsz
  have hD := hD0.self (sz := s.heap.size)
  generalize hAe : va_A [(oa, .inr (5, [.null, .null, .int 0]))] s.heap.size = A at hD ⊢
  have hA : ∀ q : Nat, s.heap.size ≤ q → A q := fun q h => by rw [← hAe]; exact Or.inr h
  have hS : va_S A s.heap s.heap [] := va_S.rf
  have hP : va_P D vwCl [(oa, .inr (5, [.null, .null, .int 0]))] s.heap := hP
  have hl := lv_entry ([.ref oa]) (n := 1) (Nat.le_of_ble_eq_true rfl)
  rw [lg_entry_eq]
  generalize (lg_sl ([.ref oa]) ++ List.replicate (1 - (lg_sl ([.ref oa])).length) Slot.unset).toArray = ls at hl ⊢
  have hl : lv_has ls 1 [(0, .ref oa)] := hl
  refine lv_aload_n hx hb dX5_init_0 rfl (lv_at hl 0 rfl) ?_
  refine W.objInit hx hb hown (hg _ wd_690) (hg _ wd_525) (hg _ wd_obj) rfl (by rw [hml]; exact hl.1) rfl dX5_init_1 (Nat.le_of_ble_eq_true rfl) (Nat.le_of_ble_eq_true rfl) ?_
  refine W.eq (g2 := F0 m 4 ls []) rfl ?_
  refine lv_aload_n hx hb dX5_init_4 rfl (lv_at hl 0 rfl) ?_
  refine lv_bipush (v := 8) hx hb dX5_init_5 (by decide) ?_
  refine va_newa (atype := .int) (ty := .int) (a0 := (8, .inl (fun _ => 0))) hx hb (hg _ wd_531) rfl hK hP hD hS hA (fun cA => rfl) (by decide) (by decide) (Nat.le_of_ble_eq_true rfl) (Nat.le_of_ble_eq_true rfl) (Nat.le_of_ble_eq_true rfl) dX5_init_7 (fun q_1 cA_3 H_2 hK hP hD hS => ?_)
  have hK : va_K D vwCl [(cA_3, .int)] s := hK
  have hP : va_P D vwCl [(oa, .inr (5, [.null, .null, .int 0])), (q_1, .inl (cA_3, 8, .inl (fun _ => 0)))] H_2 := hP
  have hD : va_D A [(oa, .inr (5, [.null, .null, .int 0])), (q_1, .inl (cA_3, 8, .inl (fun _ => 0)))] := hD
  refine W.widen (k := 1) (n := 8) (Nat.le_of_ble_eq_true rfl) (Nat.le_of_ble_eq_true rfl) ?_
  refine va_putF (D := D) (ci := 5) (v := .ref q_1) (ty := .array .int) (C := RX5) (T := TX5) (N := 3) hx hb hg inG5 tyX5 tyX5_ok nmX5 hown hK hP hD hS 0 rfl rfl 0 (by decide) (hg _ wd_298) (fun _ h9 => h9) rfl hin rfl (by decide +kernel) rfl rfl (Nat.le_of_ble_eq_true rfl) dX5_init_9 (fun H_4 locs hP hD hS => ?_)
  have hP : va_P D vwCl [(oa, .inr (5, [.ref q_1, .null, .int 0])), (q_1, .inl (cA_3, 8, .inl (fun _ => 0)))] H_4 := hP
  have hD : va_D A [(oa, .inr (5, [.ref q_1, .null, .int 0])), (q_1, .inl (cA_3, 8, .inl (fun _ => 0)))] := hD
  refine lv_aload_n hx hb dX5_init_12 rfl (lv_at hl 0 rfl) ?_
  refine lv_bipush (v := 8) hx hb dX5_init_13 (by decide) ?_
  refine va_newa (atype := .int) (ty := .int) (a0 := (8, .inl (fun _ => 0))) hx hb (hg _ wd_531) rfl hK hP hD hS hA (fun cA => rfl) (by decide) (by decide) (Nat.le_of_ble_eq_true rfl) (Nat.le_of_ble_eq_true rfl) (Nat.le_of_ble_eq_true rfl) dX5_init_15 (fun q_5 cA_7 H_6 hK hP hD hS => ?_)
  have hK : va_K D vwCl [(cA_3, .int), (cA_7, .int)] s := hK
  have hP : va_P D vwCl [(oa, .inr (5, [.ref q_1, .null, .int 0])), (q_1, .inl (cA_3, 8, .inl (fun _ => 0))), (q_5, .inl (cA_7, 8, .inl (fun _ => 0)))] H_6 := hP
  have hD : va_D A [(oa, .inr (5, [.ref q_1, .null, .int 0])), (q_1, .inl (cA_3, 8, .inl (fun _ => 0))), (q_5, .inl (cA_7, 8, .inl (fun _ => 0)))] := hD
  refine W.widen (k := 2) (n := 16) (Nat.le_of_ble_eq_true rfl) (Nat.le_of_ble_eq_true rfl) ?_
  refine va_putF (D := D) (ci := 5) (v := .ref q_5) (ty := .array .int) (C := RX5) (T := TX5) (N := 3) hx hb hg inG5 tyX5 tyX5_ok nmX5 hown hK hP hD hS 0 rfl rfl 1 (by decide) (hg _ wd_297) (fun _ h9 => h9) rfl hin rfl (by decide +kernel) rfl rfl (Nat.le_of_ble_eq_true rfl) dX5_init_17 (fun H_8 locs hP hD hS => ?_)
  have hP : va_P D vwCl [(oa, (b5_14 q_1 q_5 0)), (q_1, .inl (cA_3, 8, .inl (fun _ => 0))), (q_5, .inl (cA_7, 8, .inl (fun _ => 0)))] H_8 := hP
  have hD : va_D A [(oa, (b5_14 q_1 q_5 0)), (q_1, .inl (cA_3, 8, .inl (fun _ => 0))), (q_5, .inl (cA_7, 8, .inl (fun _ => 0)))] := hD
  have hP9 := hP.sub (ws' := [(oa, (b5_14 q_1 q_5 0)), (q_1, .inl (cA_3, 8, .inl (fun _ => 0))), (q_5, .inl (cA_7, 8, .inl (fun _ => 0)))]) [0, 1, 2] rfl
  have hD9 := hD.sub (ws' := [(oa, (b5_14 q_1 q_5 0)), (q_1, .inl (cA_3, 8, .inl (fun _ => 0))), (q_5, .inl (cA_7, 8, .inl (fun _ => 0)))]) [0, 1, 2] (by decide) rfl
  have hK9 := hK.sub (tys' := [(cA_3, .int), (cA_7, .int)]) [0, 1] rfl
  exact W.vret hx hb hr (fun t ht hW => ⟨⟨(), rfl, trivial, ⟨q_1, q_5, cA_3, cA_7, by rw [ht]; exact hP9, va_K.moved hW.alike hK9, hD9⟩⟩, hS.F ht⟩) hS.2.2 dX5_init_20
set_option maxHeartbeats 4000000 in
set_option maxRecDepth 100000 in
theorem k_Book (l : Launch) (D : va_G) (sz : Nat) (oa : Nat) : Met l yX11_init (wsM yX11_init cX11_init 1 none) ({ frames := 2, cells := 13, slots := 622, locals := 32 }) (va_Pc [.ref oa] (Pr D [(oa, .inr (11, [.null, .int 0, .null, .int 0, .null, .null, .null, .int 0, .null, .int 0, .int 0]))] [] sz)) (va_Qv (fun _ : Unit => True) (fun _ t => ∃ (x0 : Nat) (x2 : Nat) (x4 : Nat) (x5 : Nat) (x6 : Nat) (x8 : Nat) (s0 : Nat) (s1 : Nat) (s2 : Nat) (s3 : Nat) (s4 : Nat) (r0 : Nat) (r1 : Nat) (d0 : ClassId) (d2 : ClassId) (t0 : ClassId) (t1 : ClassId) (t2 : ClassId) (t3 : ClassId) (t4 : ClassId) (u0 : ClassId) (u1 : ClassId) (d6 : ClassId) (d8 : ClassId), Po D [(oa, (b11_1 x0 0 x2 0 x4 x5 x6 0 x8 0 (-1))), (x0, .inl (d0, 8, .inr (.inr (.inr (.inr (fun _ => none)))))), (x2, .inl (d2, 40, .inr (.inr (.inr (.inr (fun _ => none)))))), (x4, (b7_8 s0 s1 s2 s3 s4 0)), (s0, .inl (t0, 100, .inr (.inr (.inr (.inr (fun _ => none)))))), (s1, .inl (t1, 100, .inr (.inl (fun _ => 0)))), (s2, .inl (t2, 100, .inr (.inl (fun _ => 0)))), (s3, .inl (t3, 100, .inr (.inl (fun _ => 0)))), (s4, .inl (t4, 100, .inr (.inl (fun _ => 0)))), (x5, (b5_14 r0 r1 0)), (r0, .inl (u0, 8, .inl (fun _ => 0))), (r1, .inl (u1, 8, .inl (fun _ => 0))), (x6, .inl (d6, 24, .inl (fun _ => 0))), (x8, .inl (d8, 25, .inr (.inl (fun _ => 0))))] [(d0, .object RX2), (d2, .object RX4), (t0, .object RX9), (t1, .long), (t2, .long), (t3, .long), (t4, .long), (u0, .int), (u1, .int), (d6, .int), (d8, .long)] (va_A [(oa, .inr (11, [.null, .int 0, .null, .int 0, .null, .null, .null, .int 0, .null, .int 0, .int 0]))] sz) t) (va_A [(oa, .inr (11, [.null, .int 0, .null, .int 0, .null, .null, .null, .int 0, .null, .int 0, .int 0]))] sz)) 13 622 (va_A [(oa, .inr (11, [.null, .int 0, .null, .int 0, .null, .null, .null, .int 0, .null, .int 0, .int 0]))] sz) := by
  refine Met.ofW (cc := cX11_init) (maxL := 1) (ret := none) (by decide) rfl ?_
  intro p e s m args below meth c s₁ B hml hv
  obtain ⟨rfl, hsz, hP, hK, hD0, hN⟩ := hv
  have hx := B.exec
  have hb := B.bytes
  have hr := B.returns
  have hts := atoms_spec (ws := (wsM yX11_init cX11_init 1 none)) B.pre
  have hg : ∀ w ∈ lw_good, w.before _ s = true := fun w h => hts w (List.mem_cons_of_mem _ h)
  have hown : s.vm.findClass RX11 = some m.cls := findClass_of_methodNamed B.named
  have hlocks := B.notSynchronized
  have hin : meth.name = "<init>" := (name_of_methodNamed B.named B.method).1
  subst hsz
  have hD := hD0.self (sz := s.heap.size)
  generalize hAe : va_A [(oa, .inr (11, [.null, .int 0, .null, .int 0, .null, .null, .null, .int 0, .null, .int 0, .int 0]))] s.heap.size = A at hD ⊢
  have hA : ∀ q : Nat, s.heap.size ≤ q → A q := fun q h => by rw [← hAe]; exact Or.inr h
  have hS : va_S A s.heap s.heap [] := va_S.rf
  have hP : va_P D vwCl [(oa, .inr (11, [.null, .int 0, .null, .int 0, .null, .null, .null, .int 0, .null, .int 0, .int 0]))] s.heap := hP
  have hl := lv_entry ([.ref oa]) (n := 1) (Nat.le_of_ble_eq_true rfl)
  rw [lg_entry_eq]
  generalize (lg_sl ([.ref oa]) ++ List.replicate (1 - (lg_sl ([.ref oa])).length) Slot.unset).toArray = ls at hl ⊢
  have hl : lv_has ls 1 [(0, .ref oa)] := hl
  refine lv_aload_n hx hb dX11_init_0 rfl (lv_at hl 0 rfl) ?_
  refine W.objInit hx hb hown (hg _ wd_691) (hg _ wd_525) (hg _ wd_obj) rfl (by rw [hml]; exact hl.1) rfl dX11_init_1 (Nat.le_of_ble_eq_true rfl) (Nat.le_of_ble_eq_true rfl) ?_
  refine W.eq (g2 := F0 m 4 ls []) rfl ?_
  refine lv_aload_n hx hb dX11_init_4 rfl (lv_at hl 0 rfl) ?_
  refine lv_bipush (v := 8) hx hb dX11_init_5 (by decide) ?_
  refine va_newq (C := RX2) (N' := 8) hx hb hown (hg _ wd_616) (hN.ao RX2 60 rfl) hK hP hD hS hA (by decide) (by decide) (Nat.le_of_ble_eq_true rfl) (Nat.le_of_ble_eq_true rfl) (Nat.le_of_ble_eq_true rfl) dX11_init_7 (fun q_1 cA_3 H_2 hK hP hD hS => ?_)
  have hK : va_K D vwCl [(cA_3, .object RX2)] s := hK
  have hP : va_P D vwCl [(oa, .inr (11, [.null, .int 0, .null, .int 0, .null, .null, .null, .int 0, .null, .int 0, .int 0])), (q_1, .inl (cA_3, 8, .inr (.inr (.inr (.inr (fun _ => none))))))] H_2 := hP
  have hD : va_D A [(oa, .inr (11, [.null, .int 0, .null, .int 0, .null, .null, .null, .int 0, .null, .int 0, .int 0])), (q_1, .inl (cA_3, 8, .inr (.inr (.inr (.inr (fun _ => none))))))] := hD
  refine W.widen (k := 1) (n := 8) (Nat.le_of_ble_eq_true rfl) (Nat.le_of_ble_eq_true rfl) ?_
  refine va_putF (D := D) (ci := 11) (v := .ref q_1) (ty := .array (.object "PartnersBook$House")) (C := RX11) (T := TX11) (N := 11) hx hb hg inG11 tyX11 tyX11_ok nmX11 hown hK hP hD hS 0 rfl rfl 0 (by decide) (hg _ wd_337) (fun _ h9 => h9) rfl hin rfl (by decide +kernel) rfl rfl (Nat.le_of_ble_eq_true rfl) dX11_init_10 (fun H_4 locs hP hD hS => ?_)
  have hP : va_P D vwCl [(oa, .inr (11, [.ref q_1, .int 0, .null, .int 0, .null, .null, .null, .int 0, .null, .int 0, .int 0])), (q_1, .inl (cA_3, 8, .inr (.inr (.inr (.inr (fun _ => none))))))] H_4 := hP
  have hD : va_D A [(oa, .inr (11, [.ref q_1, .int 0, .null, .int 0, .null, .null, .null, .int 0, .null, .int 0, .int 0])), (q_1, .inl (cA_3, 8, .inr (.inr (.inr (.inr (fun _ => none))))))] := hD
  refine lv_aload_n hx hb dX11_init_13 rfl (lv_at hl 0 rfl) ?_
  refine lv_bipush (v := 40) hx hb dX11_init_14 (by decide) ?_
  refine va_newq (C := RX4) (N' := 40) hx hb hown (hg _ wd_587) (hN.ao RX4 61 rfl) hK hP hD hS hA (by decide) (by decide) (Nat.le_of_ble_eq_true rfl) (Nat.le_of_ble_eq_true rfl) (Nat.le_of_ble_eq_true rfl) dX11_init_16 (fun q_5 cA_7 H_6 hK hP hD hS => ?_)
  have hK : va_K D vwCl [(cA_3, .object RX2), (cA_7, .object RX4)] s := hK
  have hP : va_P D vwCl [(oa, .inr (11, [.ref q_1, .int 0, .null, .int 0, .null, .null, .null, .int 0, .null, .int 0, .int 0])), (q_1, .inl (cA_3, 8, .inr (.inr (.inr (.inr (fun _ => none)))))), (q_5, .inl (cA_7, 40, .inr (.inr (.inr (.inr (fun _ => none))))))] H_6 := hP
  have hD : va_D A [(oa, .inr (11, [.ref q_1, .int 0, .null, .int 0, .null, .null, .null, .int 0, .null, .int 0, .int 0])), (q_1, .inl (cA_3, 8, .inr (.inr (.inr (.inr (fun _ => none)))))), (q_5, .inl (cA_7, 40, .inr (.inr (.inr (.inr (fun _ => none))))))] := hD
  refine W.widen (k := 2) (n := 48) (Nat.le_of_ble_eq_true rfl) (Nat.le_of_ble_eq_true rfl) ?_
  refine va_putF (D := D) (ci := 11) (v := .ref q_5) (ty := .array (.object "PartnersBook$Partner")) (C := RX11) (T := TX11) (N := 11) hx hb hg inG11 tyX11 tyX11_ok nmX11 hown hK hP hD hS 0 rfl rfl 2 (by decide) (hg _ wd_339) (fun _ h9 => h9) rfl hin rfl (by decide +kernel) rfl rfl (Nat.le_of_ble_eq_true rfl) dX11_init_19 (fun H_8 locs hP hD hS => ?_)
  have hP : va_P D vwCl [(oa, .inr (11, [.ref q_1, .int 0, .ref q_5, .int 0, .null, .null, .null, .int 0, .null, .int 0, .int 0])), (q_1, .inl (cA_3, 8, .inr (.inr (.inr (.inr (fun _ => none)))))), (q_5, .inl (cA_7, 40, .inr (.inr (.inr (.inr (fun _ => none))))))] H_8 := hP
  have hD : va_D A [(oa, .inr (11, [.ref q_1, .int 0, .ref q_5, .int 0, .null, .null, .null, .int 0, .null, .int 0, .int 0])), (q_1, .inl (cA_3, 8, .inr (.inr (.inr (.inr (fun _ => none)))))), (q_5, .inl (cA_7, 40, .inr (.inr (.inr (.inr (fun _ => none))))))] := hD
  refine lv_aload_n hx hb dX11_init_22 rfl (lv_at hl 0 rfl) ?_
  refine va_new (ci := 7) (fs := [.null, .null, .null, .null, .null, .int 0]) (C := RX7) (T := TX7) (N := 6) hx hb hg inG7 tyX7 tyX7_ok hown (hg _ wd_692) (hg _ wd_693) (hg _ wd_148) hK hP hD hS hA rfl dfX7 (Nat.le_of_ble_eq_true rfl) (Nat.le_of_ble_eq_true rfl) dX11_init_23 (fun q_9 H_10 hP hD hS => ?_)
  have hP : va_P D vwCl [(oa, .inr (11, [.ref q_1, .int 0, .ref q_5, .int 0, .null, .null, .null, .int 0, .null, .int 0, .int 0])), (q_1, .inl (cA_3, 8, .inr (.inr (.inr (.inr (fun _ => none)))))), (q_5, .inl (cA_7, 40, .inr (.inr (.inr (.inr (fun _ => none)))))), (q_9, .inr (7, [.null, .null, .null, .null, .null, .int 0]))] H_10 := hP
  have hD : va_D A [(oa, .inr (11, [.ref q_1, .int 0, .ref q_5, .int 0, .null, .null, .null, .int 0, .null, .int 0, .int 0])), (q_1, .inl (cA_3, 8, .inr (.inr (.inr (.inr (fun _ => none)))))), (q_5, .inl (cA_7, 40, .inr (.inr (.inr (.inr (fun _ => none)))))), (q_9, .inr (7, [.null, .null, .null, .null, .null, .int 0]))] := hD
  refine W.widen (k := 3) (n := 54) (Nat.le_of_ble_eq_true rfl) (Nat.le_of_ble_eq_true rfl) ?_
  refine lv_dup hx hb dX11_init_26 rfl ?_
  have hPc := hP.sub (ws' := [(q_9, .inr (7, [.null, .null, .null, .null, .null, .int 0]))]) [3] rfl
  have hDc := hD.sub (ws' := [(q_9, .inr (7, [.null, .null, .null, .null, .null, .int 0]))]) [3] (by decide) rfl
  have hKc := hK.sub (tys' := []) [] rfl
  have hFc := va_free (wc := [(q_9, .inr (7, [.null, .null, .null, .null, .null, .int 0]))]) hD hS hA [3] rfl
  refine va_callv (va_runIN (As := []) (rest := [.ref q_9, .ref oa]) ⟨hx, hb, hml, hown, hg⟩ (k_Shares l D H_10.size q_9) ⟨va_cnB 0 hg (gB wd_694) rfl rfl rfl (hN _ (List.mem_of_getElem? (i := 0) rfl) : va_Nw (Cond.methodLinkNest RX11 23 yX7_init RX11) s) (hg _ wd_148) (by decide +kernel) ⟨(Nat.le_of_ble_eq_true rfl), (Nat.le_of_ble_eq_true rfl)⟩, rfl, hg _ wd_695⟩ ⟨Pr.blind, fun U hU hW => ⟨rfl, Pr.at hPc hKc hDc hN hU hW⟩⟩ rfl rfl hl.1 rfl (lv_room (Nat.le_of_ble_eq_true rfl)) dX11_init_27 ⟨(Nat.le_of_ble_eq_true rfl), (Nat.le_of_ble_eq_true rfl)⟩) hS (fun q _ h => hFc q h) hFc (fun u t H_11 locs ht hvm hw hB hz1 hk1 hS => ?_)
  obtain ⟨e0_13, e1_14, e2_15, e3_16, e4_17, c0_18, c1_19, c2_20, c3_21, c4_22, hP1, hK1, hD1⟩ := hB
  rw [ht] at hP1
  have hK1 := va_K.moved hvm.symm hK1
  obtain ⟨hP, hD⟩ := va_join (wr := [(oa, .inr (11, [.ref q_1, .int 0, .ref q_5, .int 0, .null, .null, .null, .int 0, .null, .int 0, .int 0])), (q_1, .inl (cA_3, 8, .inr (.inr (.inr (.inr (fun _ => none)))))), (q_5, .inl (cA_7, 40, .inr (.inr (.inr (.inr (fun _ => none))))))]) (w1 := [(q_9, (b7_8 e0_13 e1_14 e2_15 e3_16 e4_17 0)), (e0_13, .inl (c0_18, 100, .inr (.inr (.inr (.inr (fun _ => none)))))), (e1_14, .inl (c1_19, 100, .inr (.inl (fun _ => 0)))), (e2_15, .inl (c2_20, 100, .inr (.inl (fun _ => 0)))), (e3_16, .inl (c3_21, 100, .inr (.inl (fun _ => 0)))), (e4_17, .inl (c4_22, 100, .inr (.inl (fun _ => 0))))]) hP hD [3] [0, 1, 2] rfl rfl (by decide) (by decide) hk1 hFc hP1 hD1
  have hK := hK.app hK1
  have hK : va_K D vwCl [(cA_3, .object RX2), (cA_7, .object RX4), (c0_18, .object RX9), (c1_19, .long), (c2_20, .long), (c3_21, .long), (c4_22, .long)] s := hK
  have hP : va_P D vwCl [(oa, .inr (11, [.ref q_1, .int 0, .ref q_5, .int 0, .null, .null, .null, .int 0, .null, .int 0, .int 0])), (q_1, .inl (cA_3, 8, .inr (.inr (.inr (.inr (fun _ => none)))))), (q_5, .inl (cA_7, 40, .inr (.inr (.inr (.inr (fun _ => none)))))), (q_9, (b7_8 e0_13 e1_14 e2_15 e3_16 e4_17 0)), (e0_13, .inl (c0_18, 100, .inr (.inr (.inr (.inr (fun _ => none)))))), (e1_14, .inl (c1_19, 100, .inr (.inl (fun _ => 0)))), (e2_15, .inl (c2_20, 100, .inr (.inl (fun _ => 0)))), (e3_16, .inl (c3_21, 100, .inr (.inl (fun _ => 0)))), (e4_17, .inl (c4_22, 100, .inr (.inl (fun _ => 0))))] H_11 := hP
  have hD : va_D A [(oa, .inr (11, [.ref q_1, .int 0, .ref q_5, .int 0, .null, .null, .null, .int 0, .null, .int 0, .int 0])), (q_1, .inl (cA_3, 8, .inr (.inr (.inr (.inr (fun _ => none)))))), (q_5, .inl (cA_7, 40, .inr (.inr (.inr (.inr (fun _ => none)))))), (q_9, (b7_8 e0_13 e1_14 e2_15 e3_16 e4_17 0)), (e0_13, .inl (c0_18, 100, .inr (.inr (.inr (.inr (fun _ => none)))))), (e1_14, .inl (c1_19, 100, .inr (.inl (fun _ => 0)))), (e2_15, .inl (c2_20, 100, .inr (.inl (fun _ => 0)))), (e3_16, .inl (c3_21, 100, .inr (.inl (fun _ => 0)))), (e4_17, .inl (c4_22, 100, .inr (.inl (fun _ => 0))))] := hD
  refine W.widen (k := 8) (n := 554) (Nat.le_of_ble_eq_true rfl) (Nat.le_of_ble_eq_true rfl) ?_
  refine va_putF (D := D) (ci := 11) (v := .ref q_9) (ty := .object "PartnersBook$Shares") (C := RX11) (T := TX11) (N := 11) hx hb hg inG11 tyX11 tyX11_ok nmX11 hown hK hP hD hS 0 rfl rfl 4 (by decide) (hg _ wd_443) (fun _ h9 => h9) rfl hin rfl (by decide +kernel) rfl rfl (Nat.le_of_ble_eq_true rfl) dX11_init_30 (fun H_23 locs hP hD hS => ?_)
  have hP : va_P D vwCl [(oa, .inr (11, [.ref q_1, .int 0, .ref q_5, .int 0, .ref q_9, .null, .null, .int 0, .null, .int 0, .int 0])), (q_1, .inl (cA_3, 8, .inr (.inr (.inr (.inr (fun _ => none)))))), (q_5, .inl (cA_7, 40, .inr (.inr (.inr (.inr (fun _ => none)))))), (q_9, (b7_8 e0_13 e1_14 e2_15 e3_16 e4_17 0)), (e0_13, .inl (c0_18, 100, .inr (.inr (.inr (.inr (fun _ => none)))))), (e1_14, .inl (c1_19, 100, .inr (.inl (fun _ => 0)))), (e2_15, .inl (c2_20, 100, .inr (.inl (fun _ => 0)))), (e3_16, .inl (c3_21, 100, .inr (.inl (fun _ => 0)))), (e4_17, .inl (c4_22, 100, .inr (.inl (fun _ => 0))))] H_23 := hP
  have hD : va_D A [(oa, .inr (11, [.ref q_1, .int 0, .ref q_5, .int 0, .ref q_9, .null, .null, .int 0, .null, .int 0, .int 0])), (q_1, .inl (cA_3, 8, .inr (.inr (.inr (.inr (fun _ => none)))))), (q_5, .inl (cA_7, 40, .inr (.inr (.inr (.inr (fun _ => none)))))), (q_9, (b7_8 e0_13 e1_14 e2_15 e3_16 e4_17 0)), (e0_13, .inl (c0_18, 100, .inr (.inr (.inr (.inr (fun _ => none)))))), (e1_14, .inl (c1_19, 100, .inr (.inl (fun _ => 0)))), (e2_15, .inl (c2_20, 100, .inr (.inl (fun _ => 0)))), (e3_16, .inl (c3_21, 100, .inr (.inl (fun _ => 0)))), (e4_17, .inl (c4_22, 100, .inr (.inl (fun _ => 0))))] := hD
  refine lv_aload_n hx hb dX11_init_33 rfl (lv_at hl 0 rfl) ?_
  refine va_new (ci := 5) (fs := [.null, .null, .int 0]) (C := RX5) (T := TX5) (N := 3) hx hb hg inG5 tyX5 tyX5_ok hown (hg _ wd_696) (hg _ wd_697) (hg _ wd_309) hK hP hD hS hA rfl dfX5 (Nat.le_of_ble_eq_true rfl) (Nat.le_of_ble_eq_true rfl) dX11_init_34 (fun q_24 H_25 hP hD hS => ?_)
  have hP : va_P D vwCl [(oa, .inr (11, [.ref q_1, .int 0, .ref q_5, .int 0, .ref q_9, .null, .null, .int 0, .null, .int 0, .int 0])), (q_1, .inl (cA_3, 8, .inr (.inr (.inr (.inr (fun _ => none)))))), (q_5, .inl (cA_7, 40, .inr (.inr (.inr (.inr (fun _ => none)))))), (q_9, (b7_8 e0_13 e1_14 e2_15 e3_16 e4_17 0)), (e0_13, .inl (c0_18, 100, .inr (.inr (.inr (.inr (fun _ => none)))))), (e1_14, .inl (c1_19, 100, .inr (.inl (fun _ => 0)))), (e2_15, .inl (c2_20, 100, .inr (.inl (fun _ => 0)))), (e3_16, .inl (c3_21, 100, .inr (.inl (fun _ => 0)))), (e4_17, .inl (c4_22, 100, .inr (.inl (fun _ => 0)))), (q_24, .inr (5, [.null, .null, .int 0]))] H_25 := hP
  have hD : va_D A [(oa, .inr (11, [.ref q_1, .int 0, .ref q_5, .int 0, .ref q_9, .null, .null, .int 0, .null, .int 0, .int 0])), (q_1, .inl (cA_3, 8, .inr (.inr (.inr (.inr (fun _ => none)))))), (q_5, .inl (cA_7, 40, .inr (.inr (.inr (.inr (fun _ => none)))))), (q_9, (b7_8 e0_13 e1_14 e2_15 e3_16 e4_17 0)), (e0_13, .inl (c0_18, 100, .inr (.inr (.inr (.inr (fun _ => none)))))), (e1_14, .inl (c1_19, 100, .inr (.inl (fun _ => 0)))), (e2_15, .inl (c2_20, 100, .inr (.inl (fun _ => 0)))), (e3_16, .inl (c3_21, 100, .inr (.inl (fun _ => 0)))), (e4_17, .inl (c4_22, 100, .inr (.inl (fun _ => 0)))), (q_24, .inr (5, [.null, .null, .int 0]))] := hD
  refine W.widen (k := 9) (n := 557) (Nat.le_of_ble_eq_true rfl) (Nat.le_of_ble_eq_true rfl) ?_
  refine lv_dup hx hb dX11_init_37 rfl ?_
  have hPc := hP.sub (ws' := [(q_24, .inr (5, [.null, .null, .int 0]))]) [9] rfl
  have hDc := hD.sub (ws' := [(q_24, .inr (5, [.null, .null, .int 0]))]) [9] (by decide) rfl
  have hKc := hK.sub (tys' := []) [] rfl
  have hFc := va_free (wc := [(q_24, .inr (5, [.null, .null, .int 0]))]) hD hS hA [9] rfl
  refine va_callv (va_runIN (As := []) (rest := [.ref q_24, .ref oa]) ⟨hx, hb, hml, hown, hg⟩ (k_Ring l D H_25.size q_24) ⟨va_cnB 0 hg (gB wd_698) rfl rfl rfl (hN _ (List.mem_of_getElem? (i := 1) rfl) : va_Nw (Cond.methodLinkNest RX11 30 yX5_init RX11) s) (hg _ wd_309) (by decide +kernel) ⟨(Nat.le_of_ble_eq_true rfl), (Nat.le_of_ble_eq_true rfl)⟩, rfl, hg _ wd_699⟩ ⟨Pr.blind, fun U hU hW => ⟨rfl, Pr.at hPc hKc hDc hN hU hW⟩⟩ rfl rfl hl.1 rfl (lv_room (Nat.le_of_ble_eq_true rfl)) dX11_init_38 ⟨(Nat.le_of_ble_eq_true rfl), (Nat.le_of_ble_eq_true rfl)⟩) hS (fun q _ h => hFc q h) hFc (fun u t H_26 locs ht hvm hw hB hz1 hk1 hS => ?_)
  obtain ⟨e0_28, e1_29, c0_30, c1_31, hP1, hK1, hD1⟩ := hB
  rw [ht] at hP1
  have hK1 := va_K.moved hvm.symm hK1
  obtain ⟨hP, hD⟩ := va_join (wr := [(oa, .inr (11, [.ref q_1, .int 0, .ref q_5, .int 0, .ref q_9, .null, .null, .int 0, .null, .int 0, .int 0])), (q_1, .inl (cA_3, 8, .inr (.inr (.inr (.inr (fun _ => none)))))), (q_5, .inl (cA_7, 40, .inr (.inr (.inr (.inr (fun _ => none)))))), (q_9, (b7_8 e0_13 e1_14 e2_15 e3_16 e4_17 0)), (e0_13, .inl (c0_18, 100, .inr (.inr (.inr (.inr (fun _ => none)))))), (e1_14, .inl (c1_19, 100, .inr (.inl (fun _ => 0)))), (e2_15, .inl (c2_20, 100, .inr (.inl (fun _ => 0)))), (e3_16, .inl (c3_21, 100, .inr (.inl (fun _ => 0)))), (e4_17, .inl (c4_22, 100, .inr (.inl (fun _ => 0))))]) (w1 := [(q_24, (b5_14 e0_28 e1_29 0)), (e0_28, .inl (c0_30, 8, .inl (fun _ => 0))), (e1_29, .inl (c1_31, 8, .inl (fun _ => 0)))]) hP hD [9] [0, 1, 2, 3, 4, 5, 6, 7, 8] rfl rfl (by decide) (by decide) hk1 hFc hP1 hD1
  have hK := hK.app hK1
  have hK : va_K D vwCl [(cA_3, .object RX2), (cA_7, .object RX4), (c0_18, .object RX9), (c1_19, .long), (c2_20, .long), (c3_21, .long), (c4_22, .long), (c0_30, .int), (c1_31, .int)] s := hK
  have hP : va_P D vwCl [(oa, .inr (11, [.ref q_1, .int 0, .ref q_5, .int 0, .ref q_9, .null, .null, .int 0, .null, .int 0, .int 0])), (q_1, .inl (cA_3, 8, .inr (.inr (.inr (.inr (fun _ => none)))))), (q_5, .inl (cA_7, 40, .inr (.inr (.inr (.inr (fun _ => none)))))), (q_9, (b7_8 e0_13 e1_14 e2_15 e3_16 e4_17 0)), (e0_13, .inl (c0_18, 100, .inr (.inr (.inr (.inr (fun _ => none)))))), (e1_14, .inl (c1_19, 100, .inr (.inl (fun _ => 0)))), (e2_15, .inl (c2_20, 100, .inr (.inl (fun _ => 0)))), (e3_16, .inl (c3_21, 100, .inr (.inl (fun _ => 0)))), (e4_17, .inl (c4_22, 100, .inr (.inl (fun _ => 0)))), (q_24, (b5_14 e0_28 e1_29 0)), (e0_28, .inl (c0_30, 8, .inl (fun _ => 0))), (e1_29, .inl (c1_31, 8, .inl (fun _ => 0)))] H_26 := hP
  have hD : va_D A [(oa, .inr (11, [.ref q_1, .int 0, .ref q_5, .int 0, .ref q_9, .null, .null, .int 0, .null, .int 0, .int 0])), (q_1, .inl (cA_3, 8, .inr (.inr (.inr (.inr (fun _ => none)))))), (q_5, .inl (cA_7, 40, .inr (.inr (.inr (.inr (fun _ => none)))))), (q_9, (b7_8 e0_13 e1_14 e2_15 e3_16 e4_17 0)), (e0_13, .inl (c0_18, 100, .inr (.inr (.inr (.inr (fun _ => none)))))), (e1_14, .inl (c1_19, 100, .inr (.inl (fun _ => 0)))), (e2_15, .inl (c2_20, 100, .inr (.inl (fun _ => 0)))), (e3_16, .inl (c3_21, 100, .inr (.inl (fun _ => 0)))), (e4_17, .inl (c4_22, 100, .inr (.inl (fun _ => 0)))), (q_24, (b5_14 e0_28 e1_29 0)), (e0_28, .inl (c0_30, 8, .inl (fun _ => 0))), (e1_29, .inl (c1_31, 8, .inl (fun _ => 0)))] := hD
  refine W.widen (k := 11) (n := 573) (Nat.le_of_ble_eq_true rfl) (Nat.le_of_ble_eq_true rfl) ?_
  refine va_putF (D := D) (ci := 11) (v := .ref q_24) (ty := .object "PartnersBook$Ring") (C := RX11) (T := TX11) (N := 11) hx hb hg inG11 tyX11 tyX11_ok nmX11 hown hK hP hD hS 0 rfl rfl 5 (by decide) (hg _ wd_371) (fun _ h9 => h9) rfl hin rfl (by decide +kernel) rfl rfl (Nat.le_of_ble_eq_true rfl) dX11_init_41 (fun H_32 locs hP hD hS => ?_)
  have hP : va_P D vwCl [(oa, .inr (11, [.ref q_1, .int 0, .ref q_5, .int 0, .ref q_9, .ref q_24, .null, .int 0, .null, .int 0, .int 0])), (q_1, .inl (cA_3, 8, .inr (.inr (.inr (.inr (fun _ => none)))))), (q_5, .inl (cA_7, 40, .inr (.inr (.inr (.inr (fun _ => none)))))), (q_9, (b7_8 e0_13 e1_14 e2_15 e3_16 e4_17 0)), (e0_13, .inl (c0_18, 100, .inr (.inr (.inr (.inr (fun _ => none)))))), (e1_14, .inl (c1_19, 100, .inr (.inl (fun _ => 0)))), (e2_15, .inl (c2_20, 100, .inr (.inl (fun _ => 0)))), (e3_16, .inl (c3_21, 100, .inr (.inl (fun _ => 0)))), (e4_17, .inl (c4_22, 100, .inr (.inl (fun _ => 0)))), (q_24, (b5_14 e0_28 e1_29 0)), (e0_28, .inl (c0_30, 8, .inl (fun _ => 0))), (e1_29, .inl (c1_31, 8, .inl (fun _ => 0)))] H_32 := hP
  have hD : va_D A [(oa, .inr (11, [.ref q_1, .int 0, .ref q_5, .int 0, .ref q_9, .ref q_24, .null, .int 0, .null, .int 0, .int 0])), (q_1, .inl (cA_3, 8, .inr (.inr (.inr (.inr (fun _ => none)))))), (q_5, .inl (cA_7, 40, .inr (.inr (.inr (.inr (fun _ => none)))))), (q_9, (b7_8 e0_13 e1_14 e2_15 e3_16 e4_17 0)), (e0_13, .inl (c0_18, 100, .inr (.inr (.inr (.inr (fun _ => none)))))), (e1_14, .inl (c1_19, 100, .inr (.inl (fun _ => 0)))), (e2_15, .inl (c2_20, 100, .inr (.inl (fun _ => 0)))), (e3_16, .inl (c3_21, 100, .inr (.inl (fun _ => 0)))), (e4_17, .inl (c4_22, 100, .inr (.inl (fun _ => 0)))), (q_24, (b5_14 e0_28 e1_29 0)), (e0_28, .inl (c0_30, 8, .inl (fun _ => 0))), (e1_29, .inl (c1_31, 8, .inl (fun _ => 0)))] := hD
  refine lv_aload_n hx hb dX11_init_44 rfl (lv_at hl 0 rfl) ?_
  refine lv_bipush (v := 24) hx hb dX11_init_45 (by decide) ?_
  refine va_newa (atype := .int) (ty := .int) (a0 := (24, .inl (fun _ => 0))) hx hb (hg _ wd_531) rfl hK hP hD hS hA (fun cA => rfl) (by decide) (by decide) (Nat.le_of_ble_eq_true rfl) (Nat.le_of_ble_eq_true rfl) (Nat.le_of_ble_eq_true rfl) dX11_init_47 (fun q_33 cA_35 H_34 hK hP hD hS => ?_)
  have hK : va_K D vwCl [(cA_3, .object RX2), (cA_7, .object RX4), (c0_18, .object RX9), (c1_19, .long), (c2_20, .long), (c3_21, .long), (c4_22, .long), (c0_30, .int), (c1_31, .int), (cA_35, .int)] s := hK
  have hP : va_P D vwCl [(oa, .inr (11, [.ref q_1, .int 0, .ref q_5, .int 0, .ref q_9, .ref q_24, .null, .int 0, .null, .int 0, .int 0])), (q_1, .inl (cA_3, 8, .inr (.inr (.inr (.inr (fun _ => none)))))), (q_5, .inl (cA_7, 40, .inr (.inr (.inr (.inr (fun _ => none)))))), (q_9, (b7_8 e0_13 e1_14 e2_15 e3_16 e4_17 0)), (e0_13, .inl (c0_18, 100, .inr (.inr (.inr (.inr (fun _ => none)))))), (e1_14, .inl (c1_19, 100, .inr (.inl (fun _ => 0)))), (e2_15, .inl (c2_20, 100, .inr (.inl (fun _ => 0)))), (e3_16, .inl (c3_21, 100, .inr (.inl (fun _ => 0)))), (e4_17, .inl (c4_22, 100, .inr (.inl (fun _ => 0)))), (q_24, (b5_14 e0_28 e1_29 0)), (e0_28, .inl (c0_30, 8, .inl (fun _ => 0))), (e1_29, .inl (c1_31, 8, .inl (fun _ => 0))), (q_33, .inl (cA_35, 24, .inl (fun _ => 0)))] H_34 := hP
  have hD : va_D A [(oa, .inr (11, [.ref q_1, .int 0, .ref q_5, .int 0, .ref q_9, .ref q_24, .null, .int 0, .null, .int 0, .int 0])), (q_1, .inl (cA_3, 8, .inr (.inr (.inr (.inr (fun _ => none)))))), (q_5, .inl (cA_7, 40, .inr (.inr (.inr (.inr (fun _ => none)))))), (q_9, (b7_8 e0_13 e1_14 e2_15 e3_16 e4_17 0)), (e0_13, .inl (c0_18, 100, .inr (.inr (.inr (.inr (fun _ => none)))))), (e1_14, .inl (c1_19, 100, .inr (.inl (fun _ => 0)))), (e2_15, .inl (c2_20, 100, .inr (.inl (fun _ => 0)))), (e3_16, .inl (c3_21, 100, .inr (.inl (fun _ => 0)))), (e4_17, .inl (c4_22, 100, .inr (.inl (fun _ => 0)))), (q_24, (b5_14 e0_28 e1_29 0)), (e0_28, .inl (c0_30, 8, .inl (fun _ => 0))), (e1_29, .inl (c1_31, 8, .inl (fun _ => 0))), (q_33, .inl (cA_35, 24, .inl (fun _ => 0)))] := hD
  refine W.widen (k := 12) (n := 597) (Nat.le_of_ble_eq_true rfl) (Nat.le_of_ble_eq_true rfl) ?_
  refine va_putF (D := D) (ci := 11) (v := .ref q_33) (ty := .array .int) (C := RX11) (T := TX11) (N := 11) hx hb hg inG11 tyX11 tyX11_ok nmX11 hown hK hP hD hS 0 rfl rfl 6 (by decide) (hg _ wd_475) (fun _ h9 => h9) rfl hin rfl (by decide +kernel) rfl rfl (Nat.le_of_ble_eq_true rfl) dX11_init_49 (fun H_36 locs hP hD hS => ?_)
  have hP : va_P D vwCl [(oa, .inr (11, [.ref q_1, .int 0, .ref q_5, .int 0, .ref q_9, .ref q_24, .ref q_33, .int 0, .null, .int 0, .int 0])), (q_1, .inl (cA_3, 8, .inr (.inr (.inr (.inr (fun _ => none)))))), (q_5, .inl (cA_7, 40, .inr (.inr (.inr (.inr (fun _ => none)))))), (q_9, (b7_8 e0_13 e1_14 e2_15 e3_16 e4_17 0)), (e0_13, .inl (c0_18, 100, .inr (.inr (.inr (.inr (fun _ => none)))))), (e1_14, .inl (c1_19, 100, .inr (.inl (fun _ => 0)))), (e2_15, .inl (c2_20, 100, .inr (.inl (fun _ => 0)))), (e3_16, .inl (c3_21, 100, .inr (.inl (fun _ => 0)))), (e4_17, .inl (c4_22, 100, .inr (.inl (fun _ => 0)))), (q_24, (b5_14 e0_28 e1_29 0)), (e0_28, .inl (c0_30, 8, .inl (fun _ => 0))), (e1_29, .inl (c1_31, 8, .inl (fun _ => 0))), (q_33, .inl (cA_35, 24, .inl (fun _ => 0)))] H_36 := hP
  have hD : va_D A [(oa, .inr (11, [.ref q_1, .int 0, .ref q_5, .int 0, .ref q_9, .ref q_24, .ref q_33, .int 0, .null, .int 0, .int 0])), (q_1, .inl (cA_3, 8, .inr (.inr (.inr (.inr (fun _ => none)))))), (q_5, .inl (cA_7, 40, .inr (.inr (.inr (.inr (fun _ => none)))))), (q_9, (b7_8 e0_13 e1_14 e2_15 e3_16 e4_17 0)), (e0_13, .inl (c0_18, 100, .inr (.inr (.inr (.inr (fun _ => none)))))), (e1_14, .inl (c1_19, 100, .inr (.inl (fun _ => 0)))), (e2_15, .inl (c2_20, 100, .inr (.inl (fun _ => 0)))), (e3_16, .inl (c3_21, 100, .inr (.inl (fun _ => 0)))), (e4_17, .inl (c4_22, 100, .inr (.inl (fun _ => 0)))), (q_24, (b5_14 e0_28 e1_29 0)), (e0_28, .inl (c0_30, 8, .inl (fun _ => 0))), (e1_29, .inl (c1_31, 8, .inl (fun _ => 0))), (q_33, .inl (cA_35, 24, .inl (fun _ => 0)))] := hD
  refine lv_aload_n hx hb dX11_init_52 rfl (lv_at hl 0 rfl) ?_
  refine lv_bipush (v := 25) hx hb dX11_init_53 (by decide) ?_
  refine va_newa (atype := .long) (ty := .long) (a0 := (25, .inr (.inl (fun _ => 0)))) hx hb (hg _ wd_527) rfl hK hP hD hS hA (fun cA => rfl) (by decide) (by decide) (Nat.le_of_ble_eq_true rfl) (Nat.le_of_ble_eq_true rfl) (Nat.le_of_ble_eq_true rfl) dX11_init_55 (fun q_37 cA_39 H_38 hK hP hD hS => ?_)
  have hK : va_K D vwCl [(cA_3, .object RX2), (cA_7, .object RX4), (c0_18, .object RX9), (c1_19, .long), (c2_20, .long), (c3_21, .long), (c4_22, .long), (c0_30, .int), (c1_31, .int), (cA_35, .int), (cA_39, .long)] s := hK
  have hP : va_P D vwCl [(oa, .inr (11, [.ref q_1, .int 0, .ref q_5, .int 0, .ref q_9, .ref q_24, .ref q_33, .int 0, .null, .int 0, .int 0])), (q_1, .inl (cA_3, 8, .inr (.inr (.inr (.inr (fun _ => none)))))), (q_5, .inl (cA_7, 40, .inr (.inr (.inr (.inr (fun _ => none)))))), (q_9, (b7_8 e0_13 e1_14 e2_15 e3_16 e4_17 0)), (e0_13, .inl (c0_18, 100, .inr (.inr (.inr (.inr (fun _ => none)))))), (e1_14, .inl (c1_19, 100, .inr (.inl (fun _ => 0)))), (e2_15, .inl (c2_20, 100, .inr (.inl (fun _ => 0)))), (e3_16, .inl (c3_21, 100, .inr (.inl (fun _ => 0)))), (e4_17, .inl (c4_22, 100, .inr (.inl (fun _ => 0)))), (q_24, (b5_14 e0_28 e1_29 0)), (e0_28, .inl (c0_30, 8, .inl (fun _ => 0))), (e1_29, .inl (c1_31, 8, .inl (fun _ => 0))), (q_33, .inl (cA_35, 24, .inl (fun _ => 0))), (q_37, .inl (cA_39, 25, .inr (.inl (fun _ => 0))))] H_38 := hP
  have hD : va_D A [(oa, .inr (11, [.ref q_1, .int 0, .ref q_5, .int 0, .ref q_9, .ref q_24, .ref q_33, .int 0, .null, .int 0, .int 0])), (q_1, .inl (cA_3, 8, .inr (.inr (.inr (.inr (fun _ => none)))))), (q_5, .inl (cA_7, 40, .inr (.inr (.inr (.inr (fun _ => none)))))), (q_9, (b7_8 e0_13 e1_14 e2_15 e3_16 e4_17 0)), (e0_13, .inl (c0_18, 100, .inr (.inr (.inr (.inr (fun _ => none)))))), (e1_14, .inl (c1_19, 100, .inr (.inl (fun _ => 0)))), (e2_15, .inl (c2_20, 100, .inr (.inl (fun _ => 0)))), (e3_16, .inl (c3_21, 100, .inr (.inl (fun _ => 0)))), (e4_17, .inl (c4_22, 100, .inr (.inl (fun _ => 0)))), (q_24, (b5_14 e0_28 e1_29 0)), (e0_28, .inl (c0_30, 8, .inl (fun _ => 0))), (e1_29, .inl (c1_31, 8, .inl (fun _ => 0))), (q_33, .inl (cA_35, 24, .inl (fun _ => 0))), (q_37, .inl (cA_39, 25, .inr (.inl (fun _ => 0))))] := hD
  refine W.widen (k := 13) (n := 622) (Nat.le_of_ble_eq_true rfl) (Nat.le_of_ble_eq_true rfl) ?_
  refine va_putF (D := D) (ci := 11) (v := .ref q_37) (ty := .array .long) (C := RX11) (T := TX11) (N := 11) hx hb hg inG11 tyX11 tyX11_ok nmX11 hown hK hP hD hS 0 rfl rfl 8 (by decide) (hg _ wd_517) (fun _ h9 => h9) rfl hin rfl (by decide +kernel) rfl rfl (Nat.le_of_ble_eq_true rfl) dX11_init_57 (fun H_40 locs hP hD hS => ?_)
  have hP : va_P D vwCl [(oa, (b11_1 q_1 0 q_5 0 q_9 q_24 q_33 0 q_37 0 0)), (q_1, .inl (cA_3, 8, .inr (.inr (.inr (.inr (fun _ => none)))))), (q_5, .inl (cA_7, 40, .inr (.inr (.inr (.inr (fun _ => none)))))), (q_9, (b7_8 e0_13 e1_14 e2_15 e3_16 e4_17 0)), (e0_13, .inl (c0_18, 100, .inr (.inr (.inr (.inr (fun _ => none)))))), (e1_14, .inl (c1_19, 100, .inr (.inl (fun _ => 0)))), (e2_15, .inl (c2_20, 100, .inr (.inl (fun _ => 0)))), (e3_16, .inl (c3_21, 100, .inr (.inl (fun _ => 0)))), (e4_17, .inl (c4_22, 100, .inr (.inl (fun _ => 0)))), (q_24, (b5_14 e0_28 e1_29 0)), (e0_28, .inl (c0_30, 8, .inl (fun _ => 0))), (e1_29, .inl (c1_31, 8, .inl (fun _ => 0))), (q_33, .inl (cA_35, 24, .inl (fun _ => 0))), (q_37, .inl (cA_39, 25, .inr (.inl (fun _ => 0))))] H_40 := hP
  have hD : va_D A [(oa, (b11_1 q_1 0 q_5 0 q_9 q_24 q_33 0 q_37 0 0)), (q_1, .inl (cA_3, 8, .inr (.inr (.inr (.inr (fun _ => none)))))), (q_5, .inl (cA_7, 40, .inr (.inr (.inr (.inr (fun _ => none)))))), (q_9, (b7_8 e0_13 e1_14 e2_15 e3_16 e4_17 0)), (e0_13, .inl (c0_18, 100, .inr (.inr (.inr (.inr (fun _ => none)))))), (e1_14, .inl (c1_19, 100, .inr (.inl (fun _ => 0)))), (e2_15, .inl (c2_20, 100, .inr (.inl (fun _ => 0)))), (e3_16, .inl (c3_21, 100, .inr (.inl (fun _ => 0)))), (e4_17, .inl (c4_22, 100, .inr (.inl (fun _ => 0)))), (q_24, (b5_14 e0_28 e1_29 0)), (e0_28, .inl (c0_30, 8, .inl (fun _ => 0))), (e1_29, .inl (c1_31, 8, .inl (fun _ => 0))), (q_33, .inl (cA_35, 24, .inl (fun _ => 0))), (q_37, .inl (cA_39, 25, .inr (.inl (fun _ => 0))))] := hD
  refine lv_aload_n hx hb dX11_init_60 rfl (lv_at hl 0 rfl) ?_
  refine lv_iconst (v := (-1)) hx hb dX11_init_61 (by decide) ?_
  refine va_put (D := D) (ci := 11) (v := .int (-1)) (ty := .int) (C := RX11) (T := TX11) (N := 11) hx hb hg inG11 tyX11 tyX11_ok nmX11 hown hK hP hD hS 0 rfl rfl 10 (by decide) (hg _ wd_331) (fun _ h9 => h9) rfl (by decide +kernel) rfl rfl (Nat.le_of_ble_eq_true rfl) dX11_init_62 (fun H_41 locs hP hD hS => ?_)
  have hP : va_P D vwCl [(oa, (b11_1 q_1 0 q_5 0 q_9 q_24 q_33 0 q_37 0 (-1))), (q_1, .inl (cA_3, 8, .inr (.inr (.inr (.inr (fun _ => none)))))), (q_5, .inl (cA_7, 40, .inr (.inr (.inr (.inr (fun _ => none)))))), (q_9, (b7_8 e0_13 e1_14 e2_15 e3_16 e4_17 0)), (e0_13, .inl (c0_18, 100, .inr (.inr (.inr (.inr (fun _ => none)))))), (e1_14, .inl (c1_19, 100, .inr (.inl (fun _ => 0)))), (e2_15, .inl (c2_20, 100, .inr (.inl (fun _ => 0)))), (e3_16, .inl (c3_21, 100, .inr (.inl (fun _ => 0)))), (e4_17, .inl (c4_22, 100, .inr (.inl (fun _ => 0)))), (q_24, (b5_14 e0_28 e1_29 0)), (e0_28, .inl (c0_30, 8, .inl (fun _ => 0))), (e1_29, .inl (c1_31, 8, .inl (fun _ => 0))), (q_33, .inl (cA_35, 24, .inl (fun _ => 0))), (q_37, .inl (cA_39, 25, .inr (.inl (fun _ => 0))))] H_41 := hP
  have hD : va_D A [(oa, (b11_1 q_1 0 q_5 0 q_9 q_24 q_33 0 q_37 0 (-1))), (q_1, .inl (cA_3, 8, .inr (.inr (.inr (.inr (fun _ => none)))))), (q_5, .inl (cA_7, 40, .inr (.inr (.inr (.inr (fun _ => none)))))), (q_9, (b7_8 e0_13 e1_14 e2_15 e3_16 e4_17 0)), (e0_13, .inl (c0_18, 100, .inr (.inr (.inr (.inr (fun _ => none)))))), (e1_14, .inl (c1_19, 100, .inr (.inl (fun _ => 0)))), (e2_15, .inl (c2_20, 100, .inr (.inl (fun _ => 0)))), (e3_16, .inl (c3_21, 100, .inr (.inl (fun _ => 0)))), (e4_17, .inl (c4_22, 100, .inr (.inl (fun _ => 0)))), (q_24, (b5_14 e0_28 e1_29 0)), (e0_28, .inl (c0_30, 8, .inl (fun _ => 0))), (e1_29, .inl (c1_31, 8, .inl (fun _ => 0))), (q_33, .inl (cA_35, 24, .inl (fun _ => 0))), (q_37, .inl (cA_39, 25, .inr (.inl (fun _ => 0))))] := hD
  have hP9 := hP.sub (ws' := [(oa, (b11_1 q_1 0 q_5 0 q_9 q_24 q_33 0 q_37 0 (-1))), (q_1, .inl (cA_3, 8, .inr (.inr (.inr (.inr (fun _ => none)))))), (q_5, .inl (cA_7, 40, .inr (.inr (.inr (.inr (fun _ => none)))))), (q_9, (b7_8 e0_13 e1_14 e2_15 e3_16 e4_17 0)), (e0_13, .inl (c0_18, 100, .inr (.inr (.inr (.inr (fun _ => none)))))), (e1_14, .inl (c1_19, 100, .inr (.inl (fun _ => 0)))), (e2_15, .inl (c2_20, 100, .inr (.inl (fun _ => 0)))), (e3_16, .inl (c3_21, 100, .inr (.inl (fun _ => 0)))), (e4_17, .inl (c4_22, 100, .inr (.inl (fun _ => 0)))), (q_24, (b5_14 e0_28 e1_29 0)), (e0_28, .inl (c0_30, 8, .inl (fun _ => 0))), (e1_29, .inl (c1_31, 8, .inl (fun _ => 0))), (q_33, .inl (cA_35, 24, .inl (fun _ => 0))), (q_37, .inl (cA_39, 25, .inr (.inl (fun _ => 0))))]) [0, 1, 2, 3, 4, 5, 6, 7, 8, 9, 10, 11, 12, 13] rfl
  have hD9 := hD.sub (ws' := [(oa, (b11_1 q_1 0 q_5 0 q_9 q_24 q_33 0 q_37 0 (-1))), (q_1, .inl (cA_3, 8, .inr (.inr (.inr (.inr (fun _ => none)))))), (q_5, .inl (cA_7, 40, .inr (.inr (.inr (.inr (fun _ => none)))))), (q_9, (b7_8 e0_13 e1_14 e2_15 e3_16 e4_17 0)), (e0_13, .inl (c0_18, 100, .inr (.inr (.inr (.inr (fun _ => none)))))), (e1_14, .inl (c1_19, 100, .inr (.inl (fun _ => 0)))), (e2_15, .inl (c2_20, 100, .inr (.inl (fun _ => 0)))), (e3_16, .inl (c3_21, 100, .inr (.inl (fun _ => 0)))), (e4_17, .inl (c4_22, 100, .inr (.inl (fun _ => 0)))), (q_24, (b5_14 e0_28 e1_29 0)), (e0_28, .inl (c0_30, 8, .inl (fun _ => 0))), (e1_29, .inl (c1_31, 8, .inl (fun _ => 0))), (q_33, .inl (cA_35, 24, .inl (fun _ => 0))), (q_37, .inl (cA_39, 25, .inr (.inl (fun _ => 0))))]) [0, 1, 2, 3, 4, 5, 6, 7, 8, 9, 10, 11, 12, 13] (by decide) rfl
  have hK9 := hK.sub (tys' := [(cA_3, .object RX2), (cA_7, .object RX4), (c0_18, .object RX9), (c1_19, .long), (c2_20, .long), (c3_21, .long), (c4_22, .long), (c0_30, .int), (c1_31, .int), (cA_35, .int), (cA_39, .long)]) [0, 1, 2, 3, 4, 5, 6, 7, 8, 9, 10] rfl
  exact W.vret hx hb hr (fun t ht hW => ⟨⟨(), rfl, trivial, ⟨q_1, q_5, q_9, q_24, q_33, q_37, e0_13, e1_14, e2_15, e3_16, e4_17, e0_28, e1_29, cA_3, cA_7, c0_18, c1_19, c2_20, c3_21, c4_22, c0_30, c1_31, cA_35, cA_39, by rw [ht]; exact hP9, va_K.moved hW.alike hK9, hD9⟩⟩, hS.F ht⟩) hS.2.2 dX11_init_65
