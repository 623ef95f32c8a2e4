theorem dX13_refused_0 : decode cX13_refused 0 = .ok (.aload_n 0, 1) := by decide +kernel
theorem dX13_refused_1 : decode cX13_refused 1 = .ok (.iload_n 1, 1) := by decide +kernel
theorem dX13_refused_2 : decode cX13_refused 2 = .ok (.putfield 58, 3) := by decide +kernel
theorem dX13_refused_5 : decode cX13_refused 5 = .ok (.aload_n 0, 1) := by decide +kernel
theorem dX13_refused_6 : decode cX13_refused 6 = .ok (.iconst (-1), 1) := by decide +kernel
theorem dX13_refused_7 : decode cX13_refused 7 = .ok (.putfield 16, 3) := by decide +kernel
theorem dX13_refused_10 : decode cX13_refused 10 = .ok (.iconst (-1), 1) := by decide +kernel
theorem dX13_refused_11 : decode cX13_refused 11 = .ok (.ireturn, 1) := by decide +kernel
theorem dX13_done_0 : decode cX13_done 0 = .ok (.aload_n 0, 1) := by decide +kernel
theorem dX13_done_1 : decode cX13_done 1 = .ok (.iconst 0, 1) := by decide +kernel
theorem dX13_done_2 : decode cX13_done 2 = .ok (.putfield 58, 3) := by decide +kernel
theorem dX13_done_5 : decode cX13_done 5 = .ok (.aload_n 0, 1) := by decide +kernel
theorem dX13_done_6 : decode cX13_done 6 = .ok (.iconst (-1), 1) := by decide +kernel
theorem dX13_done_7 : decode cX13_done 7 = .ok (.putfield 16, 3) := by decide +kernel
theorem dX13_done_10 : decode cX13_done 10 = .ok (.iload_n 1, 1) := by decide +kernel
theorem dX13_done_11 : decode cX13_done 11 = .ok (.ireturn, 1) := by decide +kernel
theorem dX13_isHouse_0 : decode cX13_isHouse 0 = .ok (.iload_n 1, 1) := by decide +kernel
theorem dX13_isHouse_1 : decode cX13_isHouse 1 = .ok (.ifCond .lt 15, 3) := by decide +kernel
theorem dX13_isHouse_4 : decode cX13_isHouse 4 = .ok (.iload_n 1, 1) := by decide +kernel
theorem dX13_isHouse_5 : decode cX13_isHouse 5 = .ok (.aload_n 0, 1) := by decide +kernel
theorem dX13_isHouse_6 : decode cX13_isHouse 6 = .ok (.getfield 61, 3) := by decide +kernel
theorem dX13_isHouse_9 : decode cX13_isHouse 9 = .ok (.if_icmp .ge 7, 3) := by decide +kernel
theorem dX13_isHouse_12 : decode cX13_isHouse 12 = .ok (.iconst 1, 1) := by decide +kernel
theorem dX13_isHouse_13 : decode cX13_isHouse 13 = .ok (.goto 4, 3) := by decide +kernel
theorem dX13_isHouse_16 : decode cX13_isHouse 16 = .ok (.iconst 0, 1) := by decide +kernel
theorem dX13_isHouse_17 : decode cX13_isHouse 17 = .ok (.ireturn, 1) := by decide +kernel
theorem dX13_isSeat_0 : decode cX13_isSeat 0 = .ok (.aload_n 0, 1) := by decide +kernel
theorem dX13_isSeat_1 : decode cX13_isSeat 1 = .ok (.iload_n 1, 1) := by decide +kernel
theorem dX13_isSeat_2 : decode cX13_isSeat 2 = .ok (.invokevirtual 64, 3) := by decide +kernel
theorem dX13_isSeat_5 : decode cX13_isSeat 5 = .ok (.ifCond .eq 17, 3) := by decide +kernel
theorem dX13_isSeat_8 : decode cX13_isSeat 8 = .ok (.iload_n 2, 1) := by decide +kernel
theorem dX13_isSeat_9 : decode cX13_isSeat 9 = .ok (.ifCond .lt 13, 3) := by decide +kernel
theorem dX13_isSeat_12 : decode cX13_isSeat 12 = .ok (.iload_n 2, 1) := by decide +kernel
theorem dX13_isSeat_13 : decode cX13_isSeat 13 = .ok (.bipush 6, 2) := by decide +kernel
theorem dX13_isSeat_15 : decode cX13_isSeat 15 = .ok (.if_icmp .ge 7, 3) := by decide +kernel
theorem dX13_isSeat_18 : decode cX13_isSeat 18 = .ok (.iconst 1, 1) := by decide +kernel
theorem dX13_isSeat_19 : decode cX13_isSeat 19 = .ok (.goto 4, 3) := by decide +kernel
theorem dX13_isSeat_22 : decode cX13_isSeat 22 = .ok (.iconst 0, 1) := by decide +kernel
theorem dX13_isSeat_23 : decode cX13_isSeat 23 = .ok (.ireturn, 1) := by decide +kernel
theorem dX13_isSum_0 : decode cX13_isSum 0 = .ok (.iload_n 0, 1) := by decide +kernel
theorem dX13_isSum_1 : decode cX13_isSum 1 = .ok (.ifCond .le 13, 3) := by decide +kernel
theorem dX13_isSum_4 : decode cX13_isSum 4 = .ok (.iload_n 0, 1) := by decide +kernel
theorem dX13_isSum_5 : decode cX13_isSum 5 = .ok (.ldc 71, 2) := by decide +kernel
theorem dX13_isSum_7 : decode cX13_isSum 7 = .ok (.if_icmp .gt 7, 3) := by decide +kernel
theorem dX13_isSum_10 : decode cX13_isSum 10 = .ok (.iconst 1, 1) := by decide +kernel
theorem dX13_isSum_11 : decode cX13_isSum 11 = .ok (.goto 4, 3) := by decide +kernel
theorem dX13_isSum_14 : decode cX13_isSum 14 = .ok (.iconst 0, 1) := by decide +kernel
theorem dX13_isSum_15 : decode cX13_isSum 15 = .ok (.ireturn, 1) := by decide +kernel
theorem dX13_isLimited_0 : decode cX13_isLimited 0 = .ok (.aload_n 0, 1) := by decide +kernel
theorem dX13_isLimited_1 : decode cX13_isLimited 1 = .ok (.getfield 20, 3) := by decide +kernel
theorem dX13_isLimited_4 : decode cX13_isLimited 4 = .ok (.aload_n 1, 1) := by decide +kernel
theorem dX13_isLimited_5 : decode cX13_isLimited 5 = .ok (.getfield 72, 3) := by decide +kernel
theorem dX13_isLimited_8 : decode cX13_isLimited 8 = .ok (.iload_n 2, 1) := by decide +kernel
theorem dX13_isLimited_9 : decode cX13_isLimited 9 = .ok (.iaload, 1) := by decide +kernel
theorem dX13_isLimited_10 : decode cX13_isLimited 10 = .ok (.iaload, 1) := by decide +kernel
theorem dX13_isLimited_11 : decode cX13_isLimited 11 = .ok (.istore_n 3, 1) := by decide +kernel
theorem dX13_isLimited_12 : decode cX13_isLimited 12 = .ok (.iload_n 3, 1) := by decide +kernel
theorem dX13_isLimited_13 : decode cX13_isLimited 13 = .ok (.iconst 1, 1) := by decide +kernel
theorem dX13_isLimited_14 : decode cX13_isLimited 14 = .ok (.if_icmp .eq 13, 3) := by decide +kernel
theorem dX13_isLimited_17 : decode cX13_isLimited 17 = .ok (.iload_n 3, 1) := by decide +kernel
theorem dX13_isLimited_18 : decode cX13_isLimited 18 = .ok (.iconst 2, 1) := by decide +kernel
theorem dX13_isLimited_19 : decode cX13_isLimited 19 = .ok (.if_icmp .eq 8, 3) := by decide +kernel
theorem dX13_isLimited_22 : decode cX13_isLimited 22 = .ok (.iload_n 3, 1) := by decide +kernel
theorem dX13_isLimited_23 : decode cX13_isLimited 23 = .ok (.iconst 4, 1) := by decide +kernel
theorem dX13_isLimited_24 : decode cX13_isLimited 24 = .ok (.if_icmp .ne 7, 3) := by decide +kernel
theorem dX13_isLimited_27 : decode cX13_isLimited 27 = .ok (.iconst 1, 1) := by decide +kernel
theorem dX13_isLimited_28 : decode cX13_isLimited 28 = .ok (.goto 4, 3) := by decide +kernel
theorem dX13_isLimited_31 : decode cX13_isLimited 31 = .ok (.iconst 0, 1) := by decide +kernel
theorem dX13_isLimited_32 : decode cX13_isLimited 32 = .ok (.ireturn, 1) := by decide +kernel
theorem dX13_circle_0 : decode cX13_circle 0 = .ok (.aload_n 0, 1) := by decide +kernel
theorem dX13_circle_1 : decode cX13_circle 1 = .ok (.iconst 0, 1) := by decide +kernel
theorem dX13_circle_2 : decode cX13_circle 2 = .ok (.putfield 55, 3) := by decide +kernel
theorem dX13_circle_5 : decode cX13_circle 5 = .ok (.iload_n 1, 1) := by decide +kernel
theorem dX13_circle_6 : decode cX13_circle 6 = .ok (.ifCond .lt 20, 3) := by decide +kernel
theorem dX13_circle_9 : decode cX13_circle 9 = .ok (.iload_n 1, 1) := by decide +kernel
theorem dX13_circle_10 : decode cX13_circle 10 = .ok (.aload_n 0, 1) := by decide +kernel
theorem dX13_circle_11 : decode cX13_circle 11 = .ok (.getfield 128, 3) := by decide +kernel
theorem dX13_circle_14 : decode cX13_circle 14 = .ok (.if_icmp .ge 12, 3) := by decide +kernel
theorem dX13_circle_17 : decode cX13_circle 17 = .ok (.aload_n 0, 1) := by decide +kernel
theorem dX13_circle_18 : decode cX13_circle 18 = .ok (.getfield 27, 3) := by decide +kernel
theorem dX13_circle_21 : decode cX13_circle 21 = .ok (.iload_n 1, 1) := by decide +kernel
theorem dX13_circle_22 : decode cX13_circle 22 = .ok (.iaload, 1) := by decide +kernel
theorem dX13_circle_23 : decode cX13_circle 23 = .ok (.goto 4, 3) := by decide +kernel
theorem dX13_circle_26 : decode cX13_circle 26 = .ok (.iconst (-1), 1) := by decide +kernel
theorem dX13_circle_27 : decode cX13_circle 27 = .ok (.ireturn, 1) := by decide +kernel
theorem dX13_refusedAt_0 : decode cX13_refusedAt 0 = .ok (.aload_n 0, 1) := by decide +kernel
theorem dX13_refusedAt_1 : decode cX13_refusedAt 1 = .ok (.iload_n 1, 1) := by decide +kernel
theorem dX13_refusedAt_2 : decode cX13_refusedAt 2 = .ok (.putfield 58, 3) := by decide +kernel
theorem dX13_refusedAt_5 : decode cX13_refusedAt 5 = .ok (.aload_n 0, 1) := by decide +kernel
theorem dX13_refusedAt_6 : decode cX13_refusedAt 6 = .ok (.iload_n 2, 1) := by decide +kernel
theorem dX13_refusedAt_7 : decode cX13_refusedAt 7 = .ok (.putfield 16, 3) := by decide +kernel
theorem dX13_refusedAt_10 : decode cX13_refusedAt 10 = .ok (.iconst (-1), 1) := by decide +kernel
theorem dX13_refusedAt_11 : decode cX13_refusedAt 11 = .ok (.ireturn, 1) := by decide +kernel
theorem dX13_borne_0 : decode cX13_borne 0 = .ok (.aload_n 0, 1) := by decide +kernel
theorem dX13_borne_1 : decode cX13_borne 1 = .ok (.iconst 0, 1) := by decide +kernel
theorem dX13_borne_2 : decode cX13_borne 2 = .ok (.putfield 55, 3) := by decide +kernel
theorem dX13_borne_5 : decode cX13_borne 5 = .ok (.iload_n 1, 1) := by decide +kernel
theorem dX13_borne_6 : decode cX13_borne 6 = .ok (.iconst (-1), 1) := by decide +kernel
theorem dX13_borne_7 : decode cX13_borne 7 = .ok (.if_icmp .ne 10, 3) := by decide +kernel
theorem dX13_borne_10 : decode cX13_borne 10 = .ok (.aload_n 0, 1) := by decide +kernel
theorem dX13_borne_11 : decode cX13_borne 11 = .ok (.getfield 382, 3) := by decide +kernel
theorem dX13_borne_14 : decode cX13_borne 14 = .ok (.goto 23, 3) := by decide +kernel
theorem dX13_borne_17 : decode cX13_borne 17 = .ok (.iload_n 1, 1) := by decide +kernel
theorem dX13_borne_18 : decode cX13_borne 18 = .ok (.ifCond .lt 18, 3) := by decide +kernel
theorem dX13_borne_21 : decode cX13_borne 21 = .ok (.iload_n 1, 1) := by decide +kernel
theorem dX13_borne_22 : decode cX13_borne 22 = .ok (.bipush 24, 2) := by decide +kernel
theorem dX13_borne_24 : decode cX13_borne 24 = .ok (.if_icmp .ge 12, 3) := by decide +kernel
theorem dX13_borne_27 : decode cX13_borne 27 = .ok (.aload_n 0, 1) := by decide +kernel
theorem dX13_borne_28 : decode cX13_borne 28 = .ok (.getfield 49, 3) := by decide +kernel
theorem dX13_borne_31 : decode cX13_borne 31 = .ok (.iload_n 1, 1) := by decide +kernel
theorem dX13_borne_32 : decode cX13_borne 32 = .ok (.iaload, 1) := by decide +kernel
theorem dX13_borne_33 : decode cX13_borne 33 = .ok (.goto 4, 3) := by decide +kernel
theorem dX13_borne_36 : decode cX13_borne 36 = .ok (.iconst 0, 1) := by decide +kernel
theorem dX13_borne_37 : decode cX13_borne 37 = .ok (.ireturn, 1) := by decide +kernel
theorem dX13_sheet_0 : decode cX13_sheet 0 = .ok (.aload_n 0, 1) := by decide +kernel
theorem dX13_sheet_1 : decode cX13_sheet 1 = .ok (.iconst 0, 1) := by decide +kernel
theorem dX13_sheet_2 : decode cX13_sheet 2 = .ok (.putfield 55, 3) := by decide +kernel
theorem dX13_sheet_5 : decode cX13_sheet 5 = .ok (.iload_n 1, 1) := by decide +kernel
theorem dX13_sheet_6 : decode cX13_sheet 6 = .ok (.ifCond .lt 9, 3) := by decide +kernel
theorem dX13_sheet_9 : decode cX13_sheet 9 = .ok (.iload_n 1, 1) := by decide +kernel
theorem dX13_sheet_10 : decode cX13_sheet 10 = .ok (.bipush 24, 2) := by decide +kernel
theorem dX13_sheet_12 : decode cX13_sheet 12 = .ok (.if_icmp .le 9, 3) := by decide +kernel
theorem dX13_sheet_15 : decode cX13_sheet 15 = .ok (.aload_n 0, 1) := by decide +kernel
theorem dX13_sheet_16 : decode cX13_sheet 16 = .ok (.iconst 2, 1) := by decide +kernel
theorem dX13_sheet_17 : decode cX13_sheet 17 = .ok (.invokevirtual 73, 3) := by decide +kernel
theorem dX13_sheet_20 : decode cX13_sheet 20 = .ok (.ireturn, 1) := by decide +kernel
theorem dX13_sheet_21 : decode cX13_sheet 21 = .ok (.aload_n 0, 1) := by decide +kernel
theorem dX13_sheet_22 : decode cX13_sheet 22 = .ok (.getfield 52, 3) := by decide +kernel
theorem dX13_sheet_25 : decode cX13_sheet 25 = .ok (.iload_n 1, 1) := by decide +kernel
theorem dX13_sheet_26 : decode cX13_sheet 26 = .ok (.lload_n 2, 1) := by decide +kernel
theorem dX13_sheet_27 : decode cX13_sheet 27 = .ok (.lastore, 1) := by decide +kernel
theorem dX13_sheet_28 : decode cX13_sheet 28 = .ok (.aload_n 0, 1) := by decide +kernel
theorem dX13_sheet_29 : decode cX13_sheet 29 = .ok (.iconst 1, 1) := by decide +kernel
theorem dX13_sheet_30 : decode cX13_sheet 30 = .ok (.invokevirtual 86, 3) := by decide +kernel
theorem dX13_sheet_33 : decode cX13_sheet 33 = .ok (.ireturn, 1) := by decide +kernel
theorem dX13_status_0 : decode cX13_status 0 = .ok (.aload_n 0, 1) := by decide +kernel
theorem dX13_status_1 : decode cX13_status 1 = .ok (.iconst 0, 1) := by decide +kernel
theorem dX13_status_2 : decode cX13_status 2 = .ok (.putfield 55, 3) := by decide +kernel
theorem dX13_status_5 : decode cX13_status 5 = .ok (.aload_n 0, 1) := by decide +kernel
theorem dX13_status_6 : decode cX13_status 6 = .ok (.getfield 58, 3) := by decide +kernel
theorem dX13_status_9 : decode cX13_status 9 = .ok (.ireturn, 1) := by decide +kernel
theorem dX13_where_0 : decode cX13_where 0 = .ok (.aload_n 0, 1) := by decide +kernel
theorem dX13_where_1 : decode cX13_where 1 = .ok (.iconst 0, 1) := by decide +kernel
theorem dX13_where_2 : decode cX13_where 2 = .ok (.putfield 55, 3) := by decide +kernel
theorem dX13_where_5 : decode cX13_where 5 = .ok (.aload_n 0, 1) := by decide +kernel
theorem dX13_where_6 : decode cX13_where 6 = .ok (.getfield 16, 3) := by decide +kernel
theorem dX13_where_9 : decode cX13_where 9 = .ok (.ireturn, 1) := by decide +kernel
theorem wd_710 : Cond.fieldLink RX13 58 RX13 "status" "I" ∈ lw_good := mem_t6 65 (by decide +kernel) rfl
theorem wd_711 : Cond.fieldLink RX13 16 RX13 "where" "I" ∈ lw_good := mem_t6 66 (by decide +kernel) rfl
theorem wd_712 : Cond.constant RX13 71 1000000000 ∈ lw_good := mem_t6 138 (by decide +kernel) rfl
theorem wd_713 : Cond.fieldLink RX13 61 RX13 "houseCount" "I" ∈ lw_good := mem_t6 63 (by decide +kernel) rfl
theorem wd_714 : Cond.methodLink RX13 64 yX13_isHouse ∈ lw_good := mem_t6 139 (by decide +kernel) rfl
theorem wd_715 : Cond.instanceMethod yX13_isHouse ∈ lw_good := mem_t6 141 (by decide +kernel) rfl
theorem wd_716 : Cond.selects RX13 yX13_isHouse yX13_isHouse ∈ lw_good := mem_p 28 (by decide +kernel) rfl
theorem wd_717 : Cond.initialized RX13 ∈ lw_good := mem_t1 4 (by decide +kernel) rfl
theorem wd_718 : Cond.code yX13_isHouse cX13_isHouse 2 (some .boolean) ∈ lw_good := mem_t6 142 rfl rfl
theorem wd_719 : Cond.fieldLink RX13 20 RX13 "kind" "[I" ∈ lw_good := mem_t6 67 (by decide +kernel) rfl
theorem wd_720 : Cond.fieldLink RX13 55 RX13 "thrown" "I" ∈ lw_good := mem_t6 61 (by decide +kernel) rfl
theorem wd_721 : Cond.fieldLink RX13 49 RX13 "bornes" "[I" ∈ lw_good := mem_t6 78 (by decide +kernel) rfl
theorem wd_722 : Cond.fieldLink RX13 382 RX13 "nobodys" "I" ∈ lw_good := mem_t6 79 (by decide +kernel) rfl
theorem wd_723 : Cond.fieldLink RX13 128 RX13 "circled" "I" ∈ lw_good := mem_t6 71 (by decide +kernel) rfl
theorem wd_724 : Cond.fieldLink RX13 27 RX13 "circle" "[I" ∈ lw_good := mem_t6 69 (by decide +kernel) rfl
theorem wd_725 : Cond.methodLink RX13 73 yX13_refused ∈ lw_good := mem_t6 126 (by decide +kernel) rfl
theorem wd_726 : Cond.instanceMethod yX13_refused ∈ lw_good := mem_t6 128 (by decide +kernel) rfl
theorem wd_727 : Cond.selects RX13 yX13_refused yX13_refused ∈ lw_good := mem_p 26 (by decide +kernel) rfl
theorem wd_728 : Cond.code yX13_refused cX13_refused 2 (some .int) ∈ lw_good := mem_t6 129 rfl rfl
theorem wd_729 : Cond.fieldLink RX13 52 RX13 "sheet" "[J" ∈ lw_good := mem_t6 80 (by decide +kernel) rfl
theorem wd_730 : Cond.methodLink RX13 86 yX13_done ∈ lw_good := mem_t6 130 (by decide +kernel) rfl
theorem wd_731 : Cond.instanceMethod yX13_done ∈ lw_good := mem_t6 132 (by decide +kernel) rfl
theorem wd_732 : Cond.selects RX13 yX13_done yX13_done ∈ lw_good := mem_p 27 (by decide +kernel) rfl
theorem wd_733 : Cond.code yX13_done cX13_done 2 (some .int) ∈ lw_good := mem_t6 133 rfl rfl
set_option maxHeartbeats 4000000 in
set_option maxRecDepth 100000 in
theorem m_refused (l : Launch) (D : va_G) (sz : Nat) (za : Nat) (z0 : Int32) (z1 : Nat) (z2 : Int32) (z3 : Int32) (z4 : Int32) (z5 : Int32) (z6 : Nat) (z7 : Nat) (z8 : Nat) (z9 : Nat) (z10 : Int32) (z11 : Nat) (z12 : Nat) (z13 : Nat) (z14 : Nat) (z15 : Nat) (z16 : Int32) (z17 : Nat) (z18 : Int32) (z19 : Nat) (k1 : Int32) : Met l yX13_refused (wsM yX13_refused cX13_refused 2 (some .int)) ({ frames := 0, cells := 0, slots := 0, locals := 0 }) (va_Pc [.ref za, .int k1] (Pr D [(za, (b13_0 z0 z1 z2 z3 z4 z5 z6 z7 z8 z9 z10 z11 z12 z13 z14 z15 z16 z17 z18 z19))] [] sz)) (va_Qi (fun (r : Int32) (_ : Unit) => r = (-1)) (fun _ t => Po D [(za, (b13_0 z0 z1 z2 z3 k1 (-1) z6 z7 z8 z9 z10 z11 z12 z13 z14 z15 z16 z17 z18 z19))] [] (va_A [(za, (b13_0 z0 z1 z2 z3 z4 z5 z6 z7 z8 z9 z10 z11 z12 z13 z14 z15 z16 z17 z18 z19))] sz) t) (va_A [(za, (b13_0 z0 z1 z2 z3 z4 z5 z6 z7 z8 z9 z10 z11 z12 z13 z14 z15 z16 z17 z18 z19))] sz)) 0 0 (va_A [(za, (b13_0 z0 z1 z2 z3 z4 z5 z6 z7 z8 z9 z10 z11 z12 z13 z14 z15 z16 z17 z18 z19))] sz) := by
  refine Met.ofW (cc := cX13_refused) (maxL := 2) (ret := (some .int)) (by decide) rfl ?_
  intro p e s m args below meth c s₁ B hml hv
  obtain ⟨rfl, hsz, hP, hK, hD0, hN⟩ := hv
  have hx := B.exec
  have hb := B.bytes
  have hr := B.returns
  have hts := atoms_spec (ws := (wsM yX13_refused cX13_refused 2 (some .int))) B.pre
  have hg : ∀ w ∈ lw_good, w.before _ s = true := fun w h => hts w (List.mem_cons_of_mem _ h)
  have hown : s.vm.findClass RX13 = some m.cls := findClass_of_methodNamed B.named
  have hlocks := B.notSynchronized
  subst hsz
  have hD := hD0.self (sz := s.heap.size)
  generalize hAe : va_A [(za, (b13_0 z0 z1 z2 z3 z4 z5 z6 z7 z8 z9 z10 z11 z12 z13 z14 z15 z16 z17 z18 z19))] s.heap.size = A at hD ⊢
  have hA : ∀ q : Nat, s.heap.size ≤ q → A q := fun q h => by rw [← hAe]; exact Or.inr h
  have hS : va_S A s.heap s.heap [] := va_S.rf
  have hP : va_P D vwCl [(za, (b13_0 z0 z1 z2 z3 z4 z5 z6 z7 z8 z9 z10 z11 z12 z13 z14 z15 z16 z17 z18 z19))] s.heap := hP
  have hl := lv_entry ([.ref za, .int k1]) (n := 2) (Nat.le_of_ble_eq_true rfl)
  rw [lg_entry_eq]
  generalize (lg_sl ([.ref za, .int k1]) ++ List.replicate (2 - (lg_sl ([.ref za, .int k1])).length) Slot.unset).toArray = ls at hl ⊢
  have hl : lv_has ls 2 [(0, .ref za), (1, .int k1)] := hl
  refine lv_aload_n hx hb dX13_refused_0 rfl (lv_at hl 0 rfl) ?_
  refine lv_iload_n hx hb dX13_refused_1 rfl (lv_at hl 1 rfl) ?_
  refine va_put (D := D) (ci := 13) (v := .int k1) (ty := .int) (C := RX13) (T := TX13) (N := 20) hx hb hg inG13 tyX13 tyX13_ok nmX13 hown hK hP hD hS 0 rfl rfl 4 (by decide) (hg _ wd_710) (fun _ h9 => h9) rfl (by decide +kernel) rfl rfl (Nat.le_of_ble_eq_true rfl) dX13_refused_2 (fun H_1 locs hP hD hS => ?_)
  have hP : va_P D vwCl [(za, (b13_0 z0 z1 z2 z3 k1 z5 z6 z7 z8 z9 z10 z11 z12 z13 z14 z15 z16 z17 z18 z19))] H_1 := hP
  have hD : va_D A [(za, (b13_0 z0 z1 z2 z3 k1 z5 z6 z7 z8 z9 z10 z11 z12 z13 z14 z15 z16 z17 z18 z19))] := hD
  refine lv_aload_n hx hb dX13_refused_5 rfl (lv_at hl 0 rfl) ?_
  refine lv_iconst (v := (-1)) hx hb dX13_refused_6 (by decide) ?_
  refine va_put (D := D) (ci := 13) (v := .int (-1)) (ty := .int) (C := RX13) (T := TX13) (N := 20) hx hb hg inG13 tyX13 tyX13_ok nmX13 hown hK hP hD hS 0 rfl rfl 5 (by decide) (hg _ wd_711) (fun _ h9 => h9) rfl (by decide +kernel) rfl rfl (Nat.le_of_ble_eq_true rfl) dX13_refused_7 (fun H_2 locs hP hD hS => ?_)
  have hP : va_P D vwCl [(za, (b13_0 z0 z1 z2 z3 k1 (-1) z6 z7 z8 z9 z10 z11 z12 z13 z14 z15 z16 z17 z18 z19))] H_2 := hP
  have hD : va_D A [(za, (b13_0 z0 z1 z2 z3 k1 (-1) z6 z7 z8 z9 z10 z11 z12 z13 z14 z15 z16 z17 z18 z19))] := hD
  refine lv_iconst (v := (-1)) hx hb dX13_refused_10 (by decide) ?_
  have hP9 := hP.sub (ws' := [(za, (b13_0 z0 z1 z2 z3 k1 (-1) z6 z7 z8 z9 z10 z11 z12 z13 z14 z15 z16 z17 z18 z19))]) [0] rfl
  have hD9 := hD.sub (ws' := [(za, (b13_0 z0 z1 z2 z3 k1 (-1) z6 z7 z8 z9 z10 z11 z12 z13 z14 z15 z16 z17 z18 z19))]) [0] (by decide) rfl
  have hK9 := hK.sub (tys' := []) [] rfl
  exact W.iret (v := (-1)) hx hb hr (fun t ht hW => ⟨⟨(-1), (), rfl, rfl, ⟨by rw [ht]; exact hP9, va_K.moved hW.alike hK9, hD9⟩⟩, hS.F ht⟩) hS.2.2 dX13_refused_11
set_option maxHeartbeats 4000000 in
set_option maxRecDepth 100000 in
theorem m_done (l : Launch) (D : va_G) (sz : Nat) (za : Nat) (z0 : Int32) (z1 : Nat) (z2 : Int32) (z3 : Int32) (z4 : Int32) (z5 : Int32) (z6 : Nat) (z7 : Nat) (z8 : Nat) (z9 : Nat) (z10 : Int32) (z11 : Nat) (z12 : Nat) (z13 : Nat) (z14 : Nat) (z15 : Nat) (z16 : Int32) (z17 : Nat) (z18 : Int32) (z19 : Nat) (k1 : Int32) : Met l yX13_done (wsM yX13_done cX13_done 2 (some .int)) ({ frames := 0, cells := 0, slots := 0, locals := 0 }) (va_Pc [.ref za, .int k1] (Pr D [(za, (b13_0 z0 z1 z2 z3 z4 z5 z6 z7 z8 z9 z10 z11 z12 z13 z14 z15 z16 z17 z18 z19))] [] sz)) (va_Qi (fun (r : Int32) (_ : Unit) => r = k1) (fun _ t => Po D [(za, (b13_0 z0 z1 z2 z3 0 (-1) z6 z7 z8 z9 z10 z11 z12 z13 z14 z15 z16 z17 z18 z19))] [] (va_A [(za, (b13_0 z0 z1 z2 z3 z4 z5 z6 z7 z8 z9 z10 z11 z12 z13 z14 z15 z16 z17 z18 z19))] sz) t) (va_A [(za, (b13_0 z0 z1 z2 z3 z4 z5 z6 z7 z8 z9 z10 z11 z12 z13 z14 z15 z16 z17 z18 z19))] sz)) 0 0 (va_A [(za, (b13_0 z0 z1 z2 z3 z4 z5 z6 z7 z8 z9 z10 z11 z12 z13 z14 z15 z16 z17 z18 z19))] sz) := by
  refine Met.ofW (cc := cX13_done) (maxL := 2) (ret := (some .int)) (by decide) rfl ?_
  intro p e s m args below meth c s₁ B hml hv
  obtain ⟨rfl, hsz, hP, hK, hD0, hN⟩ := hv
  have hx := B.exec
  have hb := B.bytes
  have hr := B.returns
  have hts := atoms_spec (ws := (wsM yX13_done cX13_done 2 (some .int))) B.pre
  have hg : ∀ w ∈ lw_good, w.before _ s = true := fun w h => hts w (List.mem_cons_of_mem _ h)
  have hown : s.vm.findClass RX13 = some m.cls := findClass_of_methodNamed B.named
  have hlocks := B.notSynchronized
  subst hsz
  have hD := hD0.self (sz := s.heap.size)
  generalize hAe : va_A [(za, (b13_0 z0 z1 z2 z3 z4 z5 z6 z7 z8 z9 z10 z11 z12 z13 z14 z15 z16 z17 z18 z19))] s.heap.size = A at hD ⊢
  have hA : ∀ q : Nat, s.heap.size ≤ q → A q := fun q h => by rw [← hAe]; exact Or.inr h
  have hS : va_S A s.heap s.heap [] := va_S.rf
  have hP : va_P D vwCl [(za, (b13_0 z0 z1 z2 z3 z4 z5 z6 z7 z8 z9 z10 z11 z12 z13 z14 z15 z16 z17 z18 z19))] s.heap := hP
  have hl := lv_entry ([.ref za, .int k1]) (n := 2) (Nat.le_of_ble_eq_true rfl)
  rw [lg_entry_eq]
  generalize (lg_sl ([.ref za, .int k1]) ++ List.replicate (2 - (lg_sl ([.ref za, .int k1])).length) Slot.unset).toArray = ls at hl ⊢
  have hl : lv_has ls 2 [(0, .ref za), (1, .int k1)] := hl
  refine lv_aload_n hx hb dX13_done_0 rfl (lv_at hl 0 rfl) ?_
  refine lv_iconst (v := 0) hx hb dX13_done_1 (by decide) ?_
  refine va_put (D := D) (ci := 13) (v := .int 0) (ty := .int) (C := RX13) (T := TX13) (N := 20) hx hb hg inG13 tyX13 tyX13_ok nmX13 hown hK hP hD hS 0 rfl rfl 4 (by decide) (hg _ wd_710) (fun _ h9 => h9) rfl (by decide +kernel) rfl rfl (Nat.le_of_ble_eq_true rfl) dX13_done_2 (fun H_1 locs hP hD hS => ?_)
  have hP : va_P D vwCl [(za, (b13_0 z0 z1 z2 z3 0 z5 z6 z7 z8 z9 z10 z11 z12 z13 z14 z15 z16 z17 z18 z19))] H_1 := hP
  have hD : va_D A [(za, (b13_0 z0 z1 z2 z3 0 z5 z6 z7 z8 z9 z10 z11 z12 z13 z14 z15 z16 z17 z18 z19))] := hD
  refine lv_aload_n hx hb dX13_done_5 rfl (lv_at hl 0 rfl) ?_
  refine lv_iconst (v := (-1)) hx hb dX13_done_6 (by decide) ?_
  refine va_put (D := D) (ci := 13) (v := .int (-1)) (ty := .int) (C := RX13) (T := TX13) (N := 20) hx hb hg inG13 tyX13 tyX13_ok nmX13 hown hK hP hD hS 0 rfl rfl 5 (by decide) (hg _ wd_711) (fun _ h9 => h9) rfl (by decide +kernel) rfl rfl (Nat.le_of_ble_eq_true rfl) dX13_done_7 (fun H_2 locs hP hD hS => ?_)
  have hP : va_P D vwCl [(za, (b13_0 z0 z1 z2 z3 0 (-1) z6 z7 z8 z9 z10 z11 z12 z13 z14 z15 z16 z17 z18 z19))] H_2 := hP
  have hD : va_D A [(za, (b13_0 z0 z1 z2 z3 0 (-1) z6 z7 z8 z9 z10 z11 z12 z13 z14 z15 z16 z17 z18 z19))] := hD
  refine lv_iload_n hx hb dX13_done_10 rfl (lv_at hl 1 rfl) ?_
  have hP9 := hP.sub (ws' := [(za, (b13_0 z0 z1 z2 z3 0 (-1) z6 z7 z8 z9 z10 z11 z12 z13 z14 z15 z16 z17 z18 z19))]) [0] rfl
  have hD9 := hD.sub (ws' := [(za, (b13_0 z0 z1 z2 z3 0 (-1) z6 z7 z8 z9 z10 z11 z12 z13 z14 z15 z16 z17 z18 z19))]) [0] (by decide) rfl
  have hK9 := hK.sub (tys' := []) [] rfl
  exact W.iret (v := k1) hx hb hr (fun t ht hW => ⟨⟨k1, (), rfl, rfl, ⟨by rw [ht]; exact hP9, va_K.moved hW.alike hK9, hD9⟩⟩, hS.F ht⟩) hS.2.2 dX13_done_11
set_option maxHeartbeats 4000000 in
set_option maxRecDepth 100000 in
theorem m_refusedAt (l : Launch) (D : va_G) (sz : Nat) (za : Nat) (z0 : Int32) (z1 : Nat) (z2 : Int32) (z3 : Int32) (z4 : Int32) (z5 : Int32) (z6 : Nat) (z7 : Nat) (z8 : Nat) (z9 : Nat) (z10 : Int32) (z11 : Nat) (z12 : Nat) (z13 : Nat) (z14 : Nat) (z15 : Nat) (z16 : Int32) (z17 : Nat) (z18 : Int32) (z19 : Nat) (k1 : Int32) (k2 : Int32) : Met l yX13_refusedAt (wsM yX13_refusedAt cX13_refusedAt 3 (some .int)) ({ frames := 0, cells := 0, slots := 0, locals := 0 }) (va_Pc [.ref za, .int k1, .int k2] (Pr D [(za, (b13_0 z0 z1 z2 z3 z4 z5 z6 z7 z8 z9 z10 z11 z12 z13 z14 z15 z16 z17 z18 z19))] [] sz)) (va_Qi (fun (r : Int32) (_ : Unit) => r = (-1)) (fun _ t => Po D [(za, (b13_0 z0 z1 z2 z3 k1 k2 z6 z7 z8 z9 z10 z11 z12 z13 z14 z15 z16 z17 z18 z19))] [] (va_A [(za, (b13_0 z0 z1 z2 z3 z4 z5 z6 z7 z8 z9 z10 z11 z12 z13 z14 z15 z16 z17 z18 z19))] sz) t) (va_A [(za, (b13_0 z0 z1 z2 z3 z4 z5 z6 z7 z8 z9 z10 z11 z12 z13 z14 z15 z16 z17 z18 z19))] sz)) 0 0 (va_A [(za, (b13_0 z0 z1 z2 z3 z4 z5 z6 z7 z8 z9 z10 z11 z12 z13 z14 z15 z16 z17 z18 z19))] sz) := by
  refine Met.ofW (cc := cX13_refusedAt) (maxL := 3) (ret := (some .int)) (by decide) rfl ?_
  intro p e s m args below meth c s₁ B hml hv
  obtain ⟨rfl, hsz, hP, hK, hD0, hN⟩ := hv
  have hx := B.exec
  have hb := B.bytes
  have hr := B.returns
  have hts := atoms_spec (ws := (wsM yX13_refusedAt cX13_refusedAt 3 (some .int))) B.pre
  have hg : ∀ w ∈ lw_good, w.before _ s = true := fun w h => hts w (List.mem_cons_of_mem _ h)
  have hown : s.vm.findClass RX13 = some m.cls := findClass_of_methodNamed B.named
  have hlocks := B.notSynchronized
  subst hsz
  have hD := hD0.self (sz := s.heap.size)
  generalize hAe : va_A [(za, (b13_0 z0 z1 z2 z3 z4 z5 z6 z7 z8 z9 z10 z11 z12 z13 z14 z15 z16 z17 z18 z19))] s.heap.size = A at hD ⊢
  have hA : ∀ q : Nat, s.heap.size ≤ q → A q := fun q h => by rw [← hAe]; exact Or.inr h
  have hS : va_S A s.heap s.heap [] := va_S.rf
  have hP : va_P D vwCl [(za, (b13_0 z0 z1 z2 z3 z4 z5 z6 z7 z8 z9 z10 z11 z12 z13 z14 z15 z16 z17 z18 z19))] s.heap := hP
  have hl := lv_entry ([.ref za, .int k1, .int k2]) (n := 3) (Nat.le_of_ble_eq_true rfl)
  rw [lg_entry_eq]
  generalize (lg_sl ([.ref za, .int k1, .int k2]) ++ List.replicate (3 - (lg_sl ([.ref za, .int k1, .int k2])).length) Slot.unset).toArray = ls at hl ⊢
  have hl : lv_has ls 3 [(0, .ref za), (1, .int k1), (2, .int k2)] := hl
  refine lv_aload_n hx hb dX13_refusedAt_0 rfl (lv_at hl 0 rfl) ?_
  refine lv_iload_n hx hb dX13_refusedAt_1 rfl (lv_at hl 1 rfl) ?_
  refine va_put (D := D) (ci := 13) (v := .int k1) (ty := .int) (C := RX13) (T := TX13) (N := 20) hx hb hg inG13 tyX13 tyX13_ok nmX13 hown hK hP hD hS 0 rfl rfl 4 (by decide) (hg _ wd_710) (fun _ h9 => h9) rfl (by decide +kernel) rfl rfl (Nat.le_of_ble_eq_true rfl) dX13_refusedAt_2 (fun H_1 locs hP hD hS => ?_)
  have hP : va_P D vwCl [(za, (b13_0 z0 z1 z2 z3 k1 z5 z6 z7 z8 z9 z10 z11 z12 z13 z14 z15 z16 z17 z18 z19))] H_1 := hP
  have hD : va_D A [(za, (b13_0 z0 z1 z2 z3 k1 z5 z6 z7 z8 z9 z10 z11 z12 z13 z14 z15 z16 z17 z18 z19))] := hD
  refine lv_aload_n hx hb dX13_refusedAt_5 rfl (lv_at hl 0 rfl) ?_
  refine lv_iload_n hx hb dX13_refusedAt_6 rfl (lv_at hl 2 rfl) ?_
  refine va_put (D := D) (ci := 13) (v := .int k2) (ty := .int) (C := RX13) (T := TX13) (N := 20) hx hb hg inG13 tyX13 tyX13_ok nmX13 hown hK hP hD hS 0 rfl rfl 5 (by decide) (hg _ wd_711) (fun _ h9 => h9) rfl (by decide +kernel) rfl rfl (Nat.le_of_ble_eq_true rfl) dX13_refusedAt_7 (fun H_2 locs hP hD hS => ?_)
  have hP : va_P D vwCl [(za, (b13_0 z0 z1 z2 z3 k1 k2 z6 z7 z8 z9 z10 z11 z12 z13 z14 z15 z16 z17 z18 z19))] H_2 := hP
  have hD : va_D A [(za, (b13_0 z0 z1 z2 z3 k1 k2 z6 z7 z8 z9 z10 z11 z12 z13 z14 z15 z16 z17 z18 z19))] := hD
  refine lv_iconst (v := (-1)) hx hb dX13_refusedAt_10 (by decide) ?_
  have hP9 := hP.sub (ws' := [(za, (b13_0 z0 z1 z2 z3 k1 k2 z6 z7 z8 z9 z10 z11 z12 z13 z14 z15 z16 z17 z18 z19))]) [0] rfl
  have hD9 := hD.sub (ws' := [(za, (b13_0 z0 z1 z2 z3 k1 k2 z6 z7 z8 z9 z10 z11 z12 z13 z14 z15 z16 z17 z18 z19))]) [0] (by decide) rfl
  have hK9 := hK.sub (tys' := []) [] rfl
  exact W.iret (v := (-1)) hx hb hr (fun t ht hW => ⟨⟨(-1), (), rfl, rfl, ⟨by rw [ht]; exact hP9, va_K.moved hW.alike hK9, hD9⟩⟩, hS.F ht⟩) hS.2.2 dX13_refusedAt_11
set_option maxHeartbeats 4000000 in
set_option maxRecDepth 100000 in
theorem r_X13_isSum (l : Launch) (D : va_G) (cy : Nat → ClassId) (K : Kp) (L : List Nat) (M : Hp) (sz : Nat) (k1 : Int32) (hW : WOM cy K L M)  : Met l yX13_isSum (wsM yX13_isSum cX13_isSum 1 (some .boolean)) ({ frames := 0, cells := 0, slots := 0, locals := 0 }) (va_Pc [.int k1] (PG D cy [] L M sz)) (va_Qi (fun (r : Int32) (_ : Unit) => (r = 1) ∨ (r = 0)) (fun _ t => PQ D [] L M (va_A ([] ++ va_pl L M) sz) t) (va_A ([] ++ va_pl L M) sz)) 0 0 (va_A ([] ++ va_pl L M) sz) := by
  refine Met.ofW (cc := cX13_isSum) (maxL := 1) (ret := (some .boolean)) (by decide) rfl ?_
  intro p e s m args below meth c s₁ B hml hv
  obtain ⟨rfl, hsz, hP, hK, hD0, hN⟩ := hv
  have hx := B.exec
  have hb := B.bytes
  have hr := B.returns
  have hts := atoms_spec (ws := (wsM yX13_isSum cX13_isSum 1 (some .boolean))) B.pre
  have hg : ∀ w ∈ lw_good, w.before _ s = true := fun w h => hts w (List.mem_cons_of_mem _ h)
  have hown : s.vm.findClass RX13 = some m.cls := findClass_of_methodNamed B.named
  have hlocks := B.notSynchronized
  subst hsz
  have hD := hD0.self (sz := s.heap.size)
  generalize hAe : va_A ([] ++ va_pl L M) s.heap.size = A at hD ⊢
  have hA : ∀ q : Nat, s.heap.size ≤ q → A q := fun q h => by rw [← hAe]; exact Or.inr h
  have hS : va_S A s.heap s.heap [] := va_S.rf
  have hl := lv_entry ([.int k1]) (n := 1) (Nat.le_of_ble_eq_true rfl)
  rw [lg_entry_eq]
  generalize (lg_sl ([.int k1]) ++ List.replicate (1 - (lg_sl ([.int k1])).length) Slot.unset).toArray = ls at hl ⊢
  refine W.nameQ (fun Q hQ => ?_)
  refine W.nameR (fun R hR => ?_)
  have hRf : 0 ≤ R.frames := by rw [hR]; exact Nat.le_of_ble_eq_true rfl
  have hRl : 0 ≤ R.locals := by rw [hR]; exact Nat.le_of_ble_eq_true rfl
  have hRc : 0 ≤ R.cells := by rw [hR]; exact Nat.le_of_ble_eq_true rfl
  have hRs : 0 ≤ R.slots := by rw [hR]; exact Nat.le_of_ble_eq_true rfl
  have hl : lv_has ls 1 [(0, .int k1)] := hl
  refine lv_iload_n hx hb dX13_isSum_0 rfl (lv_at hl 0 rfl) ?_
  refine lv_if_le (tgt := 14) hx hb dX13_isSum_1 (by decide) (fun c_1 => ?_) (fun c_1 => ?_)
  · have hz := rfl (a := 0)
    refine lv_iconst (v := 0) hx hb dX13_isSum_14 (by decide) ?_
    rw [hQ]
    exact W.zret (v := 0) hx hb hr rfl (fun t ht hW9 => ⟨⟨0, (), rfl, (Or.inr rfl), ⟨by rw [ht]; exact hP, hD⟩⟩, hS.F ht⟩) hS.2.2 dX13_isSum_15
  · have hz := rfl (a := 0)
    have n_2 : ¬ k1 < 0 := gtN (c := 0) (by omega) (Int32.not_le.mp c_1)
    refine lv_iload_n hx hb dX13_isSum_4 rfl (lv_at hl 0 rfl) ?_
    refine lv_ldc (v := 1000000000) hx hb hown (hg _ wd_712) dX13_isSum_5 ?_
    refine lv_icmp_gt (tgt := 14) hx hb dX13_isSum_7 (by decide) (fun c_3 => ?_) (fun c_3 => ?_)
    · have hz := rfl (a := 0)
      have n_4 : ¬ k1 < 0 := gtN (c := 1000000000) (by omega) c_3
      refine lv_iconst (v := 0) hx hb dX13_isSum_14 (by decide) ?_
      rw [hQ]
      exact W.zret (v := 0) hx hb hr rfl (fun t ht hW9 => ⟨⟨0, (), rfl, (Or.inr rfl), ⟨by rw [ht]; exact hP, hD⟩⟩, hS.F ht⟩) hS.2.2 dX13_isSum_15
    · have hz := rfl (a := 0)
      refine lv_iconst (v := 1) hx hb dX13_isSum_10 (by decide) ?_
      refine lv_goto (tgt := 15) hx hb dX13_isSum_11 (by decide) ?_
      rw [hQ]
      exact W.zret (v := 1) hx hb hr rfl (fun t ht hW9 => ⟨⟨1, (), rfl, (Or.inl rfl), ⟨by rw [ht]; exact hP, hD⟩⟩, hS.F ht⟩) hS.2.2 dX13_isSum_15
set_option maxHeartbeats 4000000 in
set_option maxRecDepth 100000 in
theorem r_X13_isHouse (l : Launch) (D : va_G) (cy : Nat → ClassId) (K : Kp) (L : List Nat) (M : Hp) (sz : Nat) (za : Nat) (z0 : Int32) (z1 : Nat) (z2 : Nat) (z3 : Nat) (z4 : Int32) (z5 : Int32) (z6 : Nat) (z7 : Nat) (z8 : Nat) (z9 : Nat) (z10 : Nat) (z11 : Nat) (z12 : Nat) (z13 : Nat) (z14 : Nat) (z15 : Nat) (z16 : Nat) (z17 : Nat) (z18 : Int32) (z19 : Nat) (k1 : Int32) (hW : WOM cy K L M) (i1 : isk K L z1 23 8) (b2 : z2 ≤ 8) (b3 : z3 ≤ 40) (i6 : isk K L z6 47 40) (i7 : isk K L z7 48 40) (i8 : isk K L z8 49 8) (i9 : isk K L z9 50 8) (b10 : z10 ≤ 8) (i11 : isk K L z11 32 24) (i12 : isk K L z12 14 24) (i13 : isk K L z13 97 24) (i14 : isk K L z14 98 24) (i15 : isk K L z15 99 24) (b16 : z16 ≤ 24) (i17 : isk K L z17 14 24) (i19 : isk K L z19 15 25) : Met l yX13_isHouse (wsM yX13_isHouse cX13_isHouse 2 (some .boolean)) ({ frames := 0, cells := 0, slots := 0, locals := 0 }) (va_Pc [.ref za, .int k1] (PG D cy [(za, (b13_0 z0 z1 (nI z2) (nI z3) z4 z5 z6 z7 z8 z9 (nI z10) z11 z12 z13 z14 z15 (nI z16) z17 z18 z19))] L M sz)) (va_Qi (fun (r : Int32) (_ : Unit) => (r = 1 ∧ ¬ k1 < 0 ∧ ¬ (nI z2) ≤ k1) ∨ (r = 0)) (fun _ t => PQ D [(za, (b13_0 z0 z1 (nI z2) (nI z3) z4 z5 z6 z7 z8 z9 (nI z10) z11 z12 z13 z14 z15 (nI z16) z17 z18 z19))] L M (va_A ([(za, (b13_0 z0 z1 (nI z2) (nI z3) z4 z5 z6 z7 z8 z9 (nI z10) z11 z12 z13 z14 z15 (nI z16) z17 z18 z19))] ++ va_pl L M) sz) t) (va_A ([(za, (b13_0 z0 z1 (nI z2) (nI z3) z4 z5 z6 z7 z8 z9 (nI z10) z11 z12 z13 z14 z15 (nI z16) z17 z18 z19))] ++ va_pl L M) sz)) 0 0 (va_A ([(za, (b13_0 z0 z1 (nI z2) (nI z3) z4 z5 z6 z7 z8 z9 (nI z10) z11 z12 z13 z14 z15 (nI z16) z17 z18 z19))] ++ va_pl L M) sz) := by
  refine Met.ofW (cc := cX13_isHouse) (maxL := 2) (ret := (some .boolean)) (by decide) rfl ?_
  intro p e s m args below meth c s₁ B hml hv
  obtain ⟨rfl, hsz, hP, hK, hD0, hN⟩ := hv
  have hx := B.exec
  have hb := B.bytes
  have hr := B.returns
  have hts := atoms_spec (ws := (wsM yX13_isHouse cX13_isHouse 2 (some .boolean))) B.pre
  have hg : ∀ w ∈ lw_good, w.before _ s = true := fun w h => hts w (List.mem_cons_of_mem _ h)
  have hown : s.vm.findClass RX13 = some m.cls := findClass_of_methodNamed B.named
  have hlocks := B.notSynchronized
  subst hsz
  have hD := hD0.self (sz := s.heap.size)
  generalize hAe : va_A ([(za, (b13_0 z0 z1 (nI z2) (nI z3) z4 z5 z6 z7 z8 z9 (nI z10) z11 z12 z13 z14 z15 (nI z16) z17 z18 z19))] ++ va_pl L M) s.heap.size = A at hD ⊢
  have hA : ∀ q : Nat, s.heap.size ≤ q → A q := fun q h => by rw [← hAe]; exact Or.inr h
  have hS : va_S A s.heap s.heap [] := va_S.rf
  have hl := lv_entry ([.ref za, .int k1]) (n := 2) (Nat.le_of_ble_eq_true rfl)
  rw [lg_entry_eq]
  generalize (lg_sl ([.ref za, .int k1]) ++ List.replicate (2 - (lg_sl ([.ref za, .int k1])).length) Slot.unset).toArray = ls at hl ⊢
  refine W.nameQ (fun Q hQ => ?_)
  refine W.nameR (fun R hR => ?_)
  have hRf : 0 ≤ R.frames := by rw [hR]; exact Nat.le_of_ble_eq_true rfl
  have hRl : 0 ≤ R.locals := by rw [hR]; exact Nat.le_of_ble_eq_true rfl
  have hRc : 0 ≤ R.cells := by rw [hR]; exact Nat.le_of_ble_eq_true rfl
  have hRs : 0 ≤ R.slots := by rw [hR]; exact Nat.le_of_ble_eq_true rfl
  have hl : lv_has ls 2 [(0, .ref za), (1, .int k1)] := hl
  refine lv_iload_n hx hb dX13_isHouse_0 rfl (lv_at hl 1 rfl) ?_
  refine lv_if_lt (tgt := 16) hx hb dX13_isHouse_1 (by decide) (fun c_1 => ?_) (fun c_1 => ?_)
  · have hz := rfl (a := 0)
    refine lv_iconst (v := 0) hx hb dX13_isHouse_16 (by decide) ?_
    rw [hQ]
    exact W.zret (v := 0) hx hb hr rfl (fun t ht hW9 => ⟨⟨0, (), rfl, (Or.inr rfl), ⟨by rw [ht]; exact hP, hD⟩⟩, hS.F ht⟩) hS.2.2 dX13_isHouse_17
  · have hz := rfl (a := 0)
    refine lv_iload_n hx hb dX13_isHouse_4 rfl (lv_at hl 1 rfl) ?_
    refine lv_aload_n hx hb dX13_isHouse_5 rfl (lv_at hl 0 rfl) ?_
    refine va_get (D := D) (ci := 13) (v := .int (nI z2)) (C := RX13) (T := TX13) (N := 20) hx hb hg inG13 hown hK hP 0 rfl rfl 2 (by decide) (hg _ wd_713) (fun _ h9 => h9) rfl dX13_isHouse_6 ?_
    refine lv_icmp_ge (tgt := 16) hx hb dX13_isHouse_9 (by decide) (fun c_2 => ?_) (fun c_2 => ?_)
    · have hz := rfl (a := 0)
      refine lv_iconst (v := 0) hx hb dX13_isHouse_16 (by decide) ?_
      rw [hQ]
      exact W.zret (v := 0) hx hb hr rfl (fun t ht hW9 => ⟨⟨0, (), rfl, (Or.inr rfl), ⟨by rw [ht]; exact hP, hD⟩⟩, hS.F ht⟩) hS.2.2 dX13_isHouse_17
    · have hz := rfl (a := 0)
      refine lv_iconst (v := 1) hx hb dX13_isHouse_12 (by decide) ?_
      refine lv_goto (tgt := 17) hx hb dX13_isHouse_13 (by decide) ?_
      rw [hQ]
      exact W.zret (v := 1) hx hb hr rfl (fun t ht hW9 => ⟨⟨1, (), rfl, (Or.inl ⟨rfl, c_1, c_2⟩), ⟨by rw [ht]; exact hP, hD⟩⟩, hS.F ht⟩) hS.2.2 dX13_isHouse_17
set_option maxHeartbeats 4000000 in
set_option maxRecDepth 100000 in
theorem r_X13_isSeat (l : Launch) (D : va_G) (cy : Nat → ClassId) (K : Kp) (L : List Nat) (M : Hp) (sz : Nat) (za : Nat) (z0 : Int32) (z1 : Nat) (z2 : Nat) (z3 : Nat) (z4 : Int32) (z5 : Int32) (z6 : Nat) (z7 : Nat) (z8 : Nat) (z9 : Nat) (z10 : Nat) (z11 : Nat) (z12 : Nat) (z13 : Nat) (z14 : Nat) (z15 : Nat) (z16 : Nat) (z17 : Nat) (z18 : Int32) (z19 : Nat) (k1 : Int32) (k2 : Int32) (hW : WOM cy K L M) (i1 : isk K L z1 23 8) (b2 : z2 ≤ 8) (b3 : z3 ≤ 40) (i6 : isk K L z6 47 40) (i7 : isk K L z7 48 40) (i8 : isk K L z8 49 8) (i9 : isk K L z9 50 8) (b10 : z10 ≤ 8) (i11 : isk K L z11 32 24) (i12 : isk K L z12 14 24) (i13 : isk K L z13 97 24) (i14 : isk K L z14 98 24) (i15 : isk K L z15 99 24) (b16 : z16 ≤ 24) (i17 : isk K L z17 14 24) (i19 : isk K L z19 15 25) : Met l yX13_isSeat (wsM yX13_isSeat cX13_isSeat 3 (some .boolean)) ({ frames := 1, cells := 0, slots := 0, locals := 21 }) (va_Pc [.ref za, .int k1, .int k2] (PG D cy [(za, (b13_0 z0 z1 (nI z2) (nI z3) z4 z5 z6 z7 z8 z9 (nI z10) z11 z12 z13 z14 z15 (nI z16) z17 z18 z19))] L M sz)) (va_Qi (fun (r : Int32) (_ : Unit) => (r = 1 ∧ ¬ k1 < 0 ∧ ¬ (nI z2) ≤ k1 ∧ ¬ k2 < 0 ∧ ¬ 6 ≤ k2) ∨ (r = 0)) (fun _ t => PQ D [(za, (b13_0 z0 z1 (nI z2) (nI z3) z4 z5 z6 z7 z8 z9 (nI z10) z11 z12 z13 z14 z15 (nI z16) z17 z18 z19))] L M (va_A ([(za, (b13_0 z0 z1 (nI z2) (nI z3) z4 z5 z6 z7 z8 z9 (nI z10) z11 z12 z13 z14 z15 (nI z16) z17 z18 z19))] ++ va_pl L M) sz) t) (va_A ([(za, (b13_0 z0 z1 (nI z2) (nI z3) z4 z5 z6 z7 z8 z9 (nI z10) z11 z12 z13 z14 z15 (nI z16) z17 z18 z19))] ++ va_pl L M) sz)) 0 0 (va_A ([(za, (b13_0 z0 z1 (nI z2) (nI z3) z4 z5 z6 z7 z8 z9 (nI z10) z11 z12 z13 z14 z15 (nI z16) z17 z18 z19))] ++ va_pl L M) sz) := by
  refine Met.ofW (cc := cX13_isSeat) (maxL := 3) (ret := (some .boolean)) (by decide) rfl ?_
  intro p e s m args below meth c s₁ B hml hv
  obtain ⟨rfl, hsz, hP, hK, hD0, hN⟩ := hv
  have hx := B.exec
  have hb := B.bytes
  have hr := B.returns
  have hts := atoms_spec (ws := (wsM yX13_isSeat cX13_isSeat 3 (some .boolean))) B.pre
  have hg : ∀ w ∈ lw_good, w.before _ s = true := fun w h => hts w (List.mem_cons_of_mem _ h)
  have hown : s.vm.findClass RX13 = some m.cls := findClass_of_methodNamed B.named
  have hlocks := B.notSynchronized
  subst hsz
  have hD := hD0.self (sz := s.heap.size)
  generalize hAe : va_A ([(za, (b13_0 z0 z1 (nI z2) (nI z3) z4 z5 z6 z7 z8 z9 (nI z10) z11 z12 z13 z14 z15 (nI z16) z17 z18 z19))] ++ va_pl L M) s.heap.size = A at hD ⊢
  have hA : ∀ q : Nat, s.heap.size ≤ q → A q := fun q h => by rw [← hAe]; exact Or.inr h
  have hS : va_S A s.heap s.heap [] := va_S.rf
  have hl := lv_entry ([.ref za, .int k1, .int k2]) (n := 3) (Nat.le_of_ble_eq_true rfl)
  rw [lg_entry_eq]
  generalize (lg_sl ([.ref za, .int k1, .int k2]) ++ List.replicate (3 - (lg_sl ([.ref za, .int k1, .int k2])).length) Slot.unset).toArray = ls at hl ⊢
  refine W.nameQ (fun Q hQ => ?_)
  refine W.nameR (fun R hR => ?_)
  have hRf : 1 ≤ R.frames := by rw [hR]; exact Nat.le_of_ble_eq_true rfl
  have hRl : 21 ≤ R.locals := by rw [hR]; exact Nat.le_of_ble_eq_true rfl
  have hRc : 0 ≤ R.cells := by rw [hR]; exact Nat.le_of_ble_eq_true rfl
  have hRs : 0 ≤ R.slots := by rw [hR]; exact Nat.le_of_ble_eq_true rfl
  have hl : lv_has ls 3 [(0, .ref za), (1, .int k1), (2, .int k2)] := hl
  refine lv_aload_n hx hb dX13_isSeat_0 rfl (lv_at hl 0 rfl) ?_
  refine lv_iload_n hx hb dX13_isSeat_1 rfl (lv_at hl 1 rfl) ?_
  have hPc : va_P D vwCl ([(za, (b13_0 z0 z1 (nI z2) (nI z3) z4 z5 z6 z7 z8 z9 (nI z10) z11 z12 z13 z14 z15 (nI z16) z17 z18 z19))] ++ va_pl L M) s.heap := hP
  have hDc : va_D A ([(za, (b13_0 z0 z1 (nI z2) (nI z3) z4 z5 z6 z7 z8 z9 (nI z10) z11 z12 z13 z14 z15 (nI z16) z17 z18 z19))] ++ va_pl L M) := hD
  have hFc : ∀ q, va_A ([(za, (b13_0 z0 z1 (nI z2) (nI z3) z4 z5 z6 z7 z8 z9 (nI z10) z11 z12 z13 z14 z15 (nI z16) z17 z18 z19))] ++ va_pl L M) s.heap.size q → A q := pg_free hDc hS hA
  refine va_calli (va_runV (As := [.int k1]) (rest := []) ⟨hx, hb, hml, hown, hg⟩ (r_X13_isHouse l D cy K L M s.heap.size za z0 z1 z2 z3 z4 z5 z6 z7 z8 z9 z10 z11 z12 z13 z14 z15 z16 z17 z18 z19 k1  hW i1 b2 b3 i6 i7 i8 i9 b10 i11 i12 i13 i14 i15 b16 i17 i19) (cwV 1 hg (gV wd_714 wd_715 wd_716 wd_717 wd_718) rfl rfl rfl (by decide +kernel) ⟨(Nat.le_trans (Nat.le_of_ble_eq_true rfl) hRf), (Nat.le_trans (Nat.le_of_ble_eq_true rfl) hRl)⟩) ⟨PG.blind, va_recv hK hP (ci := 13) (q0 := 0) rfl rfl, fun U hU hW => ⟨rfl, PG.at hPc hK hDc hN hU hW⟩⟩ rfl rfl hl.1 rfl (lv_room (Nat.le_of_ble_eq_true rfl)) dX13_isSeat_2 ⟨(Nat.le_trans (Nat.le_of_ble_eq_true rfl) hRc), (Nat.le_trans (Nat.le_of_ble_eq_true rfl) hRs)⟩) hS (fun q _ h => hFc q h) hFc (fun r_2 M_3 t H_1 locs ht hvm hw hB hz1 hk1 hS => ?_)
  have hp_4 := hw
  obtain ⟨hP1, hD1⟩ := hB
  rw [ht] at hP1
  have hP : va_P D vwCl ([(za, (b13_0 z0 z1 (nI z2) (nI z3) z4 z5 z6 z7 z8 z9 (nI z10) z11 z12 z13 z14 z15 (nI z16) z17 z18 z19))] ++ va_pl L M) H_1 := hP1
  have hD : va_D A ([(za, (b13_0 z0 z1 (nI z2) (nI z3) z4 z5 z6 z7 z8 z9 (nI z10) z11 z12 z13 z14 z15 (nI z16) z17 z18 z19))] ++ va_pl L M) := hD1.mono hFc
  rcases hp_4 with ⟨rfl, c_5, c_6⟩ | rfl
  · have hz := rfl (a := 0)
    refine lv_if_eq (tgt := 22) hx hb dX13_isSeat_5 (by decide) (fun c_7 => absurd c_7 (by decide)) (fun _ => ?_)
    refine lv_iload_n hx hb dX13_isSeat_8 rfl (lv_at hl 2 rfl) ?_
    refine lv_if_lt (tgt := 22) hx hb dX13_isSeat_9 (by decide) (fun c_8 => ?_) (fun c_8 => ?_)
    · have hz := rfl (a := 0)
      refine lv_iconst (v := 0) hx hb dX13_isSeat_22 (by decide) ?_
      rw [hQ]
      exact W.zret (v := 0) hx hb hr rfl (fun t ht hW9 => ⟨⟨0, (), rfl, (Or.inr rfl), ⟨by rw [ht]; exact hP, hD⟩⟩, hS.F ht⟩) hS.2.2 dX13_isSeat_23
    · have hz := rfl (a := 0)
      refine lv_iload_n hx hb dX13_isSeat_12 rfl (lv_at hl 2 rfl) ?_
      refine lv_bipush (v := 6) hx hb dX13_isSeat_13 (by decide) ?_
      refine lv_icmp_ge (tgt := 22) hx hb dX13_isSeat_15 (by decide) (fun c_9 => ?_) (fun c_9 => ?_)
      · have hz := rfl (a := 0)
        refine lv_iconst (v := 0) hx hb dX13_isSeat_22 (by decide) ?_
        rw [hQ]
        exact W.zret (v := 0) hx hb hr rfl (fun t ht hW9 => ⟨⟨0, (), rfl, (Or.inr rfl), ⟨by rw [ht]; exact hP, hD⟩⟩, hS.F ht⟩) hS.2.2 dX13_isSeat_23
      · have hz := rfl (a := 0)
        refine lv_iconst (v := 1) hx hb dX13_isSeat_18 (by decide) ?_
        refine lv_goto (tgt := 23) hx hb dX13_isSeat_19 (by decide) ?_
        rw [hQ]
        exact W.zret (v := 1) hx hb hr rfl (fun t ht hW9 => ⟨⟨1, (), rfl, (Or.inl ⟨rfl, c_5, c_6, c_8, c_9⟩), ⟨by rw [ht]; exact hP, hD⟩⟩, hS.F ht⟩) hS.2.2 dX13_isSeat_23
  · have hz := rfl (a := 0)
    refine lv_if_eq (tgt := 22) hx hb dX13_isSeat_5 (by decide) (fun _ => ?_) (fun c_10 => absurd c_10 (by decide))
    refine lv_iconst (v := 0) hx hb dX13_isSeat_22 (by decide) ?_
    rw [hQ]
    exact W.zret (v := 0) hx hb hr rfl (fun t ht hW9 => ⟨⟨0, (), rfl, (Or.inr rfl), ⟨by rw [ht]; exact hP, hD⟩⟩, hS.F ht⟩) hS.2.2 dX13_isSeat_23
set_option maxHeartbeats 4000000 in
set_option maxRecDepth 100000 in
theorem r_X13_isLimited (l : Launch) (D : va_G) (cy : Nat → ClassId) (K : Kp) (L : List Nat) (M : Hp) (sz : Nat) (za : Nat) (z0 : Int32) (z1 : Nat) (z2 : Nat) (z3 : Nat) (z4 : Int32) (z5 : Int32) (z6 : Nat) (z7 : Nat) (z8 : Nat) (z9 : Nat) (z10 : Nat) (z11 : Nat) (z12 : Nat) (z13 : Nat) (z14 : Nat) (z15 : Nat) (z16 : Nat) (z17 : Nat) (z18 : Int32) (z19 : Nat) (k1 : Nat) (k2 : Nat) (hW : WOM cy K L M) (i1 : isk K L z1 23 8) (b2 : z2 ≤ 8) (b3 : z3 ≤ 40) (i6 : isk K L z6 47 40) (i7 : isk K L z7 48 40) (i8 : isk K L z8 49 8) (i9 : isk K L z9 50 8) (b10 : z10 ≤ 8) (i11 : isk K L z11 32 24) (i12 : isk K L z12 14 24) (i13 : isk K L z13 97 24) (i14 : isk K L z14 98 24) (i15 : isk K L z15 99 24) (b16 : z16 ≤ 24) (i17 : isk K L z17 14 24) (i19 : isk K L z19 15 25) (ik1 : isk K L k1 12 0) (nk2 : k2 < 24) : Met l yX13_isLimited (wsM yX13_isLimited cX13_isLimited 4 (some .boolean)) ({ frames := 0, cells := 0, slots := 0, locals := 0 }) (va_Pc [.ref za, .ref k1, .int (nI k2)] (PG D cy [(za, (b13_0 z0 z1 (nI z2) (nI z3) z4 z5 z6 z7 z8 z9 (nI z10) z11 z12 z13 z14 z15 (nI z16) z17 z18 z19))] L M sz)) (va_Qi (fun (r : Int32) (_ : Unit) => (r = 1) ∨ (r = 0)) (fun _ t => PQ D [(za, (b13_0 z0 z1 (nI z2) (nI z3) z4 z5 z6 z7 z8 z9 (nI z10) z11 z12 z13 z14 z15 (nI z16) z17 z18 z19))] L M (va_A ([(za, (b13_0 z0 z1 (nI z2) (nI z3) z4 z5 z6 z7 z8 z9 (nI z10) z11 z12 z13 z14 z15 (nI z16) z17 z18 z19))] ++ va_pl L M) sz) t) (va_A ([(za, (b13_0 z0 z1 (nI z2) (nI z3) z4 z5 z6 z7 z8 z9 (nI z10) z11 z12 z13 z14 z15 (nI z16) z17 z18 z19))] ++ va_pl L M) sz)) 0 0 (va_A ([(za, (b13_0 z0 z1 (nI z2) (nI z3) z4 z5 z6 z7 z8 z9 (nI z10) z11 z12 z13 z14 z15 (nI z16) z17 z18 z19))] ++ va_pl L M) sz) := by
  refine Met.ofW (cc := cX13_isLimited) (maxL := 4) (ret := (some .boolean)) (by decide) rfl ?_
  intro p e s m args below meth c s₁ B hml hv
  obtain ⟨rfl, hsz, hP, hK, hD0, hN⟩ := hv
  have hx := B.exec
  have hb := B.bytes
  have hr := B.returns
  have hts := atoms_spec (ws := (wsM yX13_isLimited cX13_isLimited 4 (some .boolean))) B.pre
  have hg : ∀ w ∈ lw_good, w.before _ s = true := fun w h => hts w (List.mem_cons_of_mem _ h)
  have hown : s.vm.findClass RX13 = some m.cls := findClass_of_methodNamed B.named
  have hlocks := B.notSynchronized
  subst hsz
  have hD := hD0.self (sz := s.heap.size)
  generalize hAe : va_A ([(za, (b13_0 z0 z1 (nI z2) (nI z3) z4 z5 z6 z7 z8 z9 (nI z10) z11 z12 z13 z14 z15 (nI z16) z17 z18 z19))] ++ va_pl L M) s.heap.size = A at hD ⊢
  have hA : ∀ q : Nat, s.heap.size ≤ q → A q := fun q h => by rw [← hAe]; exact Or.inr h
  have hS : va_S A s.heap s.heap [] := va_S.rf
  have hl := lv_entry ([.ref za, .ref k1, .int (nI k2)]) (n := 4) (Nat.le_of_ble_eq_true rfl)
  rw [lg_entry_eq]
  generalize (lg_sl ([.ref za, .ref k1, .int (nI k2)]) ++ List.replicate (4 - (lg_sl ([.ref za, .ref k1, .int (nI k2)])).length) Slot.unset).toArray = ls at hl ⊢
  refine W.nameQ (fun Q hQ => ?_)
  refine W.nameR (fun R hR => ?_)
  have hRf : 0 ≤ R.frames := by rw [hR]; exact Nat.le_of_ble_eq_true rfl
  have hRl : 0 ≤ R.locals := by rw [hR]; exact Nat.le_of_ble_eq_true rfl
  have hRc : 0 ≤ R.cells := by rw [hR]; exact Nat.le_of_ble_eq_true rfl
  have hRs : 0 ≤ R.slots := by rw [hR]; exact Nat.le_of_ble_eq_true rfl
  have hl : lv_has ls 4 [(0, .ref za), (1, .ref k1), (2, .int (nI k2))] := hl
  refine lv_aload_n hx hb dX13_isLimited_0 rfl (lv_at hl 0 rfl) ?_
  refine va_get (D := D) (ci := 13) (v := .ref z6) (C := RX13) (T := TX13) (N := 20) hx hb hg inG13 hown hK hP 0 rfl rfl 6 (by decide) (hg _ wd_719) (fun _ h9 => h9) rfl dX13_isLimited_1 ?_
  refine lv_aload_n hx hb dX13_isLimited_4 rfl (lv_at hl 1 rfl) ?_
  obtain ⟨fs1, hM1, hn1, hl1⟩ := hW.open_12 ik1
  obtain ⟨v2, hv2, hc2⟩ : ∃ v : Nat, fs1[19]? = some (.ref v : Value) ∧ isk K L v 30 24 := hl1 19 (by decide)
  refine pg_getN (D := D) (ci := 12) (v := .ref v2) (C := RX12) (T := TX12) (N := 51) hx hb hg inG12 hown hK hP ik1.1 hM1 rfl 19 (by decide) (hN.use (Cond.fieldLinkNest RX13 72 RX12 "who" "[I" RX13) 28 rfl rfl) (fun _ h9 => h9) hv2 dX13_isLimited_5 ?_
  refine lv_iload_n hx hb dX13_isLimited_8 rfl (lv_at hl 2 rfl) ?_
  obtain ⟨f3, hM3, hf3⟩ := hW.open_30 hc2
  have hi_4 : vp_in (nI k2) 24 := (inbN k2 24 (by omega) (by omega))
  refine pg_iald hx hb hK hP hc2.1 0 hM3 rfl hi_4 dX13_isLimited_9 ?_
  have hp_5 := hf3 _ (vp_lt hi_4)
  obtain ⟨c_6, hc_7, ec_8⟩ := hp_5
  rw [ec_8]
  obtain ⟨f9, hM9, hf9⟩ := hW.open_47 i6
  have hi_10 : vp_in (nI c_6) 40 := (inbN c_6 40 (by omega) (by omega))
  refine pg_iald hx hb hK hP i6.1 0 hM9 rfl hi_10 dX13_isLimited_10 ?_
  have hp_11 := hf9 _ (vp_lt hi_10)
  obtain ⟨c_12, hc_13, ec_14⟩ := hp_11
  rw [ec_14]
  refine lv_istore_n (lv' := [(3, .int (nI c_12)), (0, .ref za), (1, .ref k1), (2, .int (nI k2))]) hx hb dX13_isLimited_11 rfl hl (by decide) rfl (fun ls hl => ?_)
  refine lv_iload_n hx hb dX13_isLimited_12 rfl (lv_at hl 0 rfl) ?_
  refine lv_iconst (v := 1) hx hb dX13_isLimited_13 (by decide) ?_
  refine lv_icmp_eq (tgt := 27) hx hb dX13_isLimited_14 (by decide) (fun c_15 => ?_) (fun c_15 => ?_)
  · have hz := rfl (a := 0)
    have n_16 : c_12 = 1 := (iEQ (a := c_12) (b := 1) (by omega) (by omega)).mp c_15
    refine lv_iconst (v := 1) hx hb dX13_isLimited_27 (by decide) ?_
    refine lv_goto (tgt := 32) hx hb dX13_isLimited_28 (by decide) ?_
    rw [hQ]
    exact W.zret (v := 1) hx hb hr rfl (fun t ht hW9 => ⟨⟨1, (), rfl, (Or.inl rfl), ⟨by rw [ht]; exact hP, hD⟩⟩, hS.F ht⟩) hS.2.2 dX13_isLimited_32
  · have hz := rfl (a := 0)
    have n_17 : ¬ (c_12 = 1) := fun q => c_15 ((iEQ (a := c_12) (b := 1) (by omega) (by omega)).mpr q)
    refine lv_iload_n hx hb dX13_isLimited_17 rfl (lv_at hl 0 rfl) ?_
    refine lv_iconst (v := 2) hx hb dX13_isLimited_18 (by decide) ?_
    refine lv_icmp_eq (tgt := 27) hx hb dX13_isLimited_19 (by decide) (fun c_18 => ?_) (fun c_18 => ?_)
    · have hz := rfl (a := 0)
      have n_19 : c_12 = 2 := (iEQ (a := c_12) (b := 2) (by omega) (by omega)).mp c_18
      refine lv_iconst (v := 1) hx hb dX13_isLimited_27 (by decide) ?_
      refine lv_goto (tgt := 32) hx hb dX13_isLimited_28 (by decide) ?_
      rw [hQ]
      exact W.zret (v := 1) hx hb hr rfl (fun t ht hW9 => ⟨⟨1, (), rfl, (Or.inl rfl), ⟨by rw [ht]; exact hP, hD⟩⟩, hS.F ht⟩) hS.2.2 dX13_isLimited_32
    · have hz := rfl (a := 0)
      have n_20 : ¬ (c_12 = 2) := fun q => c_18 ((iEQ (a := c_12) (b := 2) (by omega) (by omega)).mpr q)
      refine lv_iload_n hx hb dX13_isLimited_22 rfl (lv_at hl 0 rfl) ?_
      refine lv_iconst (v := 4) hx hb dX13_isLimited_23 (by decide) ?_
      refine lv_icmp_ne (tgt := 31) hx hb dX13_isLimited_24 (by decide) (fun c_21 => ?_) (fun c_21 => ?_)
      · have hz := rfl (a := 0)
        have n_22 : ¬ (c_12 = 4) := fun q => c_21 ((iEQ (a := c_12) (b := 4) (by omega) (by omega)).mpr q)
        refine lv_iconst (v := 0) hx hb dX13_isLimited_31 (by decide) ?_
        rw [hQ]
        exact W.zret (v := 0) hx hb hr rfl (fun t ht hW9 => ⟨⟨0, (), rfl, (Or.inr rfl), ⟨by rw [ht]; exact hP, hD⟩⟩, hS.F ht⟩) hS.2.2 dX13_isLimited_32
      · have hz := rfl (a := 0)
        have n_23 : c_12 = 4 := (iEQ (a := c_12) (b := 4) (by omega) (by omega)).mp c_21
        refine lv_iconst (v := 1) hx hb dX13_isLimited_27 (by decide) ?_
        refine lv_goto (tgt := 32) hx hb dX13_isLimited_28 (by decide) ?_
        rw [hQ]
        exact W.zret (v := 1) hx hb hr rfl (fun t ht hW9 => ⟨⟨1, (), rfl, (Or.inl rfl), ⟨by rw [ht]; exact hP, hD⟩⟩, hS.F ht⟩) hS.2.2 dX13_isLimited_32
set_option maxHeartbeats 4000000 in
set_option maxRecDepth 100000 in
theorem r_X13_borne (l : Launch) (D : va_G) (cy : Nat → ClassId) (K : Kp) (L : List Nat) (M : Hp) (sz : Nat) (za : Nat) (z0 : Int32) (z1 : Nat) (z2 : Nat) (z3 : Nat) (z4 : Int32) (z5 : Int32) (z6 : Nat) (z7 : Nat) (z8 : Nat) (z9 : Nat) (z10 : Nat) (z11 : Nat) (z12 : Nat) (z13 : Nat) (z14 : Nat) (z15 : Nat) (z16 : Nat) (z17 : Nat) (z18 : Int32) (z19 : Nat) (k1 : Int32) (hW : WOM cy K L M) (i1 : isk K L z1 23 8) (b2 : z2 ≤ 8) (b3 : z3 ≤ 40) (i6 : isk K L z6 47 40) (i7 : isk K L z7 48 40) (i8 : isk K L z8 49 8) (i9 : isk K L z9 50 8) (b10 : z10 ≤ 8) (i11 : isk K L z11 32 24) (i12 : isk K L z12 14 24) (i13 : isk K L z13 97 24) (i14 : isk K L z14 98 24) (i15 : isk K L z15 99 24) (b16 : z16 ≤ 24) (i17 : isk K L z17 14 24) (i19 : isk K L z19 15 25) : Met l yX13_borne (wsM yX13_borne cX13_borne 2 (some .int)) ({ frames := 0, cells := 0, slots := 0, locals := 0 }) (va_Pc [.ref za, .int k1] (PG D cy [(za, (b13_0 z0 z1 (nI z2) (nI z3) z4 z5 z6 z7 z8 z9 (nI z10) z11 z12 z13 z14 z15 (nI z16) z17 z18 z19))] L M sz)) (va_Qi (fun (r : Int32) (_ : Unit) => True) (fun _ t => PQ D [(za, (b13_0 0 z1 (nI z2) (nI z3) z4 z5 z6 z7 z8 z9 (nI z10) z11 z12 z13 z14 z15 (nI z16) z17 z18 z19))] L M (va_A ([(za, (b13_0 z0 z1 (nI z2) (nI z3) z4 z5 z6 z7 z8 z9 (nI z10) z11 z12 z13 z14 z15 (nI z16) z17 z18 z19))] ++ va_pl L M) sz) t) (va_A ([(za, (b13_0 z0 z1 (nI z2) (nI z3) z4 z5 z6 z7 z8 z9 (nI z10) z11 z12 z13 z14 z15 (nI z16) z17 z18 z19))] ++ va_pl L M) sz)) 0 0 (va_A ([(za, (b13_0 z0 z1 (nI z2) (nI z3) z4 z5 z6 z7 z8 z9 (nI z10) z11 z12 z13 z14 z15 (nI z16) z17 z18 z19))] ++ va_pl L M) sz) := by
  refine Met.ofW (cc := cX13_borne) (maxL := 2) (ret := (some .int)) (by decide) rfl ?_
  intro p e s m args below meth c s₁ B hml hv
  obtain ⟨rfl, hsz, hP, hK, hD0, hN⟩ := hv
  have hx := B.exec
  have hb := B.bytes
  have hr := B.returns
  have hts := atoms_spec (ws := (wsM yX13_borne cX13_borne 2 (some .int))) B.pre
  have hg : ∀ w ∈ lw_good, w.before _ s = true := fun w h => hts w (List.mem_cons_of_mem _ h)
  have hown : s.vm.findClass RX13 = some m.cls := findClass_of_methodNamed B.named
  have hlocks := B.notSynchronized
  subst hsz
  have hD := hD0.self (sz := s.heap.size)
  generalize hAe : va_A ([(za, (b13_0 z0 z1 (nI z2) (nI z3) z4 z5 z6 z7 z8 z9 (nI z10) z11 z12 z13 z14 z15 (nI z16) z17 z18 z19))] ++ va_pl L M) s.heap.size = A at hD ⊢
  have hA : ∀ q : Nat, s.heap.size ≤ q → A q := fun q h => by rw [← hAe]; exact Or.inr h
  have hS : va_S A s.heap s.heap [] := va_S.rf
  have hl := lv_entry ([.ref za, .int k1]) (n := 2) (Nat.le_of_ble_eq_true rfl)
  rw [lg_entry_eq]
  generalize (lg_sl ([.ref za, .int k1]) ++ List.replicate (2 - (lg_sl ([.ref za, .int k1])).length) Slot.unset).toArray = ls at hl ⊢
  refine W.nameQ (fun Q hQ => ?_)
  refine W.nameR (fun R hR => ?_)
  have hRf : 0 ≤ R.frames := by rw [hR]; exact Nat.le_of_ble_eq_true rfl
  have hRl : 0 ≤ R.locals := by rw [hR]; exact Nat.le_of_ble_eq_true rfl
  have hRc : 0 ≤ R.cells := by rw [hR]; exact Nat.le_of_ble_eq_true rfl
  have hRs : 0 ≤ R.slots := by rw [hR]; exact Nat.le_of_ble_eq_true rfl
  have hl : lv_has ls 2 [(0, .ref za), (1, .int k1)] := hl
  refine lv_aload_n hx hb dX13_borne_0 rfl (lv_at hl 0 rfl) ?_
  refine lv_iconst (v := 0) hx hb dX13_borne_1 (by decide) ?_
  refine va_put (D := D) (ci := 13) (v := .int 0) (ty := .int) (C := RX13) (T := TX13) (N := 20) hx hb hg inG13 tyX13 tyX13_ok nmX13 hown hK hP hD hS 0 rfl rfl 0 (by decide) (hg _ wd_720) (fun _ h9 => h9) rfl (by decide +kernel) rfl rfl (Nat.le_of_ble_eq_true rfl) dX13_borne_2 (fun H_1 locs hP hD hS => ?_)
  have hP : va_P D vwCl ([(za, (b13_0 0 z1 (nI z2) (nI z3) z4 z5 z6 z7 z8 z9 (nI z10) z11 z12 z13 z14 z15 (nI z16) z17 z18 z19))] ++ va_pl L M) H_1 := hP
  have hD : va_D A ([(za, (b13_0 0 z1 (nI z2) (nI z3) z4 z5 z6 z7 z8 z9 (nI z10) z11 z12 z13 z14 z15 (nI z16) z17 z18 z19))] ++ va_pl L M) := hD
  refine lv_iload_n hx hb dX13_borne_5 rfl (lv_at hl 1 rfl) ?_
  refine lv_iconst (v := (-1)) hx hb dX13_borne_6 (by decide) ?_
  refine lv_icmp_ne (tgt := 17) hx hb dX13_borne_7 (by decide) (fun c_2 => ?_) (fun c_2 => ?_)
  · have hz := rfl (a := 0)
    refine lv_iload_n hx hb dX13_borne_17 rfl (lv_at hl 1 rfl) ?_
    refine lv_if_lt (tgt := 36) hx hb dX13_borne_18 (by decide) (fun c_3 => ?_) (fun c_3 => ?_)
    · have hz := rfl (a := 0)
      refine lv_iconst (v := 0) hx hb dX13_borne_36 (by decide) ?_
      rw [hQ]
      exact W.iret (v := 0) hx hb hr (fun t ht hW9 => ⟨⟨0, (), rfl, trivial, ⟨by rw [ht]; exact hP, hD⟩⟩, hS.F ht⟩) hS.2.2 dX13_borne_37
    · have hz := rfl (a := 0)
      refine lv_iload_n hx hb dX13_borne_21 rfl (lv_at hl 1 rfl) ?_
      refine lv_bipush (v := 24) hx hb dX13_borne_22 (by decide) ?_
      refine lv_icmp_ge (tgt := 36) hx hb dX13_borne_24 (by decide) (fun c_4 => ?_) (fun c_4 => ?_)
      · have hz := rfl (a := 0)
        refine lv_iconst (v := 0) hx hb dX13_borne_36 (by decide) ?_
        rw [hQ]
        exact W.iret (v := 0) hx hb hr (fun t ht hW9 => ⟨⟨0, (), rfl, trivial, ⟨by rw [ht]; exact hP, hD⟩⟩, hS.F ht⟩) hS.2.2 dX13_borne_37
      · have hz := rfl (a := 0)
        refine lv_aload_n hx hb dX13_borne_27 rfl (lv_at hl 0 rfl) ?_
        refine va_get (D := D) (ci := 13) (v := .ref z17) (C := RX13) (T := TX13) (N := 20) hx hb hg inG13 hown hK hP 0 rfl rfl 17 (by decide) (hg _ wd_721) (fun _ h9 => h9) rfl dX13_borne_28 ?_
        refine lv_iload_n hx hb dX13_borne_31 rfl (lv_at hl 1 rfl) ?_
        obtain ⟨f5, hM5⟩ := hW.open_14 i17
        refine pg_iald hx hb hK hP i17.1 0 hM5 rfl (inb k1 24 (by omega) c_3 c_4) dX13_borne_32 ?_
        refine lv_topi (fun f_6 ef_6 => ?_)
        refine lv_goto (tgt := 37) hx hb dX13_borne_33 (by decide) ?_
        rw [hQ]
        exact W.iret (v := f_6) hx hb hr (fun t ht hW9 => ⟨⟨f_6, (), rfl, trivial, ⟨by rw [ht]; exact hP, hD⟩⟩, hS.F ht⟩) hS.2.2 dX13_borne_37
  · have hz := rfl (a := 0)
    refine lv_aload_n hx hb dX13_borne_10 rfl (lv_at hl 0 rfl) ?_
    refine va_get (D := D) (ci := 13) (v := .int z18) (C := RX13) (T := TX13) (N := 20) hx hb hg inG13 hown hK hP 0 rfl rfl 18 (by decide) (hg _ wd_722) (fun _ h9 => h9) rfl dX13_borne_11 ?_
    refine lv_goto (tgt := 37) hx hb dX13_borne_14 (by decide) ?_
    rw [hQ]
    exact W.iret (v := z18) hx hb hr (fun t ht hW9 => ⟨⟨z18, (), rfl, trivial, ⟨by rw [ht]; exact hP, hD⟩⟩, hS.F ht⟩) hS.2.2 dX13_borne_37
set_option maxHeartbeats 4000000 in
set_option maxRecDepth 100000 in
theorem r_X13_status (l : Launch) (D : va_G) (cy : Nat → ClassId) (K : Kp) (L : List Nat) (M : Hp) (sz : Nat) (za : Nat) (z0 : Int32) (z1 : Nat) (z2 : Nat) (z3 : Nat) (z4 : Int32) (z5 : Int32) (z6 : Nat) (z7 : Nat) (z8 : Nat) (z9 : Nat) (z10 : Nat) (z11 : Nat) (z12 : Nat) (z13 : Nat) (z14 : Nat) (z15 : Nat) (z16 : Nat) (z17 : Nat) (z18 : Int32) (z19 : Nat) (hW : WOM cy K L M) (i1 : isk K L z1 23 8) (b2 : z2 ≤ 8) (b3 : z3 ≤ 40) (i6 : isk K L z6 47 40) (i7 : isk K L z7 48 40) (i8 : isk K L z8 49 8) (i9 : isk K L z9 50 8) (b10 : z10 ≤ 8) (i11 : isk K L z11 32 24) (i12 : isk K L z12 14 24) (i13 : isk K L z13 97 24) (i14 : isk K L z14 98 24) (i15 : isk K L z15 99 24) (b16 : z16 ≤ 24) (i17 : isk K L z17 14 24) (i19 : isk K L z19 15 25) : Met l yX13_status (wsM yX13_status cX13_status 1 (some .int)) ({ frames := 0, cells := 0, slots := 0, locals := 0 }) (va_Pc [.ref za] (PG D cy [(za, (b13_0 z0 z1 (nI z2) (nI z3) z4 z5 z6 z7 z8 z9 (nI z10) z11 z12 z13 z14 z15 (nI z16) z17 z18 z19))] L M sz)) (va_Qi (fun (r : Int32) (_ : Unit) => True) (fun _ t => PQ D [(za, (b13_0 0 z1 (nI z2) (nI z3) z4 z5 z6 z7 z8 z9 (nI z10) z11 z12 z13 z14 z15 (nI z16) z17 z18 z19))] L M (va_A ([(za, (b13_0 z0 z1 (nI z2) (nI z3) z4 z5 z6 z7 z8 z9 (nI z10) z11 z12 z13 z14 z15 (nI z16) z17 z18 z19))] ++ va_pl L M) sz) t) (va_A ([(za, (b13_0 z0 z1 (nI z2) (nI z3) z4 z5 z6 z7 z8 z9 (nI z10) z11 z12 z13 z14 z15 (nI z16) z17 z18 z19))] ++ va_pl L M) sz)) 0 0 (va_A ([(za, (b13_0 z0 z1 (nI z2) (nI z3) z4 z5 z6 z7 z8 z9 (nI z10) z11 z12 z13 z14 z15 (nI z16) z17 z18 z19))] ++ va_pl L M) sz) := by
  refine Met.ofW (cc := cX13_status) (maxL := 1) (ret := (some .int)) (by decide) rfl ?_
  intro p e s m args below meth c s₁ B hml hv
  obtain ⟨rfl, hsz, hP, hK, hD0, hN⟩ := hv
  have hx := B.exec
  have hb := B.bytes
  have hr := B.returns
  have hts := atoms_spec (ws := (wsM yX13_status cX13_status 1 (some .int))) B.pre
  have hg : ∀ w ∈ lw_good, w.before _ s = true := fun w h => hts w (List.mem_cons_of_mem _ h)
  have hown : s.vm.findClass RX13 = some m.cls := findClass_of_methodNamed B.named
  have hlocks := B.notSynchronized
  subst hsz
  have hD := hD0.self (sz := s.heap.size)
  generalize hAe : va_A ([(za, (b13_0 z0 z1 (nI z2) (nI z3) z4 z5 z6 z7 z8 z9 (nI z10) z11 z12 z13 z14 z15 (nI z16) z17 z18 z19))] ++ va_pl L M) s.heap.size = A at hD ⊢
  have hA : ∀ q : Nat, s.heap.size ≤ q → A q := fun q h => by rw [← hAe]; exact Or.inr h
  have hS : va_S A s.heap s.heap [] := va_S.rf
  have hl := lv_entry ([.ref za]) (n := 1) (Nat.le_of_ble_eq_true rfl)
  rw [lg_entry_eq]
  generalize (lg_sl ([.ref za]) ++ List.replicate (1 - (lg_sl ([.ref za])).length) Slot.unset).toArray = ls at hl ⊢
  refine W.nameQ (fun Q hQ => ?_)
  refine W.nameR (fun R hR => ?_)
  have hRf : 0 ≤ R.frames := by rw [hR]; exact Nat.le_of_ble_eq_true rfl
  have hRl : 0 ≤ R.locals := by rw [hR]; exact Nat.le_of_ble_eq_true rfl
  have hRc : 0 ≤ R.cells := by rw [hR]; exact Nat.le_of_ble_eq_true rfl
  have hRs : 0 ≤ R.slots := by rw [hR]; exact Nat.le_of_ble_eq_true rfl
  have hl : lv_has ls 1 [(0, .ref za)] := hl
  refine lv_aload_n hx hb dX13_status_0 rfl (lv_at hl 0 rfl) ?_
  refine lv_iconst (v := 0) hx hb dX13_status_1 (by decide) ?_
  refine va_put (D := D) (ci := 13) (v := .int 0) (ty := .int) (C := RX13) (T := TX13) (N := 20) hx hb hg inG13 tyX13 tyX13_ok nmX13 hown hK hP hD hS 0 rfl rfl 0 (by decide) (hg _ wd_720) (fun _ h9 => h9) rfl (by decide +kernel) rfl rfl (Nat.le_of_ble_eq_true rfl) dX13_status_2 (fun H_1 locs hP hD hS => ?_)
  have hP : va_P D vwCl ([(za, (b13_0 0 z1 (nI z2) (nI z3) z4 z5 z6 z7 z8 z9 (nI z10) z11 z12 z13 z14 z15 (nI z16) z17 z18 z19))] ++ va_pl L M) H_1 := hP
  have hD : va_D A ([(za, (b13_0 0 z1 (nI z2) (nI z3) z4 z5 z6 z7 z8 z9 (nI z10) z11 z12 z13 z14 z15 (nI z16) z17 z18 z19))] ++ va_pl L M) := hD
  refine lv_aload_n hx hb dX13_status_5 rfl (lv_at hl 0 rfl) ?_
  refine va_get (D := D) (ci := 13) (v := .int z4) (C := RX13) (T := TX13) (N := 20) hx hb hg inG13 hown hK hP 0 rfl rfl 4 (by decide) (hg _ wd_710) (fun _ h9 => h9) rfl dX13_status_6 ?_
  rw [hQ]
  exact W.iret (v := z4) hx hb hr (fun t ht hW9 => ⟨⟨z4, (), rfl, trivial, ⟨by rw [ht]; exact hP, hD⟩⟩, hS.F ht⟩) hS.2.2 dX13_status_9
set_option maxHeartbeats 4000000 in
set_option maxRecDepth 100000 in
theorem r_X13_sheet (l : Launch) (D : va_G) (cy : Nat → ClassId) (K : Kp) (L : List Nat) (M : Hp) (sz : Nat) (za : Nat) (z0 : Int32) (z1 : Nat) (z2 : Nat) (z3 : Nat) (z4 : Int32) (z5 : Int32) (z6 : Nat) (z7 : Nat) (z8 : Nat) (z9 : Nat) (z10 : Nat) (z11 : Nat) (z12 : Nat) (z13 : Nat) (z14 : Nat) (z15 : Nat) (z16 : Nat) (z17 : Nat) (z18 : Int32) (z19 : Nat) (k1 : Int32) (k2 : Int64) (hW : WOM cy K L M) (i1 : isk K L z1 23 8) (b2 : z2 ≤ 8) (b3 : z3 ≤ 40) (i6 : isk K L z6 47 40) (i7 : isk K L z7 48 40) (i8 : isk K L z8 49 8) (i9 : isk K L z9 50 8) (b10 : z10 ≤ 8) (i11 : isk K L z11 32 24) (i12 : isk K L z12 14 24) (i13 : isk K L z13 97 24) (i14 : isk K L z14 98 24) (i15 : isk K L z15 99 24) (b16 : z16 ≤ 24) (i17 : isk K L z17 14 24) (i19 : isk K L z19 15 25) : Met l yX13_sheet (wsM yX13_sheet cX13_sheet 4 (some .int)) ({ frames := 1, cells := 0, slots := 0, locals := 21 }) (va_Pc [.ref za, .int k1, .long k2] (PG D cy [(za, (b13_0 z0 z1 (nI z2) (nI z3) z4 z5 z6 z7 z8 z9 (nI z10) z11 z12 z13 z14 z15 (nI z16) z17 z18 z19))] L M sz)) (va_Qi (fun (r : Int32) (M9 : Hp) => WOM cy K L M9 ∧ fr K L [15] M M9 ∧ (True)) (fun M9 t => ∃ (w4 : Int32), PQ D [(za, (b13_0 0 z1 (nI z2) (nI z3) w4 (-1) z6 z7 z8 z9 (nI z10) z11 z12 z13 z14 z15 (nI z16) z17 z18 z19))] L M9 (va_A ([(za, (b13_0 z0 z1 (nI z2) (nI z3) z4 z5 z6 z7 z8 z9 (nI z10) z11 z12 z13 z14 z15 (nI z16) z17 z18 z19))] ++ va_pl L M) sz) t) (va_A ([(za, (b13_0 z0 z1 (nI z2) (nI z3) z4 z5 z6 z7 z8 z9 (nI z10) z11 z12 z13 z14 z15 (nI z16) z17 z18 z19))] ++ va_pl L M) sz)) 0 0 (va_A ([(za, (b13_0 z0 z1 (nI z2) (nI z3) z4 z5 z6 z7 z8 z9 (nI z10) z11 z12 z13 z14 z15 (nI z16) z17 z18 z19))] ++ va_pl L M) sz) := by
  refine Met.ofW (cc := cX13_sheet) (maxL := 4) (ret := (some .int)) (by decide) rfl ?_
  intro p e s m args below meth c s₁ B hml hv
  obtain ⟨rfl, hsz, hP, hK, hD0, hN⟩ := hv
  have hx := B.exec
  have hb := B.bytes
  have hr := B.returns
  have hts := atoms_spec (ws := (wsM yX13_sheet cX13_sheet 4 (some .int))) B.pre
  have hg : ∀ w ∈ lw_good, w.before _ s = true := fun w h => hts w (List.mem_cons_of_mem _ h)
  have hown : s.vm.findClass RX13 = some m.cls := findClass_of_methodNamed B.named
  have hlocks := B.notSynchronized
  subst hsz
  have hD := hD0.self (sz := s.heap.size)
  generalize hAe : va_A ([(za, (b13_0 z0 z1 (nI z2) (nI z3) z4 z5 z6 z7 z8 z9 (nI z10) z11 z12 z13 z14 z15 (nI z16) z17 z18 z19))] ++ va_pl L M) s.heap.size = A at hD ⊢
  have hA : ∀ q : Nat, s.heap.size ≤ q → A q := fun q h => by rw [← hAe]; exact Or.inr h
  have hS : va_S A s.heap s.heap [] := va_S.rf
  have hl := lv_entry ([.ref za, .int k1, .long k2]) (n := 4) (Nat.le_of_ble_eq_true rfl)
  rw [lg_entry_eq]
  generalize (lg_sl ([.ref za, .int k1, .long k2]) ++ List.replicate (4 - (lg_sl ([.ref za, .int k1, .long k2])).length) Slot.unset).toArray = ls at hl ⊢
  refine W.nameQ (fun Q hQ => ?_)
  refine W.nameR (fun R hR => ?_)
  have hRf : 1 ≤ R.frames := by rw [hR]; exact Nat.le_of_ble_eq_true rfl
  have hRl : 21 ≤ R.locals := by rw [hR]; exact Nat.le_of_ble_eq_true rfl
  have hRc : 0 ≤ R.cells := by rw [hR]; exact Nat.le_of_ble_eq_true rfl
  have hRs : 0 ≤ R.slots := by rw [hR]; exact Nat.le_of_ble_eq_true rfl
  have hF : fr K L [15] M M := fr.rf
  have hl : lv_has ls 4 [(0, .ref za), (1, .int k1), (2, .long k2)] := hl
  refine lv_aload_n hx hb dX13_sheet_0 rfl (lv_at hl 0 rfl) ?_
  refine lv_iconst (v := 0) hx hb dX13_sheet_1 (by decide) ?_
  refine va_put (D := D) (ci := 13) (v := .int 0) (ty := .int) (C := RX13) (T := TX13) (N := 20) hx hb hg inG13 tyX13 tyX13_ok nmX13 hown hK hP hD hS 0 rfl rfl 0 (by decide) (hg _ wd_720) (fun _ h9 => h9) rfl (by decide +kernel) rfl rfl (Nat.le_of_ble_eq_true rfl) dX13_sheet_2 (fun H_1 locs hP hD hS => ?_)
  have hP : va_P D vwCl ([(za, (b13_0 0 z1 (nI z2) (nI z3) z4 z5 z6 z7 z8 z9 (nI z10) z11 z12 z13 z14 z15 (nI z16) z17 z18 z19))] ++ va_pl L M) H_1 := hP
  have hD : va_D A ([(za, (b13_0 0 z1 (nI z2) (nI z3) z4 z5 z6 z7 z8 z9 (nI z10) z11 z12 z13 z14 z15 (nI z16) z17 z18 z19))] ++ va_pl L M) := hD
  refine lv_iload_n hx hb dX13_sheet_5 rfl (lv_at hl 1 rfl) ?_
  refine lv_if_lt (tgt := 15) hx hb dX13_sheet_6 (by decide) (fun c_2 => ?_) (fun c_2 => ?_)
  · have hz := rfl (a := 0)
    refine lv_aload_n hx hb dX13_sheet_15 rfl (lv_at hl 0 rfl) ?_
    refine lv_iconst (v := 2) hx hb dX13_sheet_16 (by decide) ?_
    have hPc := hP.sub (ws' := [(za, (b13_0 0 z1 (nI z2) (nI z3) z4 z5 z6 z7 z8 z9 (nI z10) z11 z12 z13 z14 z15 (nI z16) z17 z18 z19))]) [0] rfl
    have hDc := hD.sub (ws' := [(za, (b13_0 0 z1 (nI z2) (nI z3) z4 z5 z6 z7 z8 z9 (nI z10) z11 z12 z13 z14 z15 (nI z16) z17 z18 z19))]) [0] (by decide) rfl
    have hKc := hK.sub (tys' := []) [] rfl
    have hFc := va_free (wc := [(za, (b13_0 0 z1 (nI z2) (nI z3) z4 z5 z6 z7 z8 z9 (nI z10) z11 z12 z13 z14 z15 (nI z16) z17 z18 z19))]) hD hS hA [0] rfl
    refine va_calli (va_runV (As := [.int 2]) (rest := []) ⟨hx, hb, hml, hown, hg⟩ (m_refused l D H_1.size za 0 z1 (nI z2) (nI z3) z4 z5 z6 z7 z8 z9 (nI z10) z11 z12 z13 z14 z15 (nI z16) z17 z18 z19 2) (cwV 1 hg (gV wd_725 wd_726 wd_727 wd_717 wd_728) rfl rfl rfl (by decide +kernel) ⟨(Nat.le_trans (Nat.le_of_ble_eq_true rfl) hRf), (Nat.le_trans (Nat.le_of_ble_eq_true rfl) hRl)⟩) ⟨Pr.blind, va_recv hK hP (ci := 13) (q0 := 0) rfl rfl, fun U hU hW => ⟨rfl, Pr.at hPc hKc hDc hN hU hW⟩⟩ rfl rfl hl.1 rfl (lv_room (Nat.le_of_ble_eq_true rfl)) dX13_sheet_17 ⟨(Nat.le_trans (Nat.le_of_ble_eq_true rfl) hRc), (Nat.le_trans (Nat.le_of_ble_eq_true rfl) hRs)⟩) hS (fun q _ h => hFc q h) hFc (fun r_4 M_5 t H_3 locs ht hvm hw hB hz1 hk1 hS => ?_)
    have hp_6 := hw
    obtain ⟨hP1, hK1, hD1⟩ := hB
    rw [ht] at hP1
    obtain ⟨hP, hD⟩ := va_joinQ (X := [(za, (b13_0 0 z1 (nI z2) (nI z3) z4 z5 z6 z7 z8 z9 (nI z10) z11 z12 z13 z14 z15 (nI z16) z17 z18 z19))]) (cx := [(za, (b13_0 0 z1 (nI z2) (nI z3) z4 z5 z6 z7 z8 z9 (nI z10) z11 z12 z13 z14 z15 (nI z16) z17 z18 z19))]) (wr := []) (w1 := [(za, (b13_0 0 z1 (nI z2) (nI z3) 2 (-1) z6 z7 z8 z9 (nI z10) z11 z12 z13 z14 z15 (nI z16) z17 z18 z19))]) (pl := va_pl L M) hP hD [0] [] rfl rfl (by decide) (by decide) hk1 hFc hP1 hD1
    have hP : va_P D vwCl ([(za, (b13_0 0 z1 (nI z2) (nI z3) 2 (-1) z6 z7 z8 z9 (nI z10) z11 z12 z13 z14 z15 (nI z16) z17 z18 z19))] ++ va_pl L M) H_3 := hP
    have hD : va_D A ([(za, (b13_0 0 z1 (nI z2) (nI z3) 2 (-1) z6 z7 z8 z9 (nI z10) z11 z12 z13 z14 z15 (nI z16) z17 z18 z19))] ++ va_pl L M) := hD
    have hq := Eq.symm hp_6
    subst hq
    rw [hQ]
    exact W.iret (v := (-1)) hx hb hr (fun t ht hW9 => ⟨⟨(-1), M, rfl, ⟨hW, hF, trivial⟩, ⟨2, by rw [ht]; exact hP, hD⟩⟩, hS.F ht⟩) hS.2.2 dX13_sheet_20
  · have hz := rfl (a := 0)
    refine lv_iload_n hx hb dX13_sheet_9 rfl (lv_at hl 1 rfl) ?_
    refine lv_bipush (v := 24) hx hb dX13_sheet_10 (by decide) ?_
    refine lv_icmp_le (tgt := 21) hx hb dX13_sheet_12 (by decide) (fun c_7 => ?_) (fun c_7 => ?_)
    · have hz := rfl (a := 0)
      refine lv_aload_n hx hb dX13_sheet_21 rfl (lv_at hl 0 rfl) ?_
      refine va_get (D := D) (ci := 13) (v := .ref z19) (C := RX13) (T := TX13) (N := 20) hx hb hg inG13 hown hK hP 0 rfl rfl 19 (by decide) (hg _ wd_729) (fun _ h9 => h9) rfl dX13_sheet_22 ?_
      refine lv_iload_n hx hb dX13_sheet_25 rfl (lv_at hl 1 rfl) ?_
      refine lv_lload_n hx hb dX13_sheet_26 rfl (lv_at hl 2 rfl) ?_
      obtain ⟨f8, hM8⟩ := hW.open_15 i19
      refine pg_last hx hb hK hP hD hS i19.1 1 hM8 rfl (inbE k1 24 25 (by decide) (by decide) c_2 c_7) dX13_sheet_27 (fun H_9 locs hP hD hS => ?_)
      obtain ⟨M_10, eM_10⟩ : ∃ M1 : Hp, M1 = va_up M z19 (.inl (cy 15, 25, .inr (.inl (vp_updL f8 (k1 : Int32).toNatClampNeg k2)))) := ⟨_, rfl⟩
      have hP : va_P D vwCl ([(za, (b13_0 0 z1 (nI z2) (nI z3) z4 z5 z6 z7 z8 z9 (nI z10) z11 z12 z13 z14 z15 (nI z16) z17 z18 z19))] ++ va_pl L M_10) H_9 := by rw [eM_10]; exact hP
      have hD : va_D A ([(za, (b13_0 0 z1 (nI z2) (nI z3) z4 z5 z6 z7 z8 z9 (nI z10) z11 z12 z13 z14 z15 (nI z16) z17 z18 z19))] ++ va_pl L M_10) := by rw [eM_10]; exact hD
      have hW : WOM cy K L M_10 := by rw [eM_10]; exact hW.up_15 i19 ⟨_, rfl⟩
      have hF : fr K L [15] M M_10 := by rw [eM_10]; exact hF.up i19 (by decide)
      have hM_11 : M_10 z19 = .inl (cy 15, 25, .inr (.inl (vp_updL f8 (k1 : Int32).toNatClampNeg k2))) := by rw [eM_10]; exact va_up_self _ _ _
      obtain ⟨f_12, ef_12⟩ : ∃ f : Nat → Int64, f = vp_updL f8 (k1 : Int32).toNatClampNeg k2 := ⟨_, rfl⟩
      rw [← ef_12] at hM_11
      clear ef_12
      refine lv_aload_n hx hb dX13_sheet_28 rfl (lv_at hl 0 rfl) ?_
      refine lv_iconst (v := 1) hx hb dX13_sheet_29 (by decide) ?_
      have hPc := hP.sub (ws' := [(za, (b13_0 0 z1 (nI z2) (nI z3) z4 z5 z6 z7 z8 z9 (nI z10) z11 z12 z13 z14 z15 (nI z16) z17 z18 z19))]) [0] rfl
      have hDc := hD.sub (ws' := [(za, (b13_0 0 z1 (nI z2) (nI z3) z4 z5 z6 z7 z8 z9 (nI z10) z11 z12 z13 z14 z15 (nI z16) z17 z18 z19))]) [0] (by decide) rfl
      have hKc := hK.sub (tys' := []) [] rfl
      have hFc := va_free (wc := [(za, (b13_0 0 z1 (nI z2) (nI z3) z4 z5 z6 z7 z8 z9 (nI z10) z11 z12 z13 z14 z15 (nI z16) z17 z18 z19))]) hD hS hA [0] rfl
      refine va_calli (va_runV (As := [.int 1]) (rest := []) ⟨hx, hb, hml, hown, hg⟩ (m_done l D H_9.size za 0 z1 (nI z2) (nI z3) z4 z5 z6 z7 z8 z9 (nI z10) z11 z12 z13 z14 z15 (nI z16) z17 z18 z19 1) (cwV 1 hg (gV wd_730 wd_731 wd_732 wd_717 wd_733) rfl rfl rfl (by decide +kernel) ⟨(Nat.le_trans (Nat.le_of_ble_eq_true rfl) hRf), (Nat.le_trans (Nat.le_of_ble_eq_true rfl) hRl)⟩) ⟨Pr.blind, va_recv hK hP (ci := 13) (q0 := 0) rfl rfl, fun U hU hW => ⟨rfl, Pr.at hPc hKc hDc hN hU hW⟩⟩ rfl rfl hl.1 rfl (lv_room (Nat.le_of_ble_eq_true rfl)) dX13_sheet_30 ⟨(Nat.le_trans (Nat.le_of_ble_eq_true rfl) hRc), (Nat.le_trans (Nat.le_of_ble_eq_true rfl) hRs)⟩) hS (fun q _ h => hFc q h) hFc (fun r_14 M_15 t H_13 locs ht hvm hw hB hz1 hk1 hS => ?_)
      have hp_16 := hw
      obtain ⟨hP1, hK1, hD1⟩ := hB
      rw [ht] at hP1
      obtain ⟨hP, hD⟩ := va_joinQ (X := [(za, (b13_0 0 z1 (nI z2) (nI z3) z4 z5 z6 z7 z8 z9 (nI z10) z11 z12 z13 z14 z15 (nI z16) z17 z18 z19))]) (cx := [(za, (b13_0 0 z1 (nI z2) (nI z3) z4 z5 z6 z7 z8 z9 (nI z10) z11 z12 z13 z14 z15 (nI z16) z17 z18 z19))]) (wr := []) (w1 := [(za, (b13_0 0 z1 (nI z2) (nI z3) 0 (-1) z6 z7 z8 z9 (nI z10) z11 z12 z13 z14 z15 (nI z16) z17 z18 z19))]) (pl := va_pl L M_10) hP hD [0] [] rfl rfl (by decide) (by decide) hk1 hFc hP1 hD1
      have hP : va_P D vwCl ([(za, (b13_0 0 z1 (nI z2) (nI z3) 0 (-1) z6 z7 z8 z9 (nI z10) z11 z12 z13 z14 z15 (nI z16) z17 z18 z19))] ++ va_pl L M_10) H_13 := hP
      have hD : va_D A ([(za, (b13_0 0 z1 (nI z2) (nI z3) 0 (-1) z6 z7 z8 z9 (nI z10) z11 z12 z13 z14 z15 (nI z16) z17 z18 z19))] ++ va_pl L M_10) := hD
      have hq := Eq.symm hp_16
      subst hq
      rw [hQ]
      exact W.iret (v := 1) hx hb hr (fun t ht hW9 => ⟨⟨1, M_10, rfl, ⟨hW, hF, trivial⟩, ⟨0, by rw [ht]; exact hP, hD⟩⟩, hS.F ht⟩) hS.2.2 dX13_sheet_33
    · have hz := rfl (a := 0)
      have n_17 : ¬ k1 < 0 := gtN (c := 24) (by omega) (Int32.not_le.mp c_7)
      refine lv_aload_n hx hb dX13_sheet_15 rfl (lv_at hl 0 rfl) ?_
      refine lv_iconst (v := 2) hx hb dX13_sheet_16 (by decide) ?_
      have hPc := hP.sub (ws' := [(za, (b13_0 0 z1 (nI z2) (nI z3) z4 z5 z6 z7 z8 z9 (nI z10) z11 z12 z13 z14 z15 (nI z16) z17 z18 z19))]) [0] rfl
      have hDc := hD.sub (ws' := [(za, (b13_0 0 z1 (nI z2) (nI z3) z4 z5 z6 z7 z8 z9 (nI z10) z11 z12 z13 z14 z15 (nI z16) z17 z18 z19))]) [0] (by decide) rfl
      have hKc := hK.sub (tys' := []) [] rfl
      have hFc := va_free (wc := [(za, (b13_0 0 z1 (nI z2) (nI z3) z4 z5 z6 z7 z8 z9 (nI z10) z11 z12 z13 z14 z15 (nI z16) z17 z18 z19))]) hD hS hA [0] rfl
      refine va_calli (va_runV (As := [.int 2]) (rest := []) ⟨hx, hb, hml, hown, hg⟩ (m_refused l D H_1.size za 0 z1 (nI z2) (nI z3) z4 z5 z6 z7 z8 z9 (nI z10) z11 z12 z13 z14 z15 (nI z16) z17 z18 z19 2) (cwV 1 hg (gV wd_725 wd_726 wd_727 wd_717 wd_728) rfl rfl rfl (by decide +kernel) ⟨(Nat.le_trans (Nat.le_of_ble_eq_true rfl) hRf), (Nat.le_trans (Nat.le_of_ble_eq_true rfl) hRl)⟩) ⟨Pr.blind, va_recv hK hP (ci := 13) (q0 := 0) rfl rfl, fun U hU hW => ⟨rfl, Pr.at hPc hKc hDc hN hU hW⟩⟩ rfl rfl hl.1 rfl (lv_room (Nat.le_of_ble_eq_true rfl)) dX13_sheet_17 ⟨(Nat.le_trans (Nat.le_of_ble_eq_true rfl) hRc), (Nat.le_trans (Nat.le_of_ble_eq_true rfl) hRs)⟩) hS (fun q _ h => hFc q h) hFc (fun r_19 M_20 t H_18 locs ht hvm hw hB hz1 hk1 hS => ?_)
      have hp_21 := hw
      obtain ⟨hP1, hK1, hD1⟩ := hB
      rw [ht] at hP1
      obtain ⟨hP, hD⟩ := va_joinQ (X := [(za, (b13_0 0 z1 (nI z2) (nI z3) z4 z5 z6 z7 z8 z9 (nI z10) z11 z12 z13 z14 z15 (nI z16) z17 z18 z19))]) (cx := [(za, (b13_0 0 z1 (nI z2) (nI z3) z4 z5 z6 z7 z8 z9 (nI z10) z11 z12 z13 z14 z15 (nI z16) z17 z18 z19))]) (wr := []) (w1 := [(za, (b13_0 0 z1 (nI z2) (nI z3) 2 (-1) z6 z7 z8 z9 (nI z10) z11 z12 z13 z14 z15 (nI z16) z17 z18 z19))]) (pl := va_pl L M) hP hD [0] [] rfl rfl (by decide) (by decide) hk1 hFc hP1 hD1
      have hP : va_P D vwCl ([(za, (b13_0 0 z1 (nI z2) (nI z3) 2 (-1) z6 z7 z8 z9 (nI z10) z11 z12 z13 z14 z15 (nI z16) z17 z18 z19))] ++ va_pl L M) H_18 := hP
      have hD : va_D A ([(za, (b13_0 0 z1 (nI z2) (nI z3) 2 (-1) z6 z7 z8 z9 (nI z10) z11 z12 z13 z14 z15 (nI z16) z17 z18 z19))] ++ va_pl L M) := hD
      have hq := Eq.symm hp_21
      subst hq
      rw [hQ]
      exact W.iret (v := (-1)) hx hb hr (fun t ht hW9 => ⟨⟨(-1), M, rfl, ⟨hW, hF, trivial⟩, ⟨2, by rw [ht]; exact hP, hD⟩⟩, hS.F ht⟩) hS.2.2 dX13_sheet_20
