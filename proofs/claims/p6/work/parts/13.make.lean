theorem dX0_init_0 : decode cX0_init 0 = .ok (.aload_n 0, 1) := by decide +kernel
theorem dX0_init_1 : decode cX0_init 1 = .ok (.invokespecial 3, 3) := by decide +kernel
theorem dX0_init_4 : decode cX0_init 4 = .ok (.aload_n 0, 1) := by decide +kernel
theorem dX0_init_5 : decode cX0_init 5 = .ok (.bipush 120, 2) := by decide +kernel
theorem dX0_init_7 : decode cX0_init 7 = .ok (.anewarray 9, 3) := by decide +kernel
theorem dX0_init_10 : decode cX0_init 10 = .ok (.putfield 11, 3) := by decide +kernel
theorem dX0_init_13 : decode cX0_init 13 = .ok (.aload_n 0, 1) := by decide +kernel
theorem dX0_init_14 : decode cX0_init 14 = .ok (.bipush 100, 2) := by decide +kernel
theorem dX0_init_16 : decode cX0_init 16 = .ok (.newarray .long, 2) := by decide +kernel
theorem dX0_init_18 : decode cX0_init 18 = .ok (.putfield 17, 3) := by decide +kernel
theorem dX0_init_21 : decode cX0_init 21 = .ok (.aload_n 0, 1) := by decide +kernel
theorem dX0_init_22 : decode cX0_init 22 = .ok (.aload_n 1, 1) := by decide +kernel
theorem dX0_init_23 : decode cX0_init 23 = .ok (.putfield 21, 3) := by decide +kernel
theorem dX0_init_26 : decode cX0_init 26 = .ok (.return_, 1) := by decide +kernel
theorem dX1_init_0 : decode cX1_init 0 = .ok (.aload_n 0, 1) := by decide +kernel
theorem dX1_init_1 : decode cX1_init 1 = .ok (.invokespecial 1, 3) := by decide +kernel
theorem dX1_init_4 : decode cX1_init 4 = .ok (.iconst 0, 1) := by decide +kernel
theorem dX1_init_5 : decode cX1_init 5 = .ok (.iload_n 1, 1) := by decide +kernel
theorem dX1_init_6 : decode cX1_init 6 = .ok (.invokestatic 7, 3) := by decide +kernel
theorem dX1_init_9 : decode cX1_init 9 = .ok (.istore_n 2, 1) := by decide +kernel
theorem dX1_init_10 : decode cX1_init 10 = .ok (.aload_n 0, 1) := by decide +kernel
theorem dX1_init_11 : decode cX1_init 11 = .ok (.iload_n 2, 1) := by decide +kernel
theorem dX1_init_12 : decode cX1_init 12 = .ok (.anewarray 13, 3) := by decide +kernel
theorem dX1_init_15 : decode cX1_init 15 = .ok (.putfield 15, 3) := by decide +kernel
theorem dX1_init_18 : decode cX1_init 18 = .ok (.aload_n 0, 1) := by decide +kernel
theorem dX1_init_19 : decode cX1_init 19 = .ok (.iload_n 2, 1) := by decide +kernel
theorem dX1_init_20 : decode cX1_init 20 = .ok (.newarray .int, 2) := by decide +kernel
theorem dX1_init_22 : decode cX1_init 22 = .ok (.putfield 21, 3) := by decide +kernel
theorem dX1_init_25 : decode cX1_init 25 = .ok (.aload_n 0, 1) := by decide +kernel
theorem dX1_init_26 : decode cX1_init 26 = .ok (.iload_n 2, 1) := by decide +kernel
theorem dX1_init_27 : decode cX1_init 27 = .ok (.newarray .int, 2) := by decide +kernel
theorem dX1_init_29 : decode cX1_init 29 = .ok (.putfield 25, 3) := by decide +kernel
theorem dX1_init_32 : decode cX1_init 32 = .ok (.return_, 1) := by decide +kernel
theorem dX3_init_0 : decode cX3_init 0 = .ok (.aload_n 0, 1) := by decide +kernel
theorem dX3_init_1 : decode cX3_init 1 = .ok (.invokespecial 3, 3) := by decide +kernel
theorem dX3_init_4 : decode cX3_init 4 = .ok (.aload_n 0, 1) := by decide +kernel
theorem dX3_init_5 : decode cX3_init 5 = .ok (.iload_n 1, 1) := by decide +kernel
theorem dX3_init_6 : decode cX3_init 6 = .ok (.putfield 9, 3) := by decide +kernel
theorem dX3_init_9 : decode cX3_init 9 = .ok (.aload_n 0, 1) := by decide +kernel
theorem dX3_init_10 : decode cX3_init 10 = .ok (.iconst 0, 1) := by decide +kernel
theorem dX3_init_11 : decode cX3_init 11 = .ok (.iload_n 2, 1) := by decide +kernel
theorem dX3_init_12 : decode cX3_init 12 = .ok (.invokestatic 15, 3) := by decide +kernel
theorem dX3_init_15 : decode cX3_init 15 = .ok (.newarray .int, 2) := by decide +kernel
theorem dX3_init_17 : decode cX3_init 17 = .ok (.putfield 21, 3) := by decide +kernel
theorem dX3_init_20 : decode cX3_init 20 = .ok (.return_, 1) := by decide +kernel
theorem dX4_init_0 : decode cX4_init 0 = .ok (.aload_n 0, 1) := by decide +kernel
theorem dX4_init_1 : decode cX4_init 1 = .ok (.invokespecial 3, 3) := by decide +kernel
theorem dX4_init_4 : decode cX4_init 4 = .ok (.aload_n 0, 1) := by decide +kernel
theorem dX4_init_5 : decode cX4_init 5 = .ok (.iload_n 1, 1) := by decide +kernel
theorem dX4_init_6 : decode cX4_init 6 = .ok (.putfield 9, 3) := by decide +kernel
theorem dX4_init_9 : decode cX4_init 9 = .ok (.aload_n 0, 1) := by decide +kernel
theorem dX4_init_10 : decode cX4_init 10 = .ok (.iload_n 2, 1) := by decide +kernel
theorem dX4_init_11 : decode cX4_init 11 = .ok (.putfield 15, 3) := by decide +kernel
theorem dX4_init_14 : decode cX4_init 14 = .ok (.aload_n 0, 1) := by decide +kernel
theorem dX4_init_15 : decode cX4_init 15 = .ok (.iload_n 3, 1) := by decide +kernel
theorem dX4_init_16 : decode cX4_init 16 = .ok (.putfield 18, 3) := by decide +kernel
theorem dX4_init_19 : decode cX4_init 19 = .ok (.aload_n 0, 1) := by decide +kernel
theorem dX4_init_20 : decode cX4_init 20 = .ok (.aload 4, 2) := by decide +kernel
theorem dX4_init_22 : decode cX4_init 22 = .ok (.putfield 21, 3) := by decide +kernel
theorem dX4_init_25 : decode cX4_init 25 = .ok (.return_, 1) := by decide +kernel
theorem dX8_init_0 : decode cX8_init 0 = .ok (.aload_n 0, 1) := by decide +kernel
theorem dX8_init_1 : decode cX8_init 1 = .ok (.invokespecial 3, 3) := by decide +kernel
theorem dX8_init_4 : decode cX8_init 4 = .ok (.aload_n 0, 1) := by decide +kernel
theorem dX8_init_5 : decode cX8_init 5 = .ok (.bipush 6, 2) := by decide +kernel
theorem dX8_init_7 : decode cX8_init 7 = .ok (.anewarray 9, 3) := by decide +kernel
theorem dX8_init_10 : decode cX8_init 10 = .ok (.putfield 11, 3) := by decide +kernel
theorem dX8_init_13 : decode cX8_init 13 = .ok (.aload_n 0, 1) := by decide +kernel
theorem dX8_init_14 : decode cX8_init 14 = .ok (.bipush 6, 2) := by decide +kernel
theorem dX8_init_16 : decode cX8_init 16 = .ok (.newarray .long, 2) := by decide +kernel
theorem dX8_init_18 : decode cX8_init 18 = .ok (.putfield 17, 3) := by decide +kernel
theorem dX8_init_21 : decode cX8_init 21 = .ok (.return_, 1) := by decide +kernel
theorem dX9_init_0 : decode cX9_init 0 = .ok (.aload_n 0, 1) := by decide +kernel
theorem dX9_init_1 : decode cX9_init 1 = .ok (.invokespecial 3, 3) := by decide +kernel
theorem dX9_init_4 : decode cX9_init 4 = .ok (.aload_n 0, 1) := by decide +kernel
theorem dX9_init_5 : decode cX9_init 5 = .ok (.iconst (-1), 1) := by decide +kernel
theorem dX9_init_6 : decode cX9_init 6 = .ok (.putfield 9, 3) := by decide +kernel
theorem dX9_init_9 : decode cX9_init 9 = .ok (.aload_n 0, 1) := by decide +kernel
theorem dX9_init_10 : decode cX9_init 10 = .ok (.iload_n 1, 1) := by decide +kernel
theorem dX9_init_11 : decode cX9_init 11 = .ok (.putfield 15, 3) := by decide +kernel
theorem dX9_init_14 : decode cX9_init 14 = .ok (.aload_n 0, 1) := by decide +kernel
theorem dX9_init_15 : decode cX9_init 15 = .ok (.aload_n 2, 1) := by decide +kernel
theorem dX9_init_16 : decode cX9_init 16 = .ok (.putfield 18, 3) := by decide +kernel
theorem dX9_init_19 : decode cX9_init 19 = .ok (.aload_n 0, 1) := by decide +kernel
theorem dX9_init_20 : decode cX9_init 20 = .ok (.iload_n 3, 1) := by decide +kernel
theorem dX9_init_21 : decode cX9_init 21 = .ok (.putfield 22, 3) := by decide +kernel
theorem dX9_init_24 : decode cX9_init 24 = .ok (.aload_n 0, 1) := by decide +kernel
theorem dX9_init_25 : decode cX9_init 25 = .ok (.iload 4, 2) := by decide +kernel
theorem dX9_init_27 : decode cX9_init 27 = .ok (.putfield 25, 3) := by decide +kernel
theorem dX9_init_30 : decode cX9_init 30 = .ok (.aload_n 0, 1) := by decide +kernel
theorem dX9_init_31 : decode cX9_init 31 = .ok (.iload 5, 2) := by decide +kernel
theorem dX9_init_33 : decode cX9_init 33 = .ok (.putfield 28, 3) := by decide +kernel
theorem dX9_init_36 : decode cX9_init 36 = .ok (.return_, 1) := by decide +kernel
theorem dX10_init_0 : decode cX10_init 0 = .ok (.aload_n 0, 1) := by decide +kernel
theorem dX10_init_1 : decode cX10_init 1 = .ok (.invokespecial 3, 3) := by decide +kernel
theorem dX10_init_4 : decode cX10_init 4 = .ok (.aload_n 0, 1) := by decide +kernel
theorem dX10_init_5 : decode cX10_init 5 = .ok (.bipush 60, 2) := by decide +kernel
theorem dX10_init_7 : decode cX10_init 7 = .ok (.newarray .int, 2) := by decide +kernel
theorem dX10_init_9 : decode cX10_init 9 = .ok (.putfield 9, 3) := by decide +kernel
theorem dX10_init_12 : decode cX10_init 12 = .ok (.return_, 1) := by decide +kernel
theorem wd_524 : Cond.methodLink RX8 3 Lib.objectInit ∈ lw_good := mem_t4 21 (by decide +kernel) rfl
theorem wd_525 : Cond.instanceMethod Lib.objectInit ∈ lw_good := mem_t1 24 (by decide +kernel) rfl
theorem wd_526 : Cond.classLink RX8 9 RX9 ∈ lw_good := mem_t4 22 (by decide +kernel) rfl
theorem wd_527 : Cond.arrayClass .long ∈ lw_good := mem_t1 62 (by decide +kernel) rfl
theorem wd_528 : Cond.methodLink RX9 3 Lib.objectInit ∈ lw_good := mem_t2 184 (by decide +kernel) rfl
theorem wd_529 : Cond.methodLink RX3 3 Lib.objectInit ∈ lw_good := mem_t3 90 (by decide +kernel) rfl
theorem wd_530 : Cond.methodLink RX3 15 Lib.Math.max.name ∈ lw_good := mem_t3 91 (by decide +kernel) rfl
theorem wd_531 : Cond.arrayClass .int ∈ lw_good := mem_t1 79 (by decide +kernel) rfl
theorem wd_532 : Cond.methodLink RX4 3 Lib.objectInit ∈ lw_good := mem_t2 75 (by decide +kernel) rfl
theorem wd_533 : Cond.fieldLink RX4 9 RX4 "number" "I" ∈ lw_good := mem_t2 76 (by decide +kernel) rfl
theorem wd_534 : Cond.fieldLink RX4 18 RX4 "limit" "I" ∈ lw_good := mem_t2 82 (by decide +kernel) rfl
theorem wd_535 : Cond.fieldLink RX4 21 RX4 "owner" "LPartnersBook$House;" ∈ lw_good := mem_t2 84 (by decide +kernel) rfl
theorem wd_536 : Cond.methodLink RX10 3 Lib.objectInit ∈ lw_good := mem_t1 170 (by decide +kernel) rfl
theorem wd_537 : Cond.methodLink RX0 3 Lib.objectInit ∈ lw_good := mem_t1 187 (by decide +kernel) rfl
theorem wd_538 : Cond.classLink RX0 9 RX8 ∈ lw_good := mem_t1 188 (by decide +kernel) rfl
theorem wd_539 : Cond.methodLink RX1 1 Lib.objectInit ∈ lw_good := mem_t1 141 (by decide +kernel) rfl
theorem wd_540 : Cond.methodLink RX1 7 Lib.Math.max.name ∈ lw_good := mem_t1 142 (by decide +kernel) rfl
theorem wd_541 : Cond.classLink RX1 13 RX9 ∈ lw_good := mem_t1 145 (by decide +kernel) rfl
theorem fr.upX {K0 K : Kp} {L0 L : List Nat} {ts : List Nat} {M0 M : Hp} {a t n : Nat} {e : va_E} (h : fr K0 L0 ts M0 M) (x : ext K0 L0 K L) (ha : isk K L a t n) (ht : t ∈ ts) : fr K0 L0 ts M0 (va_up M a e) := fun b hb hn => by
  by_cases q : b = a
  · subst q
    exact absurd (by rw [← (x b hb).2, ha.2]; exact ht) hn
  · rw [va_up_ne M e q]
    exact h b hb hn
theorem fr.trX {K0 K : Kp} {L0 L : List Nat} {ts us : List Nat} {M0 M M' : Hp} (h : fr K0 L0 ts M0 M) (x : ext K0 L0 K L) (g : fr K L us M M') (hs : ∀ t ∈ us, t ∈ ts) : fr K0 L0 ts M0 M' := fun b hb hn => (g b (x b hb).1 (fun q => hn (hs _ (by rw [(x b hb).2] at q; exact q)))).trans (h b hb hn)
theorem fr.adX {K0 K : Kp} {L0 L : List Nat} {ts : List Nat} {M0 M M' : Hp} (h : fr K0 L0 ts M0 M) (x : ext K0 L0 K L) (g : ∀ b, b ∈ L → M' b = M b) : fr K0 L0 ts M0 M' := fun b hb hn => (g b (x b hb).1).trans (h b hb hn)
set_option maxHeartbeats 4000000 in
set_option maxRecDepth 100000 in
theorem k_Stretch (l : Launch) (D : va_G) (sz : Nat) (oa : Nat) : Met l yX8_init (wsM yX8_init cX8_init 1 none) ({ frames := 1, cells := 2, slots := 12, locals := 12 }) (va_Pc [.ref oa] (Pr D [(oa, .inr (8, [.null, .null, .int 0, .int 0, .long 0, .long 0]))] [] sz)) (va_Qv (fun _ : Unit => True) (fun _ t => ∃ (e0 : Nat) (e1 : Nat) (c0 : ClassId) (c1 : ClassId), Po D [(oa, (b8_11 e0 e1 0 0 0 0)), (e0, .inl (c0, 6, .inr (.inr (.inr (.inr (fun _ => none)))))), (e1, .inl (c1, 6, .inr (.inl (fun _ => 0))))] [(c0, .object RX9), (c1, .long)] (va_A [(oa, .inr (8, [.null, .null, .int 0, .int 0, .long 0, .long 0]))] sz) t) (va_A [(oa, .inr (8, [.null, .null, .int 0, .int 0, .long 0, .long 0]))] sz)) 2 12 (va_A [(oa, .inr (8, [.null, .null, .int 0, .int 0, .long 0, .long 0]))] sz) := by
  refine Met.ofW (cc := cX8_init) (maxL := 1) (ret := none) (by decide) rfl ?_
  intro p e s m args below meth c s₁ B hml hv
  obtain ⟨rfl, hsz, hP, hK, hD0, hN⟩ := hv
  have hx := B.exec
  have hb := B.bytes
  have hr := B.returns
  have hts := atoms_spec (ws := (wsM yX8_init cX8_init 1 none)) B.pre
  have hg : ∀ w ∈ lw_good, w.before _ s = true := fun w h => hts w (List.mem_cons_of_mem _ h)
  have hown : s.vm.findClass RX8 = some m.cls := findClass_of_methodNamed B.named
  have hlocks := B.notSynchronized
  have hin : meth.name = "<init>" := (name_of_methodNamed B.named B.method).1
  subst hsz
  have hD := hD0.self (sz := s.heap.size)
  generalize hAe : va_A [(oa, .inr (8, [.null, .null, .int 0, .int 0, .long 0, .long 0]))] s.heap.size = A at hD ⊢
  have hA : ∀ q : Nat, s.heap.size ≤ q → A q := fun q h => by rw [← hAe]; exact Or.inr h
  have hS : va_S A s.heap s.heap [] := va_S.rf
  have hP : va_P D vwCl [(oa, .inr (8, [.null, .null, .int 0, .int 0, .long 0, .long 0]))] s.heap := hP
  have hl := lv_entry ([.ref oa]) (n := 1) (Nat.le_of_ble_eq_true rfl)
  rw [lg_entry_eq]
  generalize (lg_sl ([.ref oa]) ++ List.replicate (1 - (lg_sl ([.ref oa])).length) Slot.unset).toArray = ls at hl ⊢
  have hl : lv_has ls 1 [(0, .ref oa)] := hl
  refine lv_aload_n hx hb dX8_init_0 rfl (lv_at hl 0 rfl) ?_
  refine W.objInit hx hb hown (hg _ wd_524) (hg _ wd_525) (hg _ wd_obj) rfl (by rw [hml]; exact hl.1) rfl dX8_init_1 (Nat.le_of_ble_eq_true rfl) (Nat.le_of_ble_eq_true rfl) ?_
  refine W.eq (g2 := F0 m 4 ls []) rfl ?_
  refine lv_aload_n hx hb dX8_init_4 rfl (lv_at hl 0 rfl) ?_
  refine lv_bipush (v := 6) hx hb dX8_init_5 (by decide) ?_
  refine va_newq (C := RX9) (N' := 6) hx hb hown (hg _ wd_526) (hN.ao RX9 62 rfl) hK hP hD hS hA (by decide) (by decide) (Nat.le_of_ble_eq_true rfl) (Nat.le_of_ble_eq_true rfl) (Nat.le_of_ble_eq_true rfl) dX8_init_7 (fun q_1 cA_3 H_2 hK hP hD hS => ?_)
  have hK : va_K D vwCl [(cA_3, .object RX9)] s := hK
  have hP : va_P D vwCl [(oa, .inr (8, [.null, .null, .int 0, .int 0, .long 0, .long 0])), (q_1, .inl (cA_3, 6, .inr (.inr (.inr (.inr (fun _ => none))))))] H_2 := hP
  have hD : va_D A [(oa, .inr (8, [.null, .null, .int 0, .int 0, .long 0, .long 0])), (q_1, .inl (cA_3, 6, .inr (.inr (.inr (.inr (fun _ => none))))))] := hD
  refine W.widen (k := 1) (n := 6) (Nat.le_of_ble_eq_true rfl) (Nat.le_of_ble_eq_true rfl) ?_
  refine va_putF (D := D) (ci := 8) (v := .ref q_1) (ty := .array (.object "PartnersBook$Tenure")) (C := RX8) (T := TX8) (N := 6) hx hb hg inG8 tyX8 tyX8_ok nmX8 hown hK hP hD hS 0 rfl rfl 0 (by decide) (hg _ wd_184) (fun _ h9 => h9) rfl hin rfl (by decide +kernel) rfl rfl (Nat.le_of_ble_eq_true rfl) dX8_init_10 (fun H_4 locs hP hD hS => ?_)
  have hP : va_P D vwCl [(oa, .inr (8, [.ref q_1, .null, .int 0, .int 0, .long 0, .long 0])), (q_1, .inl (cA_3, 6, .inr (.inr (.inr (.inr (fun _ => none))))))] H_4 := hP
  have hD : va_D A [(oa, .inr (8, [.ref q_1, .null, .int 0, .int 0, .long 0, .long 0])), (q_1, .inl (cA_3, 6, .inr (.inr (.inr (.inr (fun _ => none))))))] := hD
  refine lv_aload_n hx hb dX8_init_13 rfl (lv_at hl 0 rfl) ?_
  refine lv_bipush (v := 6) hx hb dX8_init_14 (by decide) ?_
  refine va_newa (atype := .long) (ty := .long) (a0 := (6, .inr (.inl (fun _ => 0)))) hx hb (hg _ wd_527) rfl hK hP hD hS hA (fun cA => rfl) (by decide) (by decide) (Nat.le_of_ble_eq_true rfl) (Nat.le_of_ble_eq_true rfl) (Nat.le_of_ble_eq_true rfl) dX8_init_16 (fun q_5 cA_7 H_6 hK hP hD hS => ?_)
  have hK : va_K D vwCl [(cA_3, .object RX9), (cA_7, .long)] s := hK
  have hP : va_P D vwCl [(oa, .inr (8, [.ref q_1, .null, .int 0, .int 0, .long 0, .long 0])), (q_1, .inl (cA_3, 6, .inr (.inr (.inr (.inr (fun _ => none)))))), (q_5, .inl (cA_7, 6, .inr (.inl (fun _ => 0))))] H_6 := hP
  have hD : va_D A [(oa, .inr (8, [.ref q_1, .null, .int 0, .int 0, .long 0, .long 0])), (q_1, .inl (cA_3, 6, .inr (.inr (.inr (.inr (fun _ => none)))))), (q_5, .inl (cA_7, 6, .inr (.inl (fun _ => 0))))] := hD
  refine W.widen (k := 2) (n := 12) (Nat.le_of_ble_eq_true rfl) (Nat.le_of_ble_eq_true rfl) ?_
  refine va_putF (D := D) (ci := 8) (v := .ref q_5) (ty := .array .long) (C := RX8) (T := TX8) (N := 6) hx hb hg inG8 tyX8 tyX8_ok nmX8 hown hK hP hD hS 0 rfl rfl 1 (by decide) (hg _ wd_182) (fun _ h9 => h9) rfl hin rfl (by decide +kernel) rfl rfl (Nat.le_of_ble_eq_true rfl) dX8_init_18 (fun H_8 locs hP hD hS => ?_)
  have hP : va_P D vwCl [(oa, (b8_11 q_1 q_5 0 0 0 0)), (q_1, .inl (cA_3, 6, .inr (.inr (.inr (.inr (fun _ => none)))))), (q_5, .inl (cA_7, 6, .inr (.inl (fun _ => 0))))] H_8 := hP
  have hD : va_D A [(oa, (b8_11 q_1 q_5 0 0 0 0)), (q_1, .inl (cA_3, 6, .inr (.inr (.inr (.inr (fun _ => none)))))), (q_5, .inl (cA_7, 6, .inr (.inl (fun _ => 0))))] := hD
  have hP9 := hP.sub (ws' := [(oa, (b8_11 q_1 q_5 0 0 0 0)), (q_1, .inl (cA_3, 6, .inr (.inr (.inr (.inr (fun _ => none)))))), (q_5, .inl (cA_7, 6, .inr (.inl (fun _ => 0))))]) [0, 1, 2] rfl
  have hD9 := hD.sub (ws' := [(oa, (b8_11 q_1 q_5 0 0 0 0)), (q_1, .inl (cA_3, 6, .inr (.inr (.inr (.inr (fun _ => none)))))), (q_5, .inl (cA_7, 6, .inr (.inl (fun _ => 0))))]) [0, 1, 2] (by decide) rfl
  have hK9 := hK.sub (tys' := [(cA_3, .object RX9), (cA_7, .long)]) [0, 1] rfl
  exact W.vret hx hb hr (fun t ht hW => ⟨⟨(), rfl, trivial, ⟨q_1, q_5, cA_3, cA_7, by rw [ht]; exact hP9, va_K.moved hW.alike hK9, hD9⟩⟩, hS.F ht⟩) hS.2.2 dX8_init_21
set_option maxHeartbeats 4000000 in
set_option maxRecDepth 100000 in
theorem k_Tenure_0 (l : Launch) (D : va_G) (sz : Nat) (oa : Nat) (k1 : Int32) (k2 : Nat) (k3 : Int32) (k4 : Int32) : Met l yX9_init (wsM yX9_init cX9_init 6 none) ({ frames := 1, cells := 0, slots := 0, locals := 12 }) (va_Pc [.ref oa, .int k1, .ref k2, .int k3, .int k4, .int 0] (Pr D [(oa, .inr (9, [.int 0, .null, .int 0, .int 0, .int 0, .int 0, .int 0, .int 0, .null, .long 0, .long 0, .long 0, .long 0, .long 0, .long 0, .long 0]))] [] sz)) (va_Qv (fun _ : Unit => True) (fun _ t => Po D [(oa, .inr (9, [.int k1, .ref k2, .int k3, .int k4, .int 0, .int (-1), .int 0, .int 0, .null, .long 0, .long 0, .long 0, .long 0, .long 0, .long 0, .long 0]))] [] (va_A [(oa, .inr (9, [.int 0, .null, .int 0, .int 0, .int 0, .int 0, .int 0, .int 0, .null, .long 0, .long 0, .long 0, .long 0, .long 0, .long 0, .long 0]))] sz) t) (va_A [(oa, .inr (9, [.int 0, .null, .int 0, .int 0, .int 0, .int 0, .int 0, .int 0, .null, .long 0, .long 0, .long 0, .long 0, .long 0, .long 0, .long 0]))] sz)) 0 0 (va_A [(oa, .inr (9, [.int 0, .null, .int 0, .int 0, .int 0, .int 0, .int 0, .int 0, .null, .long 0, .long 0, .long 0, .long 0, .long 0, .long 0, .long 0]))] sz) := by
  refine Met.ofW (cc := cX9_init) (maxL := 6) (ret := none) (by decide) rfl ?_
  intro p e s m args below meth c s₁ B hml hv
  obtain ⟨rfl, hsz, hP, hK, hD0, hN⟩ := hv
  have hx := B.exec
  have hb := B.bytes
  have hr := B.returns
  have hts := atoms_spec (ws := (wsM yX9_init cX9_init 6 none)) B.pre
  have hg : ∀ w ∈ lw_good, w.before _ s = true := fun w h => hts w (List.mem_cons_of_mem _ h)
  have hown : s.vm.findClass RX9 = some m.cls := findClass_of_methodNamed B.named
  have hlocks := B.notSynchronized
  have hin : meth.name = "<init>" := (name_of_methodNamed B.named B.method).1
  subst hsz
  have hD := hD0.self (sz := s.heap.size)
  generalize hAe : va_A [(oa, .inr (9, [.int 0, .null, .int 0, .int 0, .int 0, .int 0, .int 0, .int 0, .null, .long 0, .long 0, .long 0, .long 0, .long 0, .long 0, .long 0]))] s.heap.size = A at hD ⊢
  have hA : ∀ q : Nat, s.heap.size ≤ q → A q := fun q h => by rw [← hAe]; exact Or.inr h
  have hS : va_S A s.heap s.heap [] := va_S.rf
  have hP : va_P D vwCl [(oa, .inr (9, [.int 0, .null, .int 0, .int 0, .int 0, .int 0, .int 0, .int 0, .null, .long 0, .long 0, .long 0, .long 0, .long 0, .long 0, .long 0]))] s.heap := hP
  have hl := lv_entry ([.ref oa, .int k1, .ref k2, .int k3, .int k4, .int 0]) (n := 6) (Nat.le_of_ble_eq_true rfl)
  rw [lg_entry_eq]
  generalize (lg_sl ([.ref oa, .int k1, .ref k2, .int k3, .int k4, .int 0]) ++ List.replicate (6 - (lg_sl ([.ref oa, .int k1, .ref k2, .int k3, .int k4, .int 0])).length) Slot.unset).toArray = ls at hl ⊢
  have hl : lv_has ls 6 [(0, .ref oa), (1, .int k1), (2, .ref k2), (3, .int k3), (4, .int k4), (5, .int 0)] := hl
  refine lv_aload_n hx hb dX9_init_0 rfl (lv_at hl 0 rfl) ?_
  refine W.objInit hx hb hown (hg _ wd_528) (hg _ wd_525) (hg _ wd_obj) rfl (by rw [hml]; exact hl.1) rfl dX9_init_1 (Nat.le_of_ble_eq_true rfl) (Nat.le_of_ble_eq_true rfl) ?_
  refine W.eq (g2 := F0 m 4 ls []) rfl ?_
  refine lv_aload_n hx hb dX9_init_4 rfl (lv_at hl 0 rfl) ?_
  refine lv_iconst (v := (-1)) hx hb dX9_init_5 (by decide) ?_
  refine va_put (D := D) (ci := 9) (v := .int (-1)) (ty := .int) (C := RX9) (T := TX9) (N := 16) hx hb hg inG9 tyX9 tyX9_ok nmX9 hown hK hP hD hS 0 rfl rfl 5 (by decide) (hg _ wd_5) (fun _ h9 => h9) rfl (by decide +kernel) rfl rfl (Nat.le_of_ble_eq_true rfl) dX9_init_6 (fun H_1 locs hP hD hS => ?_)
  have hP : va_P D vwCl [(oa, .inr (9, [.int 0, .null, .int 0, .int 0, .int 0, .int (-1), .int 0, .int 0, .null, .long 0, .long 0, .long 0, .long 0, .long 0, .long 0, .long 0]))] H_1 := hP
  have hD : va_D A [(oa, .inr (9, [.int 0, .null, .int 0, .int 0, .int 0, .int (-1), .int 0, .int 0, .null, .long 0, .long 0, .long 0, .long 0, .long 0, .long 0, .long 0]))] := hD
  refine lv_aload_n hx hb dX9_init_9 rfl (lv_at hl 0 rfl) ?_
  refine lv_iload_n hx hb dX9_init_10 rfl (lv_at hl 1 rfl) ?_
  refine va_putF (D := D) (ci := 9) (v := .int k1) (ty := .int) (C := RX9) (T := TX9) (N := 16) hx hb hg inG9 tyX9 tyX9_ok nmX9 hown hK hP hD hS 0 rfl rfl 0 (by decide) (hg _ wd_26) (fun _ h9 => h9) rfl hin rfl (by decide +kernel) rfl rfl (Nat.le_of_ble_eq_true rfl) dX9_init_11 (fun H_2 locs hP hD hS => ?_)
  have hP : va_P D vwCl [(oa, .inr (9, [.int k1, .null, .int 0, .int 0, .int 0, .int (-1), .int 0, .int 0, .null, .long 0, .long 0, .long 0, .long 0, .long 0, .long 0, .long 0]))] H_2 := hP
  have hD : va_D A [(oa, .inr (9, [.int k1, .null, .int 0, .int 0, .int 0, .int (-1), .int 0, .int 0, .null, .long 0, .long 0, .long 0, .long 0, .long 0, .long 0, .long 0]))] := hD
  refine lv_aload_n hx hb dX9_init_14 rfl (lv_at hl 0 rfl) ?_
  refine lv_aload_n hx hb dX9_init_15 rfl (lv_at hl 2 rfl) ?_
  refine va_putF (D := D) (ci := 9) (v := .ref k2) (ty := .object "PartnersBook$Partner") (C := RX9) (T := TX9) (N := 16) hx hb hg inG9 tyX9 tyX9_ok nmX9 hown hK hP hD hS 0 rfl rfl 1 (by decide) (hg _ wd_7) (fun _ h9 => h9) rfl hin rfl (by decide +kernel) rfl rfl (Nat.le_of_ble_eq_true rfl) dX9_init_16 (fun H_3 locs hP hD hS => ?_)
  have hP : va_P D vwCl [(oa, .inr (9, [.int k1, .ref k2, .int 0, .int 0, .int 0, .int (-1), .int 0, .int 0, .null, .long 0, .long 0, .long 0, .long 0, .long 0, .long 0, .long 0]))] H_3 := hP
  have hD : va_D A [(oa, .inr (9, [.int k1, .ref k2, .int 0, .int 0, .int 0, .int (-1), .int 0, .int 0, .null, .long 0, .long 0, .long 0, .long 0, .long 0, .long 0, .long 0]))] := hD
  refine lv_aload_n hx hb dX9_init_19 rfl (lv_at hl 0 rfl) ?_
  refine lv_iload_n hx hb dX9_init_20 rfl (lv_at hl 3 rfl) ?_
  refine va_putF (D := D) (ci := 9) (v := .int k3) (ty := .int) (C := RX9) (T := TX9) (N := 16) hx hb hg inG9 tyX9 tyX9_ok nmX9 hown hK hP hD hS 0 rfl rfl 2 (by decide) (hg _ wd_23) (fun _ h9 => h9) rfl hin rfl (by decide +kernel) rfl rfl (Nat.le_of_ble_eq_true rfl) dX9_init_21 (fun H_4 locs hP hD hS => ?_)
  have hP : va_P D vwCl [(oa, .inr (9, [.int k1, .ref k2, .int k3, .int 0, .int 0, .int (-1), .int 0, .int 0, .null, .long 0, .long 0, .long 0, .long 0, .long 0, .long 0, .long 0]))] H_4 := hP
  have hD : va_D A [(oa, .inr (9, [.int k1, .ref k2, .int k3, .int 0, .int 0, .int (-1), .int 0, .int 0, .null, .long 0, .long 0, .long 0, .long 0, .long 0, .long 0, .long 0]))] := hD
  refine lv_aload_n hx hb dX9_init_24 rfl (lv_at hl 0 rfl) ?_
  refine lv_iload hx hb dX9_init_25 (lv_at hl 4 rfl) ?_
  refine va_putF (D := D) (ci := 9) (v := .int k4) (ty := .int) (C := RX9) (T := TX9) (N := 16) hx hb hg inG9 tyX9 tyX9_ok nmX9 hown hK hP hD hS 0 rfl rfl 3 (by decide) (hg _ wd_6) (fun _ h9 => h9) rfl hin rfl (by decide +kernel) rfl rfl (Nat.le_of_ble_eq_true rfl) dX9_init_27 (fun H_5 locs hP hD hS => ?_)
  have hP : va_P D vwCl [(oa, .inr (9, [.int k1, .ref k2, .int k3, .int k4, .int 0, .int (-1), .int 0, .int 0, .null, .long 0, .long 0, .long 0, .long 0, .long 0, .long 0, .long 0]))] H_5 := hP
  have hD : va_D A [(oa, .inr (9, [.int k1, .ref k2, .int k3, .int k4, .int 0, .int (-1), .int 0, .int 0, .null, .long 0, .long 0, .long 0, .long 0, .long 0, .long 0, .long 0]))] := hD
  refine lv_aload_n hx hb dX9_init_30 rfl (lv_at hl 0 rfl) ?_
  refine lv_iload hx hb dX9_init_31 (lv_at hl 5 rfl) ?_
  refine va_putF (D := D) (ci := 9) (v := .int 0) (ty := .boolean) (C := RX9) (T := TX9) (N := 16) hx hb hg inG9 tyX9 tyX9_ok nmX9 hown hK hP hD hS 0 rfl rfl 4 (by decide) (hg _ wd_24) (fun _ h9 => h9) rfl hin rfl (by decide +kernel) rfl rfl (Nat.le_of_ble_eq_true rfl) dX9_init_33 (fun H_6 locs hP hD hS => ?_)
  have hP : va_P D vwCl [(oa, .inr (9, [.int k1, .ref k2, .int k3, .int k4, .int 0, .int (-1), .int 0, .int 0, .null, .long 0, .long 0, .long 0, .long 0, .long 0, .long 0, .long 0]))] H_6 := hP
  have hD : va_D A [(oa, .inr (9, [.int k1, .ref k2, .int k3, .int k4, .int 0, .int (-1), .int 0, .int 0, .null, .long 0, .long 0, .long 0, .long 0, .long 0, .long 0, .long 0]))] := hD
  have hP9 := hP.sub (ws' := [(oa, .inr (9, [.int k1, .ref k2, .int k3, .int k4, .int 0, .int (-1), .int 0, .int 0, .null, .long 0, .long 0, .long 0, .long 0, .long 0, .long 0, .long 0]))]) [0] rfl
  have hD9 := hD.sub (ws' := [(oa, .inr (9, [.int k1, .ref k2, .int k3, .int k4, .int 0, .int (-1), .int 0, .int 0, .null, .long 0, .long 0, .long 0, .long 0, .long 0, .long 0, .long 0]))]) [0] (by decide) rfl
  have hK9 := hK.sub (tys' := []) [] rfl
  exact W.vret hx hb hr (fun t ht hW => ⟨⟨(), rfl, trivial, ⟨by rw [ht]; exact hP9, va_K.moved hW.alike hK9, hD9⟩⟩, hS.F ht⟩) hS.2.2 dX9_init_36
set_option maxHeartbeats 4000000 in
set_option maxRecDepth 100000 in
theorem k_Tenure_1 (l : Launch) (D : va_G) (sz : Nat) (oa : Nat) (k1 : Int32) (k2 : Nat) (k3 : Int32) (k4 : Int32) : Met l yX9_init (wsM yX9_init cX9_init 6 none) ({ frames := 1, cells := 0, slots := 0, locals := 12 }) (va_Pc [.ref oa, .int k1, .ref k2, .int k3, .int k4, .int 1] (Pr D [(oa, .inr (9, [.int 0, .null, .int 0, .int 0, .int 0, .int 0, .int 0, .int 0, .null, .long 0, .long 0, .long 0, .long 0, .long 0, .long 0, .long 0]))] [] sz)) (va_Qv (fun _ : Unit => True) (fun _ t => Po D [(oa, .inr (9, [.int k1, .ref k2, .int k3, .int k4, .int 1, .int (-1), .int 0, .int 0, .null, .long 0, .long 0, .long 0, .long 0, .long 0, .long 0, .long 0]))] [] (va_A [(oa, .inr (9, [.int 0, .null, .int 0, .int 0, .int 0, .int 0, .int 0, .int 0, .null, .long 0, .long 0, .long 0, .long 0, .long 0, .long 0, .long 0]))] sz) t) (va_A [(oa, .inr (9, [.int 0, .null, .int 0, .int 0, .int 0, .int 0, .int 0, .int 0, .null, .long 0, .long 0, .long 0, .long 0, .long 0, .long 0, .long 0]))] sz)) 0 0 (va_A [(oa, .inr (9, [.int 0, .null, .int 0, .int 0, .int 0, .int 0, .int 0, .int 0, .null, .long 0, .long 0, .long 0, .long 0, .long 0, .long 0, .long 0]))] sz) := by
  refine Met.ofW (cc := cX9_init) (maxL := 6) (ret := none) (by decide) rfl ?_
  intro p e s m args below meth c s₁ B hml hv
  obtain ⟨rfl, hsz, hP, hK, hD0, hN⟩ := hv
  have hx := B.exec
  have hb := B.bytes
  have hr := B.returns
  have hts := atoms_spec (ws := (wsM yX9_init cX9_init 6 none)) B.pre
  have hg : ∀ w ∈ lw_good, w.before _ s = true := fun w h => hts w (List.mem_cons_of_mem _ h)
  have hown : s.vm.findClass RX9 = some m.cls := findClass_of_methodNamed B.named
  have hlocks := B.notSynchronized
  have hin : meth.name = "<init>" := (name_of_methodNamed B.named B.method).1
  subst hsz
  have hD := hD0.self (sz := s.heap.size)
  generalize hAe : va_A [(oa, .inr (9, [.int 0, .null, .int 0, .int 0, .int 0, .int 0, .int 0, .int 0, .null, .long 0, .long 0, .long 0, .long 0, .long 0, .long 0, .long 0]))] s.heap.size = A at hD ⊢
  have hA : ∀ q : Nat, s.heap.size ≤ q → A q := fun q h => by rw [← hAe]; exact Or.inr h
  have hS : va_S A s.heap s.heap [] := va_S.rf
  have hP : va_P D vwCl [(oa, .inr (9, [.int 0, .null, .int 0, .int 0, .int 0, .int 0, .int 0, .int 0, .null, .long 0, .long 0, .long 0, .long 0, .long 0, .long 0, .long 0]))] s.heap := hP
  have hl := lv_entry ([.ref oa, .int k1, .ref k2, .int k3, .int k4, .int 1]) (n := 6) (Nat.le_of_ble_eq_true rfl)
  rw [lg_entry_eq]
  generalize (lg_sl ([.ref oa, .int k1, .ref k2, .int k3, .int k4, .int 1]) ++ List.replicate (6 - (lg_sl ([.ref oa, .int k1, .ref k2, .int k3, .int k4, .int 1])).length) Slot.unset).toArray = ls at hl ⊢
  have hl : lv_has ls 6 [(0, .ref oa), (1, .int k1), (2, .ref k2), (3, .int k3), (4, .int k4), (5, .int 1)] := hl
  refine lv_aload_n hx hb dX9_init_0 rfl (lv_at hl 0 rfl) ?_
  refine W.objInit hx hb hown (hg _ wd_528) (hg _ wd_525) (hg _ wd_obj) rfl (by rw [hml]; exact hl.1) rfl dX9_init_1 (Nat.le_of_ble_eq_true rfl) (Nat.le_of_ble_eq_true rfl) ?_
  refine W.eq (g2 := F0 m 4 ls []) rfl ?_
  refine lv_aload_n hx hb dX9_init_4 rfl (lv_at hl 0 rfl) ?_
  refine lv_iconst (v := (-1)) hx hb dX9_init_5 (by decide) ?_
  refine va_put (D := D) (ci := 9) (v := .int (-1)) (ty := .int) (C := RX9) (T := TX9) (N := 16) hx hb hg inG9 tyX9 tyX9_ok nmX9 hown hK hP hD hS 0 rfl rfl 5 (by decide) (hg _ wd_5) (fun _ h9 => h9) rfl (by decide +kernel) rfl rfl (Nat.le_of_ble_eq_true rfl) dX9_init_6 (fun H_1 locs hP hD hS => ?_)
  have hP : va_P D vwCl [(oa, .inr (9, [.int 0, .null, .int 0, .int 0, .int 0, .int (-1), .int 0, .int 0, .null, .long 0, .long 0, .long 0, .long 0, .long 0, .long 0, .long 0]))] H_1 := hP
  have hD : va_D A [(oa, .inr (9, [.int 0, .null, .int 0, .int 0, .int 0, .int (-1), .int 0, .int 0, .null, .long 0, .long 0, .long 0, .long 0, .long 0, .long 0, .long 0]))] := hD
  refine lv_aload_n hx hb dX9_init_9 rfl (lv_at hl 0 rfl) ?_
  refine lv_iload_n hx hb dX9_init_10 rfl (lv_at hl 1 rfl) ?_
  refine va_putF (D := D) (ci := 9) (v := .int k1) (ty := .int) (C := RX9) (T := TX9) (N := 16) hx hb hg inG9 tyX9 tyX9_ok nmX9 hown hK hP hD hS 0 rfl rfl 0 (by decide) (hg _ wd_26) (fun _ h9 => h9) rfl hin rfl (by decide +kernel) rfl rfl (Nat.le_of_ble_eq_true rfl) dX9_init_11 (fun H_2 locs hP hD hS => ?_)
  have hP : va_P D vwCl [(oa, .inr (9, [.int k1, .null, .int 0, .int 0, .int 0, .int (-1), .int 0, .int 0, .null, .long 0, .long 0, .long 0, .long 0, .long 0, .long 0, .long 0]))] H_2 := hP
  have hD : va_D A [(oa, .inr (9, [.int k1, .null, .int 0, .int 0, .int 0, .int (-1), .int 0, .int 0, .null, .long 0, .long 0, .long 0, .long 0, .long 0, .long 0, .long 0]))] := hD
  refine lv_aload_n hx hb dX9_init_14 rfl (lv_at hl 0 rfl) ?_
  refine lv_aload_n hx hb dX9_init_15 rfl (lv_at hl 2 rfl) ?_
  refine va_putF (D := D) (ci := 9) (v := .ref k2) (ty := .object "PartnersBook$Partner") (C := RX9) (T := TX9) (N := 16) hx hb hg inG9 tyX9 tyX9_ok nmX9 hown hK hP hD hS 0 rfl rfl 1 (by decide) (hg _ wd_7) (fun _ h9 => h9) rfl hin rfl (by decide +kernel) rfl rfl (Nat.le_of_ble_eq_true rfl) dX9_init_16 (fun H_3 locs hP hD hS => ?_)
  have hP : va_P D vwCl [(oa, .inr (9, [.int k1, .ref k2, .int 0, .int 0, .int 0, .int (-1), .int 0, .int 0, .null, .long 0, .long 0, .long 0, .long 0, .long 0, .long 0, .long 0]))] H_3 := hP
  have hD : va_D A [(oa, .inr (9, [.int k1, .ref k2, .int 0, .int 0, .int 0, .int (-1), .int 0, .int 0, .null, .long 0, .long 0, .long 0, .long 0, .long 0, .long 0, .long 0]))] := hD
  refine lv_aload_n hx hb dX9_init_19 rfl (lv_at hl 0 rfl) ?_
  refine lv_iload_n hx hb dX9_init_20 rfl (lv_at hl 3 rfl) ?_
  refine va_putF (D := D) (ci := 9) (v := .int k3) (ty := .int) (C := RX9) (T := TX9) (N := 16) hx hb hg inG9 tyX9 tyX9_ok nmX9 hown hK hP hD hS 0 rfl rfl 2 (by decide) (hg _ wd_23) (fun _ h9 => h9) rfl hin rfl (by decide +kernel) rfl rfl (Nat.le_of_ble_eq_true rfl) dX9_init_21 (fun H_4 locs hP hD hS => ?_)
  have hP : va_P D vwCl [(oa, .inr (9, [.int k1, .ref k2, .int k3, .int 0, .int 0, .int (-1), .int 0, .int 0, .null, .long 0, .long 0, .long 0, .long 0, .long 0, .long 0, .long 0]))] H_4 := hP
  have hD : va_D A [(oa, .inr (9, [.int k1, .ref k2, .int k3, .int 0, .int 0, .int (-1), .int 0, .int 0, .null, .long 0, .long 0, .long 0, .long 0, .long 0, .long 0, .long 0]))] := hD
  refine lv_aload_n hx hb dX9_init_24 rfl (lv_at hl 0 rfl) ?_
  refine lv_iload hx hb dX9_init_25 (lv_at hl 4 rfl) ?_
  refine va_putF (D := D) (ci := 9) (v := .int k4) (ty := .int) (C := RX9) (T := TX9) (N := 16) hx hb hg inG9 tyX9 tyX9_ok nmX9 hown hK hP hD hS 0 rfl rfl 3 (by decide) (hg _ wd_6) (fun _ h9 => h9) rfl hin rfl (by decide +kernel) rfl rfl (Nat.le_of_ble_eq_true rfl) dX9_init_27 (fun H_5 locs hP hD hS => ?_)
  have hP : va_P D vwCl [(oa, .inr (9, [.int k1, .ref k2, .int k3, .int k4, .int 0, .int (-1), .int 0, .int 0, .null, .long 0, .long 0, .long 0, .long 0, .long 0, .long 0, .long 0]))] H_5 := hP
  have hD : va_D A [(oa, .inr (9, [.int k1, .ref k2, .int k3, .int k4, .int 0, .int (-1), .int 0, .int 0, .null, .long 0, .long 0, .long 0, .long 0, .long 0, .long 0, .long 0]))] := hD
  refine lv_aload_n hx hb dX9_init_30 rfl (lv_at hl 0 rfl) ?_
  refine lv_iload hx hb dX9_init_31 (lv_at hl 5 rfl) ?_
  refine va_putF (D := D) (ci := 9) (v := .int 1) (ty := .boolean) (C := RX9) (T := TX9) (N := 16) hx hb hg inG9 tyX9 tyX9_ok nmX9 hown hK hP hD hS 0 rfl rfl 4 (by decide) (hg _ wd_24) (fun _ h9 => h9) rfl hin rfl (by decide +kernel) rfl rfl (Nat.le_of_ble_eq_true rfl) dX9_init_33 (fun H_6 locs hP hD hS => ?_)
  have hP : va_P D vwCl [(oa, .inr (9, [.int k1, .ref k2, .int k3, .int k4, .int 1, .int (-1), .int 0, .int 0, .null, .long 0, .long 0, .long 0, .long 0, .long 0, .long 0, .long 0]))] H_6 := hP
  have hD : va_D A [(oa, .inr (9, [.int k1, .ref k2, .int k3, .int k4, .int 1, .int (-1), .int 0, .int 0, .null, .long 0, .long 0, .long 0, .long 0, .long 0, .long 0, .long 0]))] := hD
  have hP9 := hP.sub (ws' := [(oa, .inr (9, [.int k1, .ref k2, .int k3, .int k4, .int 1, .int (-1), .int 0, .int 0, .null, .long 0, .long 0, .long 0, .long 0, .long 0, .long 0, .long 0]))]) [0] rfl
  have hD9 := hD.sub (ws' := [(oa, .inr (9, [.int k1, .ref k2, .int k3, .int k4, .int 1, .int (-1), .int 0, .int 0, .null, .long 0, .long 0, .long 0, .long 0, .long 0, .long 0, .long 0]))]) [0] (by decide) rfl
  have hK9 := hK.sub (tys' := []) [] rfl
  exact W.vret hx hb hr (fun t ht hW => ⟨⟨(), rfl, trivial, ⟨by rw [ht]; exact hP9, va_K.moved hW.alike hK9, hD9⟩⟩, hS.F ht⟩) hS.2.2 dX9_init_36
set_option maxHeartbeats 4000000 in
set_option maxRecDepth 100000 in
theorem k_Leaf_0 (l : Launch) (D : va_G) (sz : Nat) (oa : Nat) (k1 : Int32) : Met l yX3_init (wsM yX3_init cX3_init 3 none) ({ frames := 1, cells := 1, slots := 0, locals := 14 }) (va_Pc [.ref oa, .int k1, .int 0] (Pr D [(oa, (b3_5 0 0))] [] sz)) (va_Qv (fun _ : Unit => True) (fun _ t => ∃ (e0 : Nat) (c0 : ClassId), Po D [(oa, (b3_3 k1 e0 0)), (e0, .inl (c0, 0, .inl (fun _ => 0)))] [(c0, .int)] (va_A [(oa, (b3_5 0 0))] sz) t) (va_A [(oa, (b3_5 0 0))] sz)) 1 0 (va_A [(oa, (b3_5 0 0))] sz) := by
  refine Met.ofW (cc := cX3_init) (maxL := 3) (ret := none) (by decide) rfl ?_
  intro p e s m args below meth c s₁ B hml hv
  obtain ⟨rfl, hsz, hP, hK, hD0, hN⟩ := hv
  have hx := B.exec
  have hb := B.bytes
  have hr := B.returns
  have hts := atoms_spec (ws := (wsM yX3_init cX3_init 3 none)) B.pre
  have hg : ∀ w ∈ lw_good, w.before _ s = true := fun w h => hts w (List.mem_cons_of_mem _ h)
  have hown : s.vm.findClass RX3 = some m.cls := findClass_of_methodNamed B.named
  have hlocks := B.notSynchronized
  have hin : meth.name = "<init>" := (name_of_methodNamed B.named B.method).1
  subst hsz
  have hD := hD0.self (sz := s.heap.size)
  generalize hAe : va_A [(oa, (b3_5 0 0))] s.heap.size = A at hD ⊢
  have hA : ∀ q : Nat, s.heap.size ≤ q → A q := fun q h => by rw [← hAe]; exact Or.inr h
  have hS : va_S A s.heap s.heap [] := va_S.rf
  have hP : va_P D vwCl [(oa, (b3_5 0 0))] s.heap := hP
  have hl := lv_entry ([.ref oa, .int k1, .int 0]) (n := 3) (Nat.le_of_ble_eq_true rfl)
  rw [lg_entry_eq]
  generalize (lg_sl ([.ref oa, .int k1, .int 0]) ++ List.replicate (3 - (lg_sl ([.ref oa, .int k1, .int 0])).length) Slot.unset).toArray = ls at hl ⊢
  have hl : lv_has ls 3 [(0, .ref oa), (1, .int k1), (2, .int 0)] := hl
  refine lv_aload_n hx hb dX3_init_0 rfl (lv_at hl 0 rfl) ?_
  refine W.objInit hx hb hown (hg _ wd_529) (hg _ wd_525) (hg _ wd_obj) rfl (by rw [hml]; exact hl.1) rfl dX3_init_1 (Nat.le_of_ble_eq_true rfl) (Nat.le_of_ble_eq_true rfl) ?_
  refine W.eq (g2 := F0 m 4 ls []) rfl ?_
  refine lv_aload_n hx hb dX3_init_4 rfl (lv_at hl 0 rfl) ?_
  refine lv_iload_n hx hb dX3_init_5 rfl (lv_at hl 1 rfl) ?_
  refine va_putF (D := D) (ci := 3) (v := .int k1) (ty := .int) (C := RX3) (T := TX3) (N := 3) hx hb hg inG3 tyX3 tyX3_ok nmX3 hown hK hP hD hS 0 rfl rfl 0 (by decide) (hg _ wd_35) (fun _ h9 => h9) rfl hin rfl (by decide +kernel) rfl rfl (Nat.le_of_ble_eq_true rfl) dX3_init_6 (fun H_1 locs hP hD hS => ?_)
  have hP : va_P D vwCl [(oa, (b3_5 k1 0))] H_1 := hP
  have hD : va_D A [(oa, (b3_5 k1 0))] := hD
  refine lv_aload_n hx hb dX3_init_9 rfl (lv_at hl 0 rfl) ?_
  refine lv_iconst (v := 0) hx hb dX3_init_10 (by decide) ?_
  refine lv_iload_n hx hb dX3_init_11 rfl (lv_at hl 2 rfl) ?_
  refine va_mmax hx hb (by rw [hml]; exact hl.1.symm) hown (hg _ wd_530) (hg _ wd_100) (hg _ wd_12) (hg _ wd_101) (Nat.le_of_ble_eq_true rfl) (Nat.le_of_ble_eq_true rfl) (Nat.le_of_ble_eq_true rfl) (Nat.le_of_ble_eq_true rfl) dX3_init_12 ?_
  refine lv_topi (fun f_2 ef_2 => ?_)
  obtain rfl : f_2 = 0 := by rw [ef_2]; decide
  refine va_newa (atype := .int) (ty := .int) (a0 := (0, .inl (fun _ => 0))) hx hb (hg _ wd_531) rfl hK hP hD hS hA (fun cA => rfl) (by decide) (by decide) (Nat.le_of_ble_eq_true rfl) (Nat.le_of_ble_eq_true rfl) (Nat.le_of_ble_eq_true rfl) dX3_init_15 (fun q_3 cA_5 H_4 hK hP hD hS => ?_)
  have hK : va_K D vwCl [(cA_5, .int)] s := hK
  have hP : va_P D vwCl [(oa, (b3_5 k1 0)), (q_3, .inl (cA_5, 0, .inl (fun _ => 0)))] H_4 := hP
  have hD : va_D A [(oa, (b3_5 k1 0)), (q_3, .inl (cA_5, 0, .inl (fun _ => 0)))] := hD
  refine W.widen (k := 1) (n := 0) (Nat.le_of_ble_eq_true rfl) (Nat.le_of_ble_eq_true rfl) ?_
  refine va_putF (D := D) (ci := 3) (v := .ref q_3) (ty := .array .int) (C := RX3) (T := TX3) (N := 3) hx hb hg inG3 tyX3 tyX3_ok nmX3 hown hK hP hD hS 0 rfl rfl 1 (by decide) (hg _ wd_34) (fun _ h9 => h9) rfl hin rfl (by decide +kernel) rfl rfl (Nat.le_of_ble_eq_true rfl) dX3_init_17 (fun H_6 locs hP hD hS => ?_)
  have hP : va_P D vwCl [(oa, (b3_3 k1 q_3 0)), (q_3, .inl (cA_5, 0, .inl (fun _ => 0)))] H_6 := hP
  have hD : va_D A [(oa, (b3_3 k1 q_3 0)), (q_3, .inl (cA_5, 0, .inl (fun _ => 0)))] := hD
  have hP9 := hP.sub (ws' := [(oa, (b3_3 k1 q_3 0)), (q_3, .inl (cA_5, 0, .inl (fun _ => 0)))]) [0, 1] rfl
  have hD9 := hD.sub (ws' := [(oa, (b3_3 k1 q_3 0)), (q_3, .inl (cA_5, 0, .inl (fun _ => 0)))]) [0, 1] (by decide) rfl
  have hK9 := hK.sub (tys' := [(cA_5, .int)]) [0] rfl
  exact W.vret hx hb hr (fun t ht hW => ⟨⟨(), rfl, trivial, ⟨q_3, cA_5, by rw [ht]; exact hP9, va_K.moved hW.alike hK9, hD9⟩⟩, hS.F ht⟩) hS.2.2 dX3_init_20
set_option maxHeartbeats 4000000 in
set_option maxRecDepth 100000 in
theorem k_Leaf_1 (l : Launch) (D : va_G) (sz : Nat) (oa : Nat) (k1 : Int32) : Met l yX3_init (wsM yX3_init cX3_init 3 none) ({ frames := 1, cells := 1, slots := 1, locals := 14 }) (va_Pc [.ref oa, .int k1, .int 1] (Pr D [(oa, (b3_5 0 0))] [] sz)) (va_Qv (fun _ : Unit => True) (fun _ t => ∃ (e0 : Nat) (c0 : ClassId), Po D [(oa, (b3_3 k1 e0 0)), (e0, .inl (c0, 1, .inl (fun _ => 0)))] [(c0, .int)] (va_A [(oa, (b3_5 0 0))] sz) t) (va_A [(oa, (b3_5 0 0))] sz)) 1 1 (va_A [(oa, (b3_5 0 0))] sz) := by
  refine Met.ofW (cc := cX3_init) (maxL := 3) (ret := none) (by decide) rfl ?_
  intro p e s m args below meth c s₁ B hml hv
  obtain ⟨rfl, hsz, hP, hK, hD0, hN⟩ := hv
  have hx := B.exec
  have hb := B.bytes
  have hr := B.returns
  have hts := atoms_spec (ws := (wsM yX3_init cX3_init 3 none)) B.pre
  have hg : ∀ w ∈ lw_good, w.before _ s = true := fun w h => hts w (List.mem_cons_of_mem _ h)
  have hown : s.vm.findClass RX3 = some m.cls := findClass_of_methodNamed B.named
  have hlocks := B.notSynchronized
  have hin : meth.name = "<init>" := (name_of_methodNamed B.named B.method).1
  subst hsz
  have hD := hD0.self (sz := s.heap.size)
  generalize hAe : va_A [(oa, (b3_5 0 0))] s.heap.size = A at hD ⊢
  have hA : ∀ q : Nat, s.heap.size ≤ q → A q := fun q h => by rw [← hAe]; exact Or.inr h
  have hS : va_S A s.heap s.heap [] := va_S.rf
  have hP : va_P D vwCl [(oa, (b3_5 0 0))] s.heap := hP
  have hl := lv_entry ([.ref oa, .int k1, .int 1]) (n := 3) (Nat.le_of_ble_eq_true rfl)
  rw [lg_entry_eq]
  generalize (lg_sl ([.ref oa, .int k1, .int 1]) ++ List.replicate (3 - (lg_sl ([.ref oa, .int k1, .int 1])).length) Slot.unset).toArray = ls at hl ⊢
  have hl : lv_has ls 3 [(0, .ref oa), (1, .int k1), (2, .int 1)] := hl
  refine lv_aload_n hx hb dX3_init_0 rfl (lv_at hl 0 rfl) ?_
  refine W.objInit hx hb hown (hg _ wd_529) (hg _ wd_525) (hg _ wd_obj) rfl (by rw [hml]; exact hl.1) rfl dX3_init_1 (Nat.le_of_ble_eq_true rfl) (Nat.le_of_ble_eq_true rfl) ?_
  refine W.eq (g2 := F0 m 4 ls []) rfl ?_
  refine lv_aload_n hx hb dX3_init_4 rfl (lv_at hl 0 rfl) ?_
  refine lv_iload_n hx hb dX3_init_5 rfl (lv_at hl 1 rfl) ?_
  refine va_putF (D := D) (ci := 3) (v := .int k1) (ty := .int) (C := RX3) (T := TX3) (N := 3) hx hb hg inG3 tyX3 tyX3_ok nmX3 hown hK hP hD hS 0 rfl rfl 0 (by decide) (hg _ wd_35) (fun _ h9 => h9) rfl hin rfl (by decide +kernel) rfl rfl (Nat.le_of_ble_eq_true rfl) dX3_init_6 (fun H_1 locs hP hD hS => ?_)
  have hP : va_P D vwCl [(oa, (b3_5 k1 0))] H_1 := hP
  have hD : va_D A [(oa, (b3_5 k1 0))] := hD
  refine lv_aload_n hx hb dX3_init_9 rfl (lv_at hl 0 rfl) ?_
  refine lv_iconst (v := 0) hx hb dX3_init_10 (by decide) ?_
  refine lv_iload_n hx hb dX3_init_11 rfl (lv_at hl 2 rfl) ?_
  refine va_mmax hx hb (by rw [hml]; exact hl.1.symm) hown (hg _ wd_530) (hg _ wd_100) (hg _ wd_12) (hg _ wd_101) (Nat.le_of_ble_eq_true rfl) (Nat.le_of_ble_eq_true rfl) (Nat.le_of_ble_eq_true rfl) (Nat.le_of_ble_eq_true rfl) dX3_init_12 ?_
  refine lv_topi (fun f_2 ef_2 => ?_)
  obtain rfl : f_2 = 1 := by rw [ef_2]; decide
  refine va_newa (atype := .int) (ty := .int) (a0 := (1, .inl (fun _ => 0))) hx hb (hg _ wd_531) rfl hK hP hD hS hA (fun cA => rfl) (by decide) (by decide) (Nat.le_of_ble_eq_true rfl) (Nat.le_of_ble_eq_true rfl) (Nat.le_of_ble_eq_true rfl) dX3_init_15 (fun q_3 cA_5 H_4 hK hP hD hS => ?_)
  have hK : va_K D vwCl [(cA_5, .int)] s := hK
  have hP : va_P D vwCl [(oa, (b3_5 k1 0)), (q_3, .inl (cA_5, 1, .inl (fun _ => 0)))] H_4 := hP
  have hD : va_D A [(oa, (b3_5 k1 0)), (q_3, .inl (cA_5, 1, .inl (fun _ => 0)))] := hD
  refine W.widen (k := 1) (n := 1) (Nat.le_of_ble_eq_true rfl) (Nat.le_of_ble_eq_true rfl) ?_
  refine va_putF (D := D) (ci := 3) (v := .ref q_3) (ty := .array .int) (C := RX3) (T := TX3) (N := 3) hx hb hg inG3 tyX3 tyX3_ok nmX3 hown hK hP hD hS 0 rfl rfl 1 (by decide) (hg _ wd_34) (fun _ h9 => h9) rfl hin rfl (by decide +kernel) rfl rfl (Nat.le_of_ble_eq_true rfl) dX3_init_17 (fun H_6 locs hP hD hS => ?_)
  have hP : va_P D vwCl [(oa, (b3_3 k1 q_3 0)), (q_3, .inl (cA_5, 1, .inl (fun _ => 0)))] H_6 := hP
  have hD : va_D A [(oa, (b3_3 k1 q_3 0)), (q_3, .inl (cA_5, 1, .inl (fun _ => 0)))] := hD
  have hP9 := hP.sub (ws' := [(oa, (b3_3 k1 q_3 0)), (q_3, .inl (cA_5, 1, .inl (fun _ => 0)))]) [0, 1] rfl
  have hD9 := hD.sub (ws' := [(oa, (b3_3 k1 q_3 0)), (q_3, .inl (cA_5, 1, .inl (fun _ => 0)))]) [0, 1] (by decide) rfl
  have hK9 := hK.sub (tys' := [(cA_5, .int)]) [0] rfl
  exact W.vret hx hb hr (fun t ht hW => ⟨⟨(), rfl, trivial, ⟨q_3, cA_5, by rw [ht]; exact hP9, va_K.moved hW.alike hK9, hD9⟩⟩, hS.F ht⟩) hS.2.2 dX3_init_20
set_option maxHeartbeats 4000000 in
set_option maxRecDepth 100000 in
theorem k_Leaf_2 (l : Launch) (D : va_G) (sz : Nat) (oa : Nat) (k1 : Int32) : Met l yX3_init (wsM yX3_init cX3_init 3 none) ({ frames := 1, cells := 1, slots := 2, locals := 14 }) (va_Pc [.ref oa, .int k1, .int 2] (Pr D [(oa, (b3_5 0 0))] [] sz)) (va_Qv (fun _ : Unit => True) (fun _ t => ∃ (e0 : Nat) (c0 : ClassId), Po D [(oa, (b3_3 k1 e0 0)), (e0, .inl (c0, 2, .inl (fun _ => 0)))] [(c0, .int)] (va_A [(oa, (b3_5 0 0))] sz) t) (va_A [(oa, (b3_5 0 0))] sz)) 1 2 (va_A [(oa, (b3_5 0 0))] sz) := by
  refine Met.ofW (cc := cX3_init) (maxL := 3) (ret := none) (by decide) rfl ?_
  intro p e s m args below meth c s₁ B hml hv
  obtain ⟨rfl, hsz, hP, hK, hD0, hN⟩ := hv
  have hx := B.exec
  have hb := B.bytes
  have hr := B.returns
  have hts := atoms_spec (ws := (wsM yX3_init cX3_init 3 none)) B.pre
  have hg : ∀ w ∈ lw_good, w.before _ s = true := fun w h => hts w (List.mem_cons_of_mem _ h)
  have hown : s.vm.findClass RX3 = some m.cls := findClass_of_methodNamed B.named
  have hlocks := B.notSynchronized
  have hin : meth.name = "<init>" := (name_of_methodNamed B.named B.method).1
  subst hsz
  have hD := hD0.self (sz := s.heap.size)
  generalize hAe : va_A [(oa, (b3_5 0 0))] s.heap.size = A at hD ⊢
  have hA : ∀ q : Nat, s.heap.size ≤ q → A q := fun q h => by rw [← hAe]; exact Or.inr h
  have hS : va_S A s.heap s.heap [] := va_S.rf
  have hP : va_P D vwCl [(oa, (b3_5 0 0))] s.heap := hP
  have hl := lv_entry ([.ref oa, .int k1, .int 2]) (n := 3) (Nat.le_of_ble_eq_true rfl)
  rw [lg_entry_eq]
  generalize (lg_sl ([.ref oa, .int k1, .int 2]) ++ List.replicate (3 - (lg_sl ([.ref oa, .int k1, .int 2])).length) Slot.unset).toArray = ls at hl ⊢
  have hl : lv_has ls 3 [(0, .ref oa), (1, .int k1), (2, .int 2)] := hl
  refine lv_aload_n hx hb dX3_init_0 rfl (lv_at hl 0 rfl) ?_
  refine W.objInit hx hb hown (hg _ wd_529) (hg _ wd_525) (hg _ wd_obj) rfl (by rw [hml]; exact hl.1) rfl dX3_init_1 (Nat.le_of_ble_eq_true rfl) (Nat.le_of_ble_eq_true rfl) ?_
  refine W.eq (g2 := F0 m 4 ls []) rfl ?_
  refine lv_aload_n hx hb dX3_init_4 rfl (lv_at hl 0 rfl) ?_
  refine lv_iload_n hx hb dX3_init_5 rfl (lv_at hl 1 rfl) ?_
  refine va_putF (D := D) (ci := 3) (v := .int k1) (ty := .int) (C := RX3) (T := TX3) (N := 3) hx hb hg inG3 tyX3 tyX3_ok nmX3 hown hK hP hD hS 0 rfl rfl 0 (by decide) (hg _ wd_35) (fun _ h9 => h9) rfl hin rfl (by decide +kernel) rfl rfl (Nat.le_of_ble_eq_true rfl) dX3_init_6 (fun H_1 locs hP hD hS => ?_)
  have hP : va_P D vwCl [(oa, (b3_5 k1 0))] H_1 := hP
  have hD : va_D A [(oa, (b3_5 k1 0))] := hD
  refine lv_aload_n hx hb dX3_init_9 rfl (lv_at hl 0 rfl) ?_
  refine lv_iconst (v := 0) hx hb dX3_init_10 (by decide) ?_
  refine lv_iload_n hx hb dX3_init_11 rfl (lv_at hl 2 rfl) ?_
  refine va_mmax hx hb (by rw [hml]; exact hl.1.symm) hown (hg _ wd_530) (hg _ wd_100) (hg _ wd_12) (hg _ wd_101) (Nat.le_of_ble_eq_true rfl) (Nat.le_of_ble_eq_true rfl) (Nat.le_of_ble_eq_true rfl) (Nat.le_of_ble_eq_true rfl) dX3_init_12 ?_
  refine lv_topi (fun f_2 ef_2 => ?_)
  obtain rfl : f_2 = 2 := by rw [ef_2]; decide
  refine va_newa (atype := .int) (ty := .int) (a0 := (2, .inl (fun _ => 0))) hx hb (hg _ wd_531) rfl hK hP hD hS hA (fun cA => rfl) (by decide) (by decide) (Nat.le_of_ble_eq_true rfl) (Nat.le_of_ble_eq_true rfl) (Nat.le_of_ble_eq_true rfl) dX3_init_15 (fun q_3 cA_5 H_4 hK hP hD hS => ?_)
  have hK : va_K D vwCl [(cA_5, .int)] s := hK
  have hP : va_P D vwCl [(oa, (b3_5 k1 0)), (q_3, .inl (cA_5, 2, .inl (fun _ => 0)))] H_4 := hP
  have hD : va_D A [(oa, (b3_5 k1 0)), (q_3, .inl (cA_5, 2, .inl (fun _ => 0)))] := hD
  refine W.widen (k := 1) (n := 2) (Nat.le_of_ble_eq_true rfl) (Nat.le_of_ble_eq_true rfl) ?_
  refine va_putF (D := D) (ci := 3) (v := .ref q_3) (ty := .array .int) (C := RX3) (T := TX3) (N := 3) hx hb hg inG3 tyX3 tyX3_ok nmX3 hown hK hP hD hS 0 rfl rfl 1 (by decide) (hg _ wd_34) (fun _ h9 => h9) rfl hin rfl (by decide +kernel) rfl rfl (Nat.le_of_ble_eq_true rfl) dX3_init_17 (fun H_6 locs hP hD hS => ?_)
  have hP : va_P D vwCl [(oa, (b3_3 k1 q_3 0)), (q_3, .inl (cA_5, 2, .inl (fun _ => 0)))] H_6 := hP
  have hD : va_D A [(oa, (b3_3 k1 q_3 0)), (q_3, .inl (cA_5, 2, .inl (fun _ => 0)))] := hD
  have hP9 := hP.sub (ws' := [(oa, (b3_3 k1 q_3 0)), (q_3, .inl (cA_5, 2, .inl (fun _ => 0)))]) [0, 1] rfl
  have hD9 := hD.sub (ws' := [(oa, (b3_3 k1 q_3 0)), (q_3, .inl (cA_5, 2, .inl (fun _ => 0)))]) [0, 1] (by decide) rfl
  have hK9 := hK.sub (tys' := [(cA_5, .int)]) [0] rfl
  exact W.vret hx hb hr (fun t ht hW => ⟨⟨(), rfl, trivial, ⟨q_3, cA_5, by rw [ht]; exact hP9, va_K.moved hW.alike hK9, hD9⟩⟩, hS.F ht⟩) hS.2.2 dX3_init_20
set_option maxHeartbeats 4000000 in
set_option maxRecDepth 100000 in
theorem k_Leaf_3 (l : Launch) (D : va_G) (sz : Nat) (oa : Nat) (k1 : Int32) : Met l yX3_init (wsM yX3_init cX3_init 3 none) ({ frames := 1, cells := 1, slots := 3, locals := 14 }) (va_Pc [.ref oa, .int k1, .int 3] (Pr D [(oa, (b3_5 0 0))] [] sz)) (va_Qv (fun _ : Unit => True) (fun _ t => ∃ (e0 : Nat) (c0 : ClassId), Po D [(oa, (b3_3 k1 e0 0)), (e0, .inl (c0, 3, .inl (fun _ => 0)))] [(c0, .int)] (va_A [(oa, (b3_5 0 0))] sz) t) (va_A [(oa, (b3_5 0 0))] sz)) 1 3 (va_A [(oa, (b3_5 0 0))] sz) := by
  refine Met.ofW (cc := cX3_init) (maxL := 3) (ret := none) (by decide) rfl ?_
  intro p e s m args below meth c s₁ B hml hv
  obtain ⟨rfl, hsz, hP, hK, hD0, hN⟩ := hv
  have hx := B.exec
  have hb := B.bytes
  have hr := B.returns
  have hts := atoms_spec (ws := (wsM yX3_init cX3_init 3 none)) B.pre
  have hg : ∀ w ∈ lw_good, w.before _ s = true := fun w h => hts w (List.mem_cons_of_mem _ h)
  have hown : s.vm.findClass RX3 = some m.cls := findClass_of_methodNamed B.named
  have hlocks := B.notSynchronized
  have hin : meth.name = "<init>" := (name_of_methodNamed B.named B.method).1
  subst hsz
  have hD := hD0.self (sz := s.heap.size)
  generalize hAe : va_A [(oa, (b3_5 0 0))] s.heap.size = A at hD ⊢
  have hA : ∀ q : Nat, s.heap.size ≤ q → A q := fun q h => by rw [← hAe]; exact Or.inr h
  have hS : va_S A s.heap s.heap [] := va_S.rf
  have hP : va_P D vwCl [(oa, (b3_5 0 0))] s.heap := hP
  have hl := lv_entry ([.ref oa, .int k1, .int 3]) (n := 3) (Nat.le_of_ble_eq_true rfl)
  rw [lg_entry_eq]
  generalize (lg_sl ([.ref oa, .int k1, .int 3]) ++ List.replicate (3 - (lg_sl ([.ref oa, .int k1, .int 3])).length) Slot.unset).toArray = ls at hl ⊢
  have hl : lv_has ls 3 [(0, .ref oa), (1, .int k1), (2, .int 3)] := hl
  refine lv_aload_n hx hb dX3_init_0 rfl (lv_at hl 0 rfl) ?_
  refine W.objInit hx hb hown (hg _ wd_529) (hg _ wd_525) (hg _ wd_obj) rfl (by rw [hml]; exact hl.1) rfl dX3_init_1 (Nat.le_of_ble_eq_true rfl) (Nat.le_of_ble_eq_true rfl) ?_
  refine W.eq (g2 := F0 m 4 ls []) rfl ?_
  refine lv_aload_n hx hb dX3_init_4 rfl (lv_at hl 0 rfl) ?_
  refine lv_iload_n hx hb dX3_init_5 rfl (lv_at hl 1 rfl) ?_
  refine va_putF (D := D) (ci := 3) (v := .int k1) (ty := .int) (C := RX3) (T := TX3) (N := 3) hx hb hg inG3 tyX3 tyX3_ok nmX3 hown hK hP hD hS 0 rfl rfl 0 (by decide) (hg _ wd_35) (fun _ h9 => h9) rfl hin rfl (by decide +kernel) rfl rfl (Nat.le_of_ble_eq_true rfl) dX3_init_6 (fun H_1 locs hP hD hS => ?_)
  have hP : va_P D vwCl [(oa, (b3_5 k1 0))] H_1 := hP
  have hD : va_D A [(oa, (b3_5 k1 0))] := hD
  refine lv_aload_n hx hb dX3_init_9 rfl (lv_at hl 0 rfl) ?_
  refine lv_iconst (v := 0) hx hb dX3_init_10 (by decide) ?_
  refine lv_iload_n hx hb dX3_init_11 rfl (lv_at hl 2 rfl) ?_
  refine va_mmax hx hb (by rw [hml]; exact hl.1.symm) hown (hg _ wd_530) (hg _ wd_100) (hg _ wd_12) (hg _ wd_101) (Nat.le_of_ble_eq_true rfl) (Nat.le_of_ble_eq_true rfl) (Nat.le_of_ble_eq_true rfl) (Nat.le_of_ble_eq_true rfl) dX3_init_12 ?_
  refine lv_topi (fun f_2 ef_2 => ?_)
  obtain rfl : f_2 = 3 := by rw [ef_2]; decide
  refine va_newa (atype := .int) (ty := .int) (a0 := (3, .inl (fun _ => 0))) hx hb (hg _ wd_531) rfl hK hP hD hS hA (fun cA => rfl) (by decide) (by decide) (Nat.le_of_ble_eq_true rfl) (Nat.le_of_ble_eq_true rfl) (Nat.le_of_ble_eq_true rfl) dX3_init_15 (fun q_3 cA_5 H_4 hK hP hD hS => ?_)
  have hK : va_K D vwCl [(cA_5, .int)] s := hK
  have hP : va_P D vwCl [(oa, (b3_5 k1 0)), (q_3, .inl (cA_5, 3, .inl (fun _ => 0)))] H_4 := hP
  have hD : va_D A [(oa, (b3_5 k1 0)), (q_3, .inl (cA_5, 3, .inl (fun _ => 0)))] := hD
  refine W.widen (k := 1) (n := 3) (Nat.le_of_ble_eq_true rfl) (Nat.le_of_ble_eq_true rfl) ?_
  refine va_putF (D := D) (ci := 3) (v := .ref q_3) (ty := .array .int) (C := RX3) (T := TX3) (N := 3) hx hb hg inG3 tyX3 tyX3_ok nmX3 hown hK hP hD hS 0 rfl rfl 1 (by decide) (hg _ wd_34) (fun _ h9 => h9) rfl hin rfl (by decide +kernel) rfl rfl (Nat.le_of_ble_eq_true rfl) dX3_init_17 (fun H_6 locs hP hD hS => ?_)
  have hP : va_P D vwCl [(oa, (b3_3 k1 q_3 0)), (q_3, .inl (cA_5, 3, .inl (fun _ => 0)))] H_6 := hP
  have hD : va_D A [(oa, (b3_3 k1 q_3 0)), (q_3, .inl (cA_5, 3, .inl (fun _ => 0)))] := hD
  have hP9 := hP.sub (ws' := [(oa, (b3_3 k1 q_3 0)), (q_3, .inl (cA_5, 3, .inl (fun _ => 0)))]) [0, 1] rfl
  have hD9 := hD.sub (ws' := [(oa, (b3_3 k1 q_3 0)), (q_3, .inl (cA_5, 3, .inl (fun _ => 0)))]) [0, 1] (by decide) rfl
  have hK9 := hK.sub (tys' := [(cA_5, .int)]) [0] rfl
  exact W.vret hx hb hr (fun t ht hW => ⟨⟨(), rfl, trivial, ⟨q_3, cA_5, by rw [ht]; exact hP9, va_K.moved hW.alike hK9, hD9⟩⟩, hS.F ht⟩) hS.2.2 dX3_init_20
set_option maxHeartbeats 4000000 in
set_option maxRecDepth 100000 in
theorem k_Leaf_4 (l : Launch) (D : va_G) (sz : Nat) (oa : Nat) (k1 : Int32) : Met l yX3_init (wsM yX3_init cX3_init 3 none) ({ frames := 1, cells := 1, slots := 4, locals := 14 }) (va_Pc [.ref oa, .int k1, .int 4] (Pr D [(oa, (b3_5 0 0))] [] sz)) (va_Qv (fun _ : Unit => True) (fun _ t => ∃ (e0 : Nat) (c0 : ClassId), Po D [(oa, (b3_3 k1 e0 0)), (e0, .inl (c0, 4, .inl (fun _ => 0)))] [(c0, .int)] (va_A [(oa, (b3_5 0 0))] sz) t) (va_A [(oa, (b3_5 0 0))] sz)) 1 4 (va_A [(oa, (b3_5 0 0))] sz) := by
  refine Met.ofW (cc := cX3_init) (maxL := 3) (ret := none) (by decide) rfl ?_
  intro p e s m args below meth c s₁ B hml hv
  obtain ⟨rfl, hsz, hP, hK, hD0, hN⟩ := hv
  have hx := B.exec
  have hb := B.bytes
  have hr := B.returns
  have hts := atoms_spec (ws := (wsM yX3_init cX3_init 3 none)) B.pre
  have hg : ∀ w ∈ lw_good, w.before _ s = true := fun w h => hts w (List.mem_cons_of_mem _ h)
  have hown : s.vm.findClass RX3 = some m.cls := findClass_of_methodNamed B.named
  have hlocks := B.notSynchronized
  have hin : meth.name = "<init>" := (name_of_methodNamed B.named B.method).1
  subst hsz
  have hD := hD0.self (sz := s.heap.size)
  generalize hAe : va_A [(oa, (b3_5 0 0))] s.heap.size = A at hD ⊢
  have hA : ∀ q : Nat, s.heap.size ≤ q → A q := fun q h => by rw [← hAe]; exact Or.inr h
  have hS : va_S A s.heap s.heap [] := va_S.rf
  have hP : va_P D vwCl [(oa, (b3_5 0 0))] s.heap := hP
  have hl := lv_entry ([.ref oa, .int k1, .int 4]) (n := 3) (Nat.le_of_ble_eq_true rfl)
  rw [lg_entry_eq]
  generalize (lg_sl ([.ref oa, .int k1, .int 4]) ++ List.replicate (3 - (lg_sl ([.ref oa, .int k1, .int 4])).length) Slot.unset).toArray = ls at hl ⊢
  have hl : lv_has ls 3 [(0, .ref oa), (1, .int k1), (2, .int 4)] := hl
  refine lv_aload_n hx hb dX3_init_0 rfl (lv_at hl 0 rfl) ?_
  refine W.objInit hx hb hown (hg _ wd_529) (hg _ wd_525) (hg _ wd_obj) rfl (by rw [hml]; exact hl.1) rfl dX3_init_1 (Nat.le_of_ble_eq_true rfl) (Nat.le_of_ble_eq_true rfl) ?_
  refine W.eq (g2 := F0 m 4 ls []) rfl ?_
  refine lv_aload_n hx hb dX3_init_4 rfl (lv_at hl 0 rfl) ?_
  refine lv_iload_n hx hb dX3_init_5 rfl (lv_at hl 1 rfl) ?_
  refine va_putF (D := D) (ci := 3) (v := .int k1) (ty := .int) (C := RX3) (T := TX3) (N := 3) hx hb hg inG3 tyX3 tyX3_ok nmX3 hown hK hP hD hS 0 rfl rfl 0 (by decide) (hg _ wd_35) (fun _ h9 => h9) rfl hin rfl (by decide +kernel) rfl rfl (Nat.le_of_ble_eq_true rfl) dX3_init_6 (fun H_1 locs hP hD hS => ?_)
  have hP : va_P D vwCl [(oa, (b3_5 k1 0))] H_1 := hP
  have hD : va_D A [(oa, (b3_5 k1 0))] := hD
  refine lv_aload_n hx hb dX3_init_9 rfl (lv_at hl 0 rfl) ?_
  refine lv_iconst (v := 0) hx hb dX3_init_10 (by decide) ?_
  refine lv_iload_n hx hb dX3_init_11 rfl (lv_at hl 2 rfl) ?_
  refine va_mmax hx hb (by rw [hml]; exact hl.1.symm) hown (hg _ wd_530) (hg _ wd_100) (hg _ wd_12) (hg _ wd_101) (Nat.le_of_ble_eq_true rfl) (Nat.le_of_ble_eq_true rfl) (Nat.le_of_ble_eq_true rfl) (Nat.le_of_ble_eq_true rfl) dX3_init_12 ?_
  refine lv_topi (fun f_2 ef_2 => ?_)
  obtain rfl : f_2 = 4 := by rw [ef_2]; decide
  refine va_newa (atype := .int) (ty := .int) (a0 := (4, .inl (fun _ => 0))) hx hb (hg _ wd_531) rfl hK hP hD hS hA (fun cA => rfl) (by decide) (by decide) (Nat.le_of_ble_eq_true rfl) (Nat.le_of_ble_eq_true rfl) (Nat.le_of_ble_eq_true rfl) dX3_init_15 (fun q_3 cA_5 H_4 hK hP hD hS => ?_)
  have hK : va_K D vwCl [(cA_5, .int)] s := hK
  have hP : va_P D vwCl [(oa, (b3_5 k1 0)), (q_3, .inl (cA_5, 4, .inl (fun _ => 0)))] H_4 := hP
  have hD : va_D A [(oa, (b3_5 k1 0)), (q_3, .inl (cA_5, 4, .inl (fun _ => 0)))] := hD
  refine W.widen (k := 1) (n := 4) (Nat.le_of_ble_eq_true rfl) (Nat.le_of_ble_eq_true rfl) ?_
  refine va_putF (D := D) (ci := 3) (v := .ref q_3) (ty := .array .int) (C := RX3) (T := TX3) (N := 3) hx hb hg inG3 tyX3 tyX3_ok nmX3 hown hK hP hD hS 0 rfl rfl 1 (by decide) (hg _ wd_34) (fun _ h9 => h9) rfl hin rfl (by decide +kernel) rfl rfl (Nat.le_of_ble_eq_true rfl) dX3_init_17 (fun H_6 locs hP hD hS => ?_)
  have hP : va_P D vwCl [(oa, (b3_3 k1 q_3 0)), (q_3, .inl (cA_5, 4, .inl (fun _ => 0)))] H_6 := hP
  have hD : va_D A [(oa, (b3_3 k1 q_3 0)), (q_3, .inl (cA_5, 4, .inl (fun _ => 0)))] := hD
  have hP9 := hP.sub (ws' := [(oa, (b3_3 k1 q_3 0)), (q_3, .inl (cA_5, 4, .inl (fun _ => 0)))]) [0, 1] rfl
  have hD9 := hD.sub (ws' := [(oa, (b3_3 k1 q_3 0)), (q_3, .inl (cA_5, 4, .inl (fun _ => 0)))]) [0, 1] (by decide) rfl
  have hK9 := hK.sub (tys' := [(cA_5, .int)]) [0] rfl
  exact W.vret hx hb hr (fun t ht hW => ⟨⟨(), rfl, trivial, ⟨q_3, cA_5, by rw [ht]; exact hP9, va_K.moved hW.alike hK9, hD9⟩⟩, hS.F ht⟩) hS.2.2 dX3_init_20
set_option maxHeartbeats 4000000 in
set_option maxRecDepth 100000 in
theorem k_Leaf_5 (l : Launch) (D : va_G) (sz : Nat) (oa : Nat) (k1 : Int32) : Met l yX3_init (wsM yX3_init cX3_init 3 none) ({ frames := 1, cells := 1, slots := 5, locals := 14 }) (va_Pc [.ref oa, .int k1, .int 5] (Pr D [(oa, (b3_5 0 0))] [] sz)) (va_Qv (fun _ : Unit => True) (fun _ t => ∃ (e0 : Nat) (c0 : ClassId), Po D [(oa, (b3_3 k1 e0 0)), (e0, .inl (c0, 5, .inl (fun _ => 0)))] [(c0, .int)] (va_A [(oa, (b3_5 0 0))] sz) t) (va_A [(oa, (b3_5 0 0))] sz)) 1 5 (va_A [(oa, (b3_5 0 0))] sz) := by
  refine Met.ofW (cc := cX3_init) (maxL := 3) (ret := none) (by decide) rfl ?_
  intro p e s m args below meth c s₁ B hml hv
  obtain ⟨rfl, hsz, hP, hK, hD0, hN⟩ := hv
  have hx := B.exec
  have hb := B.bytes
  have hr := B.returns
  have hts := atoms_spec (ws := (wsM yX3_init cX3_init 3 none)) B.pre
  have hg : ∀ w ∈ lw_good, w.before _ s = true := fun w h => hts w (List.mem_cons_of_mem _ h)
  have hown : s.vm.findClass RX3 = some m.cls := findClass_of_methodNamed B.named
  have hlocks := B.notSynchronized
  have hin : meth.name = "<init>" := (name_of_methodNamed B.named B.method).1
  subst hsz
  have hD := hD0.self (sz := s.heap.size)
  generalize hAe : va_A [(oa, (b3_5 0 0))] s.heap.size = A at hD ⊢
  have hA : ∀ q : Nat, s.heap.size ≤ q → A q := fun q h => by rw [← hAe]; exact Or.inr h
  have hS : va_S A s.heap s.heap [] := va_S.rf
  have hP : va_P D vwCl [(oa, (b3_5 0 0))] s.heap := hP
  have hl := lv_entry ([.ref oa, .int k1, .int 5]) (n := 3) (Nat.le_of_ble_eq_true rfl)
  rw [lg_entry_eq]
  generalize (lg_sl ([.ref oa, .int k1, .int 5]) ++ List.replicate (3 - (lg_sl ([.ref oa, .int k1, .int 5])).length) Slot.unset).toArray = ls at hl ⊢
  have hl : lv_has ls 3 [(0, .ref oa), (1, .int k1), (2, .int 5)] := hl
  refine lv_aload_n hx hb dX3_init_0 rfl (lv_at hl 0 rfl) ?_
  refine W.objInit hx hb hown (hg _ wd_529) (hg _ wd_525) (hg _ wd_obj) rfl (by rw [hml]; exact hl.1) rfl dX3_init_1 (Nat.le_of_ble_eq_true rfl) (Nat.le_of_ble_eq_true rfl) ?_
  refine W.eq (g2 := F0 m 4 ls []) rfl ?_
  refine lv_aload_n hx hb dX3_init_4 rfl (lv_at hl 0 rfl) ?_
  refine lv_iload_n hx hb dX3_init_5 rfl (lv_at hl 1 rfl) ?_
  refine va_putF (D := D) (ci := 3) (v := .int k1) (ty := .int) (C := RX3) (T := TX3) (N := 3) hx hb hg inG3 tyX3 tyX3_ok nmX3 hown hK hP hD hS 0 rfl rfl 0 (by decide) (hg _ wd_35) (fun _ h9 => h9) rfl hin rfl (by decide +kernel) rfl rfl (Nat.le_of_ble_eq_true rfl) dX3_init_6 (fun H_1 locs hP hD hS => ?_)
  have hP : va_P D vwCl [(oa, (b3_5 k1 0))] H_1 := hP
  have hD : va_D A [(oa, (b3_5 k1 0))] := hD
  refine lv_aload_n hx hb dX3_init_9 rfl (lv_at hl 0 rfl) ?_
  refine lv_iconst (v := 0) hx hb dX3_init_10 (by decide) ?_
  refine lv_iload_n hx hb dX3_init_11 rfl (lv_at hl 2 rfl) ?_
  refine va_mmax hx hb (by rw [hml]; exact hl.1.symm) hown (hg _ wd_530) (hg _ wd_100) (hg _ wd_12) (hg _ wd_101) (Nat.le_of_ble_eq_true rfl) (Nat.le_of_ble_eq_true rfl) (Nat.le_of_ble_eq_true rfl) (Nat.le_of_ble_eq_true rfl) dX3_init_12 ?_
  refine lv_topi (fun f_2 ef_2 => ?_)
  obtain rfl : f_2 = 5 := by rw [ef_2]; decide
  refine va_newa (atype := .int) (ty := .int) (a0 := (5, .inl (fun _ => 0))) hx hb (hg _ wd_531) rfl hK hP hD hS hA (fun cA => rfl) (by decide) (by decide) (Nat.le_of_ble_eq_true rfl) (Nat.le_of_ble_eq_true rfl) (Nat.le_of_ble_eq_true rfl) dX3_init_15 (fun q_3 cA_5 H_4 hK hP hD hS => ?_)
  have hK : va_K D vwCl [(cA_5, .int)] s := hK
  have hP : va_P D vwCl [(oa, (b3_5 k1 0)), (q_3, .inl (cA_5, 5, .inl (fun _ => 0)))] H_4 := hP
  have hD : va_D A [(oa, (b3_5 k1 0)), (q_3, .inl (cA_5, 5, .inl (fun _ => 0)))] := hD
  refine W.widen (k := 1) (n := 5) (Nat.le_of_ble_eq_true rfl) (Nat.le_of_ble_eq_true rfl) ?_
  refine va_putF (D := D) (ci := 3) (v := .ref q_3) (ty := .array .int) (C := RX3) (T := TX3) (N := 3) hx hb hg inG3 tyX3 tyX3_ok nmX3 hown hK hP hD hS 0 rfl rfl 1 (by decide) (hg _ wd_34) (fun _ h9 => h9) rfl hin rfl (by decide +kernel) rfl rfl (Nat.le_of_ble_eq_true rfl) dX3_init_17 (fun H_6 locs hP hD hS => ?_)
  have hP : va_P D vwCl [(oa, (b3_3 k1 q_3 0)), (q_3, .inl (cA_5, 5, .inl (fun _ => 0)))] H_6 := hP
  have hD : va_D A [(oa, (b3_3 k1 q_3 0)), (q_3, .inl (cA_5, 5, .inl (fun _ => 0)))] := hD
  have hP9 := hP.sub (ws' := [(oa, (b3_3 k1 q_3 0)), (q_3, .inl (cA_5, 5, .inl (fun _ => 0)))]) [0, 1] rfl
  have hD9 := hD.sub (ws' := [(oa, (b3_3 k1 q_3 0)), (q_3, .inl (cA_5, 5, .inl (fun _ => 0)))]) [0, 1] (by decide) rfl
  have hK9 := hK.sub (tys' := [(cA_5, .int)]) [0] rfl
  exact W.vret hx hb hr (fun t ht hW => ⟨⟨(), rfl, trivial, ⟨q_3, cA_5, by rw [ht]; exact hP9, va_K.moved hW.alike hK9, hD9⟩⟩, hS.F ht⟩) hS.2.2 dX3_init_20
set_option maxHeartbeats 4000000 in
set_option maxRecDepth 100000 in
theorem k_Leaf_6 (l : Launch) (D : va_G) (sz : Nat) (oa : Nat) (k1 : Int32) : Met l yX3_init (wsM yX3_init cX3_init 3 none) ({ frames := 1, cells := 1, slots := 6, locals := 14 }) (va_Pc [.ref oa, .int k1, .int 6] (Pr D [(oa, (b3_5 0 0))] [] sz)) (va_Qv (fun _ : Unit => True) (fun _ t => ∃ (e0 : Nat) (c0 : ClassId), Po D [(oa, (b3_3 k1 e0 0)), (e0, .inl (c0, 6, .inl (fun _ => 0)))] [(c0, .int)] (va_A [(oa, (b3_5 0 0))] sz) t) (va_A [(oa, (b3_5 0 0))] sz)) 1 6 (va_A [(oa, (b3_5 0 0))] sz) := by
  refine Met.ofW (cc := cX3_init) (maxL := 3) (ret := none) (by decide) rfl ?_
  intro p e s m args below meth c s₁ B hml hv
  obtain ⟨rfl, hsz, hP, hK, hD0, hN⟩ := hv
  have hx := B.exec
  have hb := B.bytes
  have hr := B.returns
  have hts := atoms_spec (ws := (wsM yX3_init cX3_init 3 none)) B.pre
  have hg : ∀ w ∈ lw_good, w.before _ s = true := fun w h => hts w (List.mem_cons_of_mem _ h)
  have hown : s.vm.findClass RX3 = some m.cls := findClass_of_methodNamed B.named
  have hlocks := B.notSynchronized
  have hin : meth.name = "<init>" := (name_of_methodNamed B.named B.method).1
  subst hsz
  have hD := hD0.self (sz := s.heap.size)
  generalize hAe : va_A [(oa, (b3_5 0 0))] s.heap.size = A at hD ⊢
  have hA : ∀ q : Nat, s.heap.size ≤ q → A q := fun q h => by rw [← hAe]; exact Or.inr h
  have hS : va_S A s.heap s.heap [] := va_S.rf
  have hP : va_P D vwCl [(oa, (b3_5 0 0))] s.heap := hP
  have hl := lv_entry ([.ref oa, .int k1, .int 6]) (n := 3) (Nat.le_of_ble_eq_true rfl)
  rw [lg_entry_eq]
  generalize (lg_sl ([.ref oa, .int k1, .int 6]) ++ List.replicate (3 - (lg_sl ([.ref oa, .int k1, .int 6])).length) Slot.unset).toArray = ls at hl ⊢
  have hl : lv_has ls 3 [(0, .ref oa), (1, .int k1), (2, .int 6)] := hl
  refine lv_aload_n hx hb dX3_init_0 rfl (lv_at hl 0 rfl) ?_
  refine W.objInit hx hb hown (hg _ wd_529) (hg _ wd_525) (hg _ wd_obj) rfl (by rw [hml]; exact hl.1) rfl dX3_init_1 (Nat.le_of_ble_eq_true rfl) (Nat.le_of_ble_eq_true rfl) ?_
  refine W.eq (g2 := F0 m 4 ls []) rfl ?_
  refine lv_aload_n hx hb dX3_init_4 rfl (lv_at hl 0 rfl) ?_
  refine lv_iload_n hx hb dX3_init_5 rfl (lv_at hl 1 rfl) ?_
  refine va_putF (D := D) (ci := 3) (v := .int k1) (ty := .int) (C := RX3) (T := TX3) (N := 3) hx hb hg inG3 tyX3 tyX3_ok nmX3 hown hK hP hD hS 0 rfl rfl 0 (by decide) (hg _ wd_35) (fun _ h9 => h9) rfl hin rfl (by decide +kernel) rfl rfl (Nat.le_of_ble_eq_true rfl) dX3_init_6 (fun H_1 locs hP hD hS => ?_)
  have hP : va_P D vwCl [(oa, (b3_5 k1 0))] H_1 := hP
  have hD : va_D A [(oa, (b3_5 k1 0))] := hD
  refine lv_aload_n hx hb dX3_init_9 rfl (lv_at hl 0 rfl) ?_
  refine lv_iconst (v := 0) hx hb dX3_init_10 (by decide) ?_
  refine lv_iload_n hx hb dX3_init_11 rfl (lv_at hl 2 rfl) ?_
  refine va_mmax hx hb (by rw [hml]; exact hl.1.symm) hown (hg _ wd_530) (hg _ wd_100) (hg _ wd_12) (hg _ wd_101) (Nat.le_of_ble_eq_true rfl) (Nat.le_of_ble_eq_true rfl) (Nat.le_of_ble_eq_true rfl) (Nat.le_of_ble_eq_true rfl) dX3_init_12 ?_
  refine lv_topi (fun f_2 ef_2 => ?_)
  obtain rfl : f_2 = 6 := by rw [ef_2]; decide
  refine va_newa (atype := .int) (ty := .int) (a0 := (6, .inl (fun _ => 0))) hx hb (hg _ wd_531) rfl hK hP hD hS hA (fun cA => rfl) (by decide) (by decide) (Nat.le_of_ble_eq_true rfl) (Nat.le_of_ble_eq_true rfl) (Nat.le_of_ble_eq_true rfl) dX3_init_15 (fun q_3 cA_5 H_4 hK hP hD hS => ?_)
  have hK : va_K D vwCl [(cA_5, .int)] s := hK
  have hP : va_P D vwCl [(oa, (b3_5 k1 0)), (q_3, .inl (cA_5, 6, .inl (fun _ => 0)))] H_4 := hP
  have hD : va_D A [(oa, (b3_5 k1 0)), (q_3, .inl (cA_5, 6, .inl (fun _ => 0)))] := hD
  refine W.widen (k := 1) (n := 6) (Nat.le_of_ble_eq_true rfl) (Nat.le_of_ble_eq_true rfl) ?_
  refine va_putF (D := D) (ci := 3) (v := .ref q_3) (ty := .array .int) (C := RX3) (T := TX3) (N := 3) hx hb hg inG3 tyX3 tyX3_ok nmX3 hown hK hP hD hS 0 rfl rfl 1 (by decide) (hg _ wd_34) (fun _ h9 => h9) rfl hin rfl (by decide +kernel) rfl rfl (Nat.le_of_ble_eq_true rfl) dX3_init_17 (fun H_6 locs hP hD hS => ?_)
  have hP : va_P D vwCl [(oa, (b3_3 k1 q_3 0)), (q_3, .inl (cA_5, 6, .inl (fun _ => 0)))] H_6 := hP
  have hD : va_D A [(oa, (b3_3 k1 q_3 0)), (q_3, .inl (cA_5, 6, .inl (fun _ => 0)))] := hD
  have hP9 := hP.sub (ws' := [(oa, (b3_3 k1 q_3 0)), (q_3, .inl (cA_5, 6, .inl (fun _ => 0)))]) [0, 1] rfl
  have hD9 := hD.sub (ws' := [(oa, (b3_3 k1 q_3 0)), (q_3, .inl (cA_5, 6, .inl (fun _ => 0)))]) [0, 1] (by decide) rfl
  have hK9 := hK.sub (tys' := [(cA_5, .int)]) [0] rfl
  exact W.vret hx hb hr (fun t ht hW => ⟨⟨(), rfl, trivial, ⟨q_3, cA_5, by rw [ht]; exact hP9, va_K.moved hW.alike hK9, hD9⟩⟩, hS.F ht⟩) hS.2.2 dX3_init_20
set_option maxHeartbeats 4000000 in
set_option maxRecDepth 100000 in
theorem k_Partner_n (l : Launch) (D : va_G) (sz : Nat) (oa : Nat) (k1 : Int32) (k2 : Int32) (k3 : Int32) : Met l yX4_init (wsM yX4_init cX4_init 5 none) ({ frames := 1, cells := 0, slots := 0, locals := 12 }) (va_Pc [.ref oa, .int k1, .int k2, .int k3, .null] (Pr D [(oa, (b4_12 0 0 0))] [] sz)) (va_Qv (fun _ : Unit => True) (fun _ t => Po D [(oa, (b4_12 k1 k2 k3))] [] (va_A [(oa, (b4_12 0 0 0))] sz) t) (va_A [(oa, (b4_12 0 0 0))] sz)) 0 0 (va_A [(oa, (b4_12 0 0 0))] sz) := by
  refine Met.ofW (cc := cX4_init) (maxL := 5) (ret := none) (by decide) rfl ?_
  intro p e s m args below meth c s₁ B hml hv
  obtain ⟨rfl, hsz, hP, hK, hD0, hN⟩ := hv
  have hx := B.exec
  have hb := B.bytes
  have hr := B.returns
  have hts := atoms_spec (ws := (wsM yX4_init cX4_init 5 none)) B.pre
  have hg : ∀ w ∈ lw_good, w.before _ s = true := fun w h => hts w (List.mem_cons_of_mem _ h)
  have hown : s.vm.findClass RX4 = some m.cls := findClass_of_methodNamed B.named
  have hlocks := B.notSynchronized
  have hin : meth.name = "<init>" := (name_of_methodNamed B.named B.method).1
  subst hsz
  have hD := hD0.self (sz := s.heap.size)
  generalize hAe : va_A [(oa, (b4_12 0 0 0))] s.heap.size = A at hD ⊢
  have hA : ∀ q : Nat, s.heap.size ≤ q → A q := fun q h => by rw [← hAe]; exact Or.inr h
  have hS : va_S A s.heap s.heap [] := va_S.rf
  have hP : va_P D vwCl [(oa, (b4_12 0 0 0))] s.heap := hP
  have hl := lv_entry ([.ref oa, .int k1, .int k2, .int k3, .null]) (n := 5) (Nat.le_of_ble_eq_true rfl)
  rw [lg_entry_eq]
  generalize (lg_sl ([.ref oa, .int k1, .int k2, .int k3, .null]) ++ List.replicate (5 - (lg_sl ([.ref oa, .int k1, .int k2, .int k3, .null])).length) Slot.unset).toArray = ls at hl ⊢
  have hl : lv_has ls 5 [(0, .ref oa), (1, .int k1), (2, .int k2), (3, .int k3), (4, .null)] := hl
  refine lv_aload_n hx hb dX4_init_0 rfl (lv_at hl 0 rfl) ?_
  refine W.objInit hx hb hown (hg _ wd_532) (hg _ wd_525) (hg _ wd_obj) rfl (by rw [hml]; exact hl.1) rfl dX4_init_1 (Nat.le_of_ble_eq_true rfl) (Nat.le_of_ble_eq_true rfl) ?_
  refine W.eq (g2 := F0 m 4 ls []) rfl ?_
  refine lv_aload_n hx hb dX4_init_4 rfl (lv_at hl 0 rfl) ?_
  refine lv_iload_n hx hb dX4_init_5 rfl (lv_at hl 1 rfl) ?_
  refine va_putF (D := D) (ci := 4) (v := .int k1) (ty := .int) (C := RX4) (T := TX4) (N := 4) hx hb hg inG4 tyX4 tyX4_ok nmX4 hown hK hP hD hS 0 rfl rfl 0 (by decide) (hg _ wd_533) (fun _ h9 => h9) rfl hin rfl (by decide +kernel) rfl rfl (Nat.le_of_ble_eq_true rfl) dX4_init_6 (fun H_1 locs hP hD hS => ?_)
  have hP : va_P D vwCl [(oa, (b4_12 k1 0 0))] H_1 := hP
  have hD : va_D A [(oa, (b4_12 k1 0 0))] := hD
  refine lv_aload_n hx hb dX4_init_9 rfl (lv_at hl 0 rfl) ?_
  refine lv_iload_n hx hb dX4_init_10 rfl (lv_at hl 2 rfl) ?_
  refine va_putF (D := D) (ci := 4) (v := .int k2) (ty := .int) (C := RX4) (T := TX4) (N := 4) hx hb hg inG4 tyX4 tyX4_ok nmX4 hown hK hP hD hS 0 rfl rfl 1 (by decide) (hg _ wd_1) (fun _ h9 => h9) rfl hin rfl (by decide +kernel) rfl rfl (Nat.le_of_ble_eq_true rfl) dX4_init_11 (fun H_2 locs hP hD hS => ?_)
  have hP : va_P D vwCl [(oa, (b4_12 k1 k2 0))] H_2 := hP
  have hD : va_D A [(oa, (b4_12 k1 k2 0))] := hD
  refine lv_aload_n hx hb dX4_init_14 rfl (lv_at hl 0 rfl) ?_
  refine lv_iload_n hx hb dX4_init_15 rfl (lv_at hl 3 rfl) ?_
  refine va_putF (D := D) (ci := 4) (v := .int k3) (ty := .int) (C := RX4) (T := TX4) (N := 4) hx hb hg inG4 tyX4 tyX4_ok nmX4 hown hK hP hD hS 0 rfl rfl 2 (by decide) (hg _ wd_534) (fun _ h9 => h9) rfl hin rfl (by decide +kernel) rfl rfl (Nat.le_of_ble_eq_true rfl) dX4_init_16 (fun H_3 locs hP hD hS => ?_)
  have hP : va_P D vwCl [(oa, (b4_12 k1 k2 k3))] H_3 := hP
  have hD : va_D A [(oa, (b4_12 k1 k2 k3))] := hD
  refine lv_aload_n hx hb dX4_init_19 rfl (lv_at hl 0 rfl) ?_
  refine lv_aloadN hx hb dX4_init_20 (lv_at hl 4 rfl) ?_
  refine va_putF (D := D) (ci := 4) (v := .null) (ty := .object "PartnersBook$House") (C := RX4) (T := TX4) (N := 4) hx hb hg inG4 tyX4 tyX4_ok nmX4 hown hK hP hD hS 0 rfl rfl 3 (by decide) (hg _ wd_535) (fun _ h9 => h9) rfl hin rfl (by decide +kernel) rfl rfl (Nat.le_of_ble_eq_true rfl) dX4_init_22 (fun H_4 locs hP hD hS => ?_)
  have hP : va_P D vwCl [(oa, (b4_12 k1 k2 k3))] H_4 := hP
  have hD : va_D A [(oa, (b4_12 k1 k2 k3))] := hD
  have hP9 := hP.sub (ws' := [(oa, (b4_12 k1 k2 k3))]) [0] rfl
  have hD9 := hD.sub (ws' := [(oa, (b4_12 k1 k2 k3))]) [0] (by decide) rfl
  have hK9 := hK.sub (tys' := []) [] rfl
  exact W.vret hx hb hr (fun t ht hW => ⟨⟨(), rfl, trivial, ⟨by rw [ht]; exact hP9, va_K.moved hW.alike hK9, hD9⟩⟩, hS.F ht⟩) hS.2.2 dX4_init_25
set_option maxHeartbeats 4000000 in
set_option maxRecDepth 100000 in
theorem k_Partner_r (l : Launch) (D : va_G) (sz : Nat) (oa : Nat) (k1 : Int32) (k2 : Int32) (k3 : Int32) (k4 : Nat) : Met l yX4_init (wsM yX4_init cX4_init 5 none) ({ frames := 1, cells := 0, slots := 0, locals := 12 }) (va_Pc [.ref oa, .int k1, .int k2, .int k3, .ref k4] (Pr D [(oa, (b4_12 0 0 0))] [] sz)) (va_Qv (fun _ : Unit => True) (fun _ t => Po D [(oa, .inr (4, [.int k1, .int k2, .int k3, .ref k4]))] [] (va_A [(oa, (b4_12 0 0 0))] sz) t) (va_A [(oa, (b4_12 0 0 0))] sz)) 0 0 (va_A [(oa, (b4_12 0 0 0))] sz) := by
  refine Met.ofW (cc := cX4_init) (maxL := 5) (ret := none) (by decide) rfl ?_
  intro p e s m args below meth c s₁ B hml hv
  obtain ⟨rfl, hsz, hP, hK, hD0, hN⟩ := hv
  have hx := B.exec
  have hb := B.bytes
  have hr := B.returns
  have hts := atoms_spec (ws := (wsM yX4_init cX4_init 5 none)) B.pre
  have hg : ∀ w ∈ lw_good, w.before _ s = true := fun w h => hts w (List.mem_cons_of_mem _ h)
  have hown : s.vm.findClass RX4 = some m.cls := findClass_of_methodNamed B.named
  have hlocks := B.notSynchronized
  have hin : meth.name = "<init>" := (name_of_methodNamed B.named B.method).1
  subst hsz
  have hD := hD0.self (sz := s.heap.size)
  generalize hAe : va_A [(oa, (b4_12 0 0 0))] s.heap.size = A at hD ⊢
  have hA : ∀ q : Nat, s.heap.size ≤ q → A q := fun q h => by rw [← hAe]; exact Or.inr h
  have hS : va_S A s.heap s.heap [] := va_S.rf
  have hP : va_P D vwCl [(oa, (b4_12 0 0 0))] s.heap := hP
  have hl := lv_entry ([.ref oa, .int k1, .int k2, .int k3, .ref k4]) (n := 5) (Nat.le_of_ble_eq_true rfl)
  rw [lg_entry_eq]
  generalize (lg_sl ([.ref oa, .int k1, .int k2, .int k3, .ref k4]) ++ List.replicate (5 - (lg_sl ([.ref oa, .int k1, .int k2, .int k3, .ref k4])).length) Slot.unset).toArray = ls at hl ⊢
  have hl : lv_has ls 5 [(0, .ref oa), (1, .int k1), (2, .int k2), (3, .int k3), (4, .ref k4)] := hl
  refine lv_aload_n hx hb dX4_init_0 rfl (lv_at hl 0 rfl) ?_
  refine W.objInit hx hb hown (hg _ wd_532) (hg _ wd_525) (hg _ wd_obj) rfl (by rw [hml]; exact hl.1) rfl dX4_init_1 (Nat.le_of_ble_eq_true rfl) (Nat.le_of_ble_eq_true rfl) ?_
  refine W.eq (g2 := F0 m 4 ls []) rfl ?_
  refine lv_aload_n hx hb dX4_init_4 rfl (lv_at hl 0 rfl) ?_
  refine lv_iload_n hx hb dX4_init_5 rfl (lv_at hl 1 rfl) ?_
  refine va_putF (D := D) (ci := 4) (v := .int k1) (ty := .int) (C := RX4) (T := TX4) (N := 4) hx hb hg inG4 tyX4 tyX4_ok nmX4 hown hK hP hD hS 0 rfl rfl 0 (by decide) (hg _ wd_533) (fun _ h9 => h9) rfl hin rfl (by decide +kernel) rfl rfl (Nat.le_of_ble_eq_true rfl) dX4_init_6 (fun H_1 locs hP hD hS => ?_)
  have hP : va_P D vwCl [(oa, (b4_12 k1 0 0))] H_1 := hP
  have hD : va_D A [(oa, (b4_12 k1 0 0))] := hD
  refine lv_aload_n hx hb dX4_init_9 rfl (lv_at hl 0 rfl) ?_
  refine lv_iload_n hx hb dX4_init_10 rfl (lv_at hl 2 rfl) ?_
  refine va_putF (D := D) (ci := 4) (v := .int k2) (ty := .int) (C := RX4) (T := TX4) (N := 4) hx hb hg inG4 tyX4 tyX4_ok nmX4 hown hK hP hD hS 0 rfl rfl 1 (by decide) (hg _ wd_1) (fun _ h9 => h9) rfl hin rfl (by decide +kernel) rfl rfl (Nat.le_of_ble_eq_true rfl) dX4_init_11 (fun H_2 locs hP hD hS => ?_)
  have hP : va_P D vwCl [(oa, (b4_12 k1 k2 0))] H_2 := hP
  have hD : va_D A [(oa, (b4_12 k1 k2 0))] := hD
  refine lv_aload_n hx hb dX4_init_14 rfl (lv_at hl 0 rfl) ?_
  refine lv_iload_n hx hb dX4_init_15 rfl (lv_at hl 3 rfl) ?_
  refine va_putF (D := D) (ci := 4) (v := .int k3) (ty := .int) (C := RX4) (T := TX4) (N := 4) hx hb hg inG4 tyX4 tyX4_ok nmX4 hown hK hP hD hS 0 rfl rfl 2 (by decide) (hg _ wd_534) (fun _ h9 => h9) rfl hin rfl (by decide +kernel) rfl rfl (Nat.le_of_ble_eq_true rfl) dX4_init_16 (fun H_3 locs hP hD hS => ?_)
  have hP : va_P D vwCl [(oa, (b4_12 k1 k2 k3))] H_3 := hP
  have hD : va_D A [(oa, (b4_12 k1 k2 k3))] := hD
  refine lv_aload_n hx hb dX4_init_19 rfl (lv_at hl 0 rfl) ?_
  refine lv_aload hx hb dX4_init_20 (lv_at hl 4 rfl) ?_
  refine va_putF (D := D) (ci := 4) (v := .ref k4) (ty := .object "PartnersBook$House") (C := RX4) (T := TX4) (N := 4) hx hb hg inG4 tyX4 tyX4_ok nmX4 hown hK hP hD hS 0 rfl rfl 3 (by decide) (hg _ wd_535) (fun _ h9 => h9) rfl hin rfl (by decide +kernel) rfl rfl (Nat.le_of_ble_eq_true rfl) dX4_init_22 (fun H_4 locs hP hD hS => ?_)
  have hP : va_P D vwCl [(oa, .inr (4, [.int k1, .int k2, .int k3, .ref k4]))] H_4 := hP
  have hD : va_D A [(oa, .inr (4, [.int k1, .int k2, .int k3, .ref k4]))] := hD
  have hP9 := hP.sub (ws' := [(oa, .inr (4, [.int k1, .int k2, .int k3, .ref k4]))]) [0] rfl
  have hD9 := hD.sub (ws' := [(oa, .inr (4, [.int k1, .int k2, .int k3, .ref k4]))]) [0] (by decide) rfl
  have hK9 := hK.sub (tys' := []) [] rfl
  exact W.vret hx hb hr (fun t ht hW => ⟨⟨(), rfl, trivial, ⟨by rw [ht]; exact hP9, va_K.moved hW.alike hK9, hD9⟩⟩, hS.F ht⟩) hS.2.2 dX4_init_25
set_option maxHeartbeats 4000000 in
set_option maxRecDepth 100000 in
theorem k_Undo (l : Launch) (D : va_G) (sz : Nat) (oa : Nat) : Met l yX10_init (wsM yX10_init cX10_init 1 none) ({ frames := 1, cells := 1, slots := 60, locals := 12 }) (va_Pc [.ref oa] (Pr D [(oa, .inr (10, [.null, .int 0, .int 0]))] [] sz)) (va_Qv (fun _ : Unit => True) (fun _ t => ∃ (e0 : Nat) (c0 : ClassId), Po D [(oa, (b10_15 e0 0 0)), (e0, .inl (c0, 60, .inl (fun _ => 0)))] [(c0, .int)] (va_A [(oa, .inr (10, [.null, .int 0, .int 0]))] sz) t) (va_A [(oa, .inr (10, [.null, .int 0, .int 0]))] sz)) 1 60 (va_A [(oa, .inr (10, [.null, .int 0, .int 0]))] sz) := by
  refine Met.ofW (cc := cX10_init) (maxL := 1) (ret := none) (by decide) rfl ?_
  intro p e s m args below meth c s₁ B hml hv
  obtain ⟨rfl, hsz, hP, hK, hD0, hN⟩ := hv
  have hx := B.exec
  have hb := B.bytes
  have hr := B.returns
  have hts := atoms_spec (ws := (wsM yX10_init cX10_init 1 none)) B.pre
  have hg : ∀ w ∈ lw_good, w.before _ s = true := fun w h => hts w (List.mem_cons_of_mem _ h)
  have hown : s.vm.findClass RX10 = some m.cls := findClass_of_methodNamed B.named
  have hlocks := B.notSynchronized
  have hin : meth.name = "<init>" := (name_of_methodNamed B.named B.method).1
  subst hsz
  have hD := hD0.self (sz := s.heap.size)
  generalize hAe : va_A [(oa, .inr (10, [.null, .int 0, .int 0]))] s.heap.size = A at hD ⊢
  have hA : ∀ q : Nat, s.heap.size ≤ q → A q := fun q h => by rw [← hAe]; exact Or.inr h
  have hS : va_S A s.heap s.heap [] := va_S.rf
  have hP : va_P D vwCl [(oa, .inr (10, [.null, .int 0, .int 0]))] s.heap := hP
  have hl := lv_entry ([.ref oa]) (n := 1) (Nat.le_of_ble_eq_true rfl)
  rw [lg_entry_eq]
  generalize (lg_sl ([.ref oa]) ++ List.replicate (1 - (lg_sl ([.ref oa])).length) Slot.unset).toArray = ls at hl ⊢
  have hl : lv_has ls 1 [(0, .ref oa)] := hl
  refine lv_aload_n hx hb dX10_init_0 rfl (lv_at hl 0 rfl) ?_
  refine W.objInit hx hb hown (hg _ wd_536) (hg _ wd_525) (hg _ wd_obj) rfl (by rw [hml]; exact hl.1) rfl dX10_init_1 (Nat.le_of_ble_eq_true rfl) (Nat.le_of_ble_eq_true rfl) ?_
  refine W.eq (g2 := F0 m 4 ls []) rfl ?_
  refine lv_aload_n hx hb dX10_init_4 rfl (lv_at hl 0 rfl) ?_
  refine lv_bipush (v := 60) hx hb dX10_init_5 (by decide) ?_
  refine va_newa (atype := .int) (ty := .int) (a0 := (60, .inl (fun _ => 0))) hx hb (hg _ wd_531) rfl hK hP hD hS hA (fun cA => rfl) (by decide) (by decide) (Nat.le_of_ble_eq_true rfl) (Nat.le_of_ble_eq_true rfl) (Nat.le_of_ble_eq_true rfl) dX10_init_7 (fun q_1 cA_3 H_2 hK hP hD hS => ?_)
  have hK : va_K D vwCl [(cA_3, .int)] s := hK
  have hP : va_P D vwCl [(oa, .inr (10, [.null, .int 0, .int 0])), (q_1, .inl (cA_3, 60, .inl (fun _ => 0)))] H_2 := hP
  have hD : va_D A [(oa, .inr (10, [.null, .int 0, .int 0])), (q_1, .inl (cA_3, 60, .inl (fun _ => 0)))] := hD
  refine W.widen (k := 1) (n := 60) (Nat.le_of_ble_eq_true rfl) (Nat.le_of_ble_eq_true rfl) ?_
  refine va_putF (D := D) (ci := 10) (v := .ref q_1) (ty := .array .int) (C := RX10) (T := TX10) (N := 3) hx hb hg inG10 tyX10 tyX10_ok nmX10 hown hK hP hD hS 0 rfl rfl 0 (by decide) (hg _ wd_106) (fun _ h9 => h9) rfl hin rfl (by decide +kernel) rfl rfl (Nat.le_of_ble_eq_true rfl) dX10_init_9 (fun H_4 locs hP hD hS => ?_)
  have hP : va_P D vwCl [(oa, (b10_15 q_1 0 0)), (q_1, .inl (cA_3, 60, .inl (fun _ => 0)))] H_4 := hP
  have hD : va_D A [(oa, (b10_15 q_1 0 0)), (q_1, .inl (cA_3, 60, .inl (fun _ => 0)))] := hD
  have hP9 := hP.sub (ws' := [(oa, (b10_15 q_1 0 0)), (q_1, .inl (cA_3, 60, .inl (fun _ => 0)))]) [0, 1] rfl
  have hD9 := hD.sub (ws' := [(oa, (b10_15 q_1 0 0)), (q_1, .inl (cA_3, 60, .inl (fun _ => 0)))]) [0, 1] (by decide) rfl
  have hK9 := hK.sub (tys' := [(cA_3, .int)]) [0] rfl
  exact W.vret hx hb hr (fun t ht hW => ⟨⟨(), rfl, trivial, ⟨q_1, cA_3, by rw [ht]; exact hP9, va_K.moved hW.alike hK9, hD9⟩⟩, hS.F ht⟩) hS.2.2 dX10_init_12
set_option maxHeartbeats 4000000 in
set_option maxRecDepth 100000 in
theorem k_Closing (l : Launch) (D : va_G) (sz : Nat) (oa : Nat) (k1 : Nat) : Met l yX0_init (wsM yX0_init cX0_init 2 none) ({ frames := 1, cells := 2, slots := 220, locals := 12 }) (va_Pc [.ref oa, .ref k1] (Pr D [(oa, .inr (0, [.null, .null, .null, .int 0, .long 0]))] [] sz)) (va_Qv (fun _ : Unit => True) (fun _ t => ∃ (e0 : Nat) (e1 : Nat) (c0 : ClassId) (c1 : ClassId), Po D [(oa, (b0_7 e0 e1 k1 0 0)), (e0, .inl (c0, 120, .inr (.inr (.inr (.inr (fun _ => none)))))), (e1, .inl (c1, 100, .inr (.inl (fun _ => 0))))] [(c0, .object RX8), (c1, .long)] (va_A [(oa, .inr (0, [.null, .null, .null, .int 0, .long 0]))] sz) t) (va_A [(oa, .inr (0, [.null, .null, .null, .int 0, .long 0]))] sz)) 2 220 (va_A [(oa, .inr (0, [.null, .null, .null, .int 0, .long 0]))] sz) := by
  refine Met.ofW (cc := cX0_init) (maxL := 2) (ret := none) (by decide) rfl ?_
  intro p e s m args below meth c s₁ B hml hv
  obtain ⟨rfl, hsz, hP, hK, hD0, hN⟩ := hv
  have hx := B.exec
  have hb := B.bytes
  have hr := B.returns
  have hts := atoms_spec (ws := (wsM yX0_init cX0_init 2 none)) B.pre
  have hg : ∀ w ∈ lw_good, w.before _ s = true := fun w h => hts w (List.mem_cons_of_mem _ h)
  have hown : s.vm.findClass RX0 = some m.cls := findClass_of_methodNamed B.named
  have hlocks := B.notSynchronized
  have hin : meth.name = "<init>" := (name_of_methodNamed B.named B.method).1
  subst hsz
  have hD := hD0.self (sz := s.heap.size)
  generalize hAe : va_A [(oa, .inr (0, [.null, .null, .null, .int 0, .long 0]))] s.heap.size = A at hD ⊢
  have hA : ∀ q : Nat, s.heap.size ≤ q → A q := fun q h => by rw [← hAe]; exact Or.inr h
  have hS : va_S A s.heap s.heap [] := va_S.rf
  have hP : va_P D vwCl [(oa, .inr (0, [.null, .null, .null, .int 0, .long 0]))] s.heap := hP
  have hl := lv_entry ([.ref oa, .ref k1]) (n := 2) (Nat.le_of_ble_eq_true rfl)
  rw [lg_entry_eq]
  generalize (lg_sl ([.ref oa, .ref k1]) ++ List.replicate (2 - (lg_sl ([.ref oa, .ref k1])).length) Slot.unset).toArray = ls at hl ⊢
  have hl : lv_has ls 2 [(0, .ref oa), (1, .ref k1)] := hl
  refine lv_aload_n hx hb dX0_init_0 rfl (lv_at hl 0 rfl) ?_
  refine W.objInit hx hb hown (hg _ wd_537) (hg _ wd_525) (hg _ wd_obj) rfl (by rw [hml]; exact hl.1) rfl dX0_init_1 (Nat.le_of_ble_eq_true rfl) (Nat.le_of_ble_eq_true rfl) ?_
  refine W.eq (g2 := F0 m 4 ls []) rfl ?_
  refine lv_aload_n hx hb dX0_init_4 rfl (lv_at hl 0 rfl) ?_
  refine lv_bipush (v := 120) hx hb dX0_init_5 (by decide) ?_
  refine va_newq (C := RX8) (N' := 120) hx hb hown (hg _ wd_538) (hN.ao RX8 65 rfl) hK hP hD hS hA (by decide) (by decide) (Nat.le_of_ble_eq_true rfl) (Nat.le_of_ble_eq_true rfl) (Nat.le_of_ble_eq_true rfl) dX0_init_7 (fun q_1 cA_3 H_2 hK hP hD hS => ?_)
  have hK : va_K D vwCl [(cA_3, .object RX8)] s := hK
  have hP : va_P D vwCl [(oa, .inr (0, [.null, .null, .null, .int 0, .long 0])), (q_1, .inl (cA_3, 120, .inr (.inr (.inr (.inr (fun _ => none))))))] H_2 := hP
  have hD : va_D A [(oa, .inr (0, [.null, .null, .null, .int 0, .long 0])), (q_1, .inl (cA_3, 120, .inr (.inr (.inr (.inr (fun _ => none))))))] := hD
  refine W.widen (k := 1) (n := 120) (Nat.le_of_ble_eq_true rfl) (Nat.le_of_ble_eq_true rfl) ?_
  refine va_putF (D := D) (ci := 0) (v := .ref q_1) (ty := .array (.object "PartnersBook$Stretch")) (C := RX0) (T := TX0) (N := 5) hx hb hg inG0 tyX0 tyX0_ok nmX0 hown hK hP hD hS 0 rfl rfl 0 (by decide) (hg _ wd_200) (fun _ h9 => h9) rfl hin rfl (by decide +kernel) rfl rfl (Nat.le_of_ble_eq_true rfl) dX0_init_10 (fun H_4 locs hP hD hS => ?_)
  have hP : va_P D vwCl [(oa, .inr (0, [.ref q_1, .null, .null, .int 0, .long 0])), (q_1, .inl (cA_3, 120, .inr (.inr (.inr (.inr (fun _ => none))))))] H_4 := hP
  have hD : va_D A [(oa, .inr (0, [.ref q_1, .null, .null, .int 0, .long 0])), (q_1, .inl (cA_3, 120, .inr (.inr (.inr (.inr (fun _ => none))))))] := hD
  refine lv_aload_n hx hb dX0_init_13 rfl (lv_at hl 0 rfl) ?_
  refine lv_bipush (v := 100) hx hb dX0_init_14 (by decide) ?_
  refine va_newa (atype := .long) (ty := .long) (a0 := (100, .inr (.inl (fun _ => 0)))) hx hb (hg _ wd_527) rfl hK hP hD hS hA (fun cA => rfl) (by decide) (by decide) (Nat.le_of_ble_eq_true rfl) (Nat.le_of_ble_eq_true rfl) (Nat.le_of_ble_eq_true rfl) dX0_init_16 (fun q_5 cA_7 H_6 hK hP hD hS => ?_)
  have hK : va_K D vwCl [(cA_3, .object RX8), (cA_7, .long)] s := hK
  have hP : va_P D vwCl [(oa, .inr (0, [.ref q_1, .null, .null, .int 0, .long 0])), (q_1, .inl (cA_3, 120, .inr (.inr (.inr (.inr (fun _ => none)))))), (q_5, .inl (cA_7, 100, .inr (.inl (fun _ => 0))))] H_6 := hP
  have hD : va_D A [(oa, .inr (0, [.ref q_1, .null, .null, .int 0, .long 0])), (q_1, .inl (cA_3, 120, .inr (.inr (.inr (.inr (fun _ => none)))))), (q_5, .inl (cA_7, 100, .inr (.inl (fun _ => 0))))] := hD
  refine W.widen (k := 2) (n := 220) (Nat.le_of_ble_eq_true rfl) (Nat.le_of_ble_eq_true rfl) ?_
  refine va_putF (D := D) (ci := 0) (v := .ref q_5) (ty := .array .long) (C := RX0) (T := TX0) (N := 5) hx hb hg inG0 tyX0 tyX0_ok nmX0 hown hK hP hD hS 0 rfl rfl 1 (by decide) (hg _ wd_223) (fun _ h9 => h9) rfl hin rfl (by decide +kernel) rfl rfl (Nat.le_of_ble_eq_true rfl) dX0_init_18 (fun H_8 locs hP hD hS => ?_)
  have hP : va_P D vwCl [(oa, .inr (0, [.ref q_1, .ref q_5, .null, .int 0, .long 0])), (q_1, .inl (cA_3, 120, .inr (.inr (.inr (.inr (fun _ => none)))))), (q_5, .inl (cA_7, 100, .inr (.inl (fun _ => 0))))] H_8 := hP
  have hD : va_D A [(oa, .inr (0, [.ref q_1, .ref q_5, .null, .int 0, .long 0])), (q_1, .inl (cA_3, 120, .inr (.inr (.inr (.inr (fun _ => none)))))), (q_5, .inl (cA_7, 100, .inr (.inl (fun _ => 0))))] := hD
  refine lv_aload_n hx hb dX0_init_21 rfl (lv_at hl 0 rfl) ?_
  refine lv_aload_n hx hb dX0_init_22 rfl (lv_at hl 1 rfl) ?_
  refine va_putF (D := D) (ci := 0) (v := .ref k1) (ty := .object "PartnersBook$Shares") (C := RX0) (T := TX0) (N := 5) hx hb hg inG0 tyX0 tyX0_ok nmX0 hown hK hP hD hS 0 rfl rfl 2 (by decide) (hg _ wd_207) (fun _ h9 => h9) rfl hin rfl (by decide +kernel) rfl rfl (Nat.le_of_ble_eq_true rfl) dX0_init_23 (fun H_9 locs hP hD hS => ?_)
  have hP : va_P D vwCl [(oa, (b0_7 q_1 q_5 k1 0 0)), (q_1, .inl (cA_3, 120, .inr (.inr (.inr (.inr (fun _ => none)))))), (q_5, .inl (cA_7, 100, .inr (.inl (fun _ => 0))))] H_9 := hP
  have hD : va_D A [(oa, (b0_7 q_1 q_5 k1 0 0)), (q_1, .inl (cA_3, 120, .inr (.inr (.inr (.inr (fun _ => none)))))), (q_5, .inl (cA_7, 100, .inr (.inl (fun _ => 0))))] := hD
  have hP9 := hP.sub (ws' := [(oa, (b0_7 q_1 q_5 k1 0 0)), (q_1, .inl (cA_3, 120, .inr (.inr (.inr (.inr (fun _ => none)))))), (q_5, .inl (cA_7, 100, .inr (.inl (fun _ => 0))))]) [0, 1, 2] rfl
  have hD9 := hD.sub (ws' := [(oa, (b0_7 q_1 q_5 k1 0 0)), (q_1, .inl (cA_3, 120, .inr (.inr (.inr (.inr (fun _ => none)))))), (q_5, .inl (cA_7, 100, .inr (.inl (fun _ => 0))))]) [0, 1, 2] (by decide) rfl
  have hK9 := hK.sub (tys' := [(cA_3, .object RX8), (cA_7, .long)]) [0, 1] rfl
  exact W.vret hx hb hr (fun t ht hW => ⟨⟨(), rfl, trivial, ⟨q_1, q_5, cA_3, cA_7, by rw [ht]; exact hP9, va_K.moved hW.alike hK9, hD9⟩⟩, hS.F ht⟩) hS.2.2 dX0_init_26
set_option maxHeartbeats 4000000 in
set_option maxRecDepth 100000 in
theorem k_Days_120 (l : Launch) (D : va_G) (sz : Nat) (oa : Nat) : Met l yX1_init (wsM yX1_init cX1_init 3 none) ({ frames := 1, cells := 3, slots := 360, locals := 13 }) (va_Pc [.ref oa, .int 120] (Pr D [(oa, .inr (1, [.null, .null, .null, .int 0]))] [] sz)) (va_Qv (fun _ : Unit => True) (fun _ t => ∃ (e0 : Nat) (e1 : Nat) (e2 : Nat) (c0 : ClassId) (c1 : ClassId) (c2 : ClassId), Po D [(oa, (b1_4 e0 e1 e2 0)), (e0, .inl (c0, 120, .inr (.inr (.inr (.inr (fun _ => none)))))), (e1, .inl (c1, 120, .inl (fun _ => 0))), (e2, .inl (c2, 120, .inl (fun _ => 0)))] [(c0, .object RX9), (c1, .int), (c2, .int)] (va_A [(oa, .inr (1, [.null, .null, .null, .int 0]))] sz) t) (va_A [(oa, .inr (1, [.null, .null, .null, .int 0]))] sz)) 3 360 (va_A [(oa, .inr (1, [.null, .null, .null, .int 0]))] sz) := by
  refine Met.ofW (cc := cX1_init) (maxL := 3) (ret := none) (by decide) rfl ?_
  intro p e s m args below meth c s₁ B hml hv
  obtain ⟨rfl, hsz, hP, hK, hD0, hN⟩ := hv
  have hx := B.exec
  have hb := B.bytes
  have hr := B.returns
  have hts := atoms_spec (ws := (wsM yX1_init cX1_init 3 none)) B.pre
  have hg : ∀ w ∈ lw_good, w.before _ s = true := fun w h => hts w (List.mem_cons_of_mem _ h)
  have hown : s.vm.findClass RX1 = some m.cls := findClass_of_methodNamed B.named
  have hlocks := B.notSynchronized
  have hin : meth.name = "<init>" := (name_of_methodNamed B.named B.method).1
  subst hsz
  have hD := hD0.self (sz := s.heap.size)
  generalize hAe : va_A [(oa, .inr (1, [.null, .null, .null, .int 0]))] s.heap.size = A at hD ⊢
  have hA : ∀ q : Nat, s.heap.size ≤ q → A q := fun q h => by rw [← hAe]; exact Or.inr h
  have hS : va_S A s.heap s.heap [] := va_S.rf
  have hP : va_P D vwCl [(oa, .inr (1, [.null, .null, .null, .int 0]))] s.heap := hP
  have hl := lv_entry ([.ref oa, .int 120]) (n := 3) (Nat.le_of_ble_eq_true rfl)
  rw [lg_entry_eq]
  generalize (lg_sl ([.ref oa, .int 120]) ++ List.replicate (3 - (lg_sl ([.ref oa, .int 120])).length) Slot.unset).toArray = ls at hl ⊢
  have hl : lv_has ls 3 [(0, .ref oa), (1, .int 120)] := hl
  refine lv_aload_n hx hb dX1_init_0 rfl (lv_at hl 0 rfl) ?_
  refine W.objInit hx hb hown (hg _ wd_539) (hg _ wd_525) (hg _ wd_obj) rfl (by rw [hml]; exact hl.1) rfl dX1_init_1 (Nat.le_of_ble_eq_true rfl) (Nat.le_of_ble_eq_true rfl) ?_
  refine W.eq (g2 := F0 m 4 ls []) rfl ?_
  refine lv_iconst (v := 0) hx hb dX1_init_4 (by decide) ?_
  refine lv_iload_n hx hb dX1_init_5 rfl (lv_at hl 1 rfl) ?_
  refine va_mmax hx hb (by rw [hml]; exact hl.1.symm) hown (hg _ wd_540) (hg _ wd_100) (hg _ wd_12) (hg _ wd_101) (Nat.le_of_ble_eq_true rfl) (Nat.le_of_ble_eq_true rfl) (Nat.le_of_ble_eq_true rfl) (Nat.le_of_ble_eq_true rfl) dX1_init_6 ?_
  refine lv_topi (fun f_1 ef_1 => ?_)
  obtain rfl : f_1 = 120 := by rw [ef_1]; decide
  refine lv_istore_n (lv' := [(2, .int 120), (0, .ref oa), (1, .int 120)]) hx hb dX1_init_9 rfl hl (by decide) rfl (fun ls hl => ?_)
  refine lv_aload_n hx hb dX1_init_10 rfl (lv_at hl 1 rfl) ?_
  refine lv_iload_n hx hb dX1_init_11 rfl (lv_at hl 0 rfl) ?_
  refine va_newq (C := RX9) (N' := 120) hx hb hown (hg _ wd_541) (hN.ao RX9 62 rfl) hK hP hD hS hA (by decide) (by decide) (Nat.le_of_ble_eq_true rfl) (Nat.le_of_ble_eq_true rfl) (Nat.le_of_ble_eq_true rfl) dX1_init_12 (fun q_2 cA_4 H_3 hK hP hD hS => ?_)
  have hK : va_K D vwCl [(cA_4, .object RX9)] s := hK
  have hP : va_P D vwCl [(oa, .inr (1, [.null, .null, .null, .int 0])), (q_2, .inl (cA_4, 120, .inr (.inr (.inr (.inr (fun _ => none))))))] H_3 := hP
  have hD : va_D A [(oa, .inr (1, [.null, .null, .null, .int 0])), (q_2, .inl (cA_4, 120, .inr (.inr (.inr (.inr (fun _ => none))))))] := hD
  refine W.widen (k := 1) (n := 120) (Nat.le_of_ble_eq_true rfl) (Nat.le_of_ble_eq_true rfl) ?_
  refine va_putF (D := D) (ci := 1) (v := .ref q_2) (ty := .array (.object "PartnersBook$Tenure")) (C := RX1) (T := TX1) (N := 4) hx hb hg inG1 tyX1 tyX1_ok nmX1 hown hK hP hD hS 0 rfl rfl 0 (by decide) (hg _ wd_125) (fun _ h9 => h9) rfl hin rfl (by decide +kernel) rfl rfl (Nat.le_of_ble_eq_true rfl) dX1_init_15 (fun H_5 locs hP hD hS => ?_)
  have hP : va_P D vwCl [(oa, .inr (1, [.ref q_2, .null, .null, .int 0])), (q_2, .inl (cA_4, 120, .inr (.inr (.inr (.inr (fun _ => none))))))] H_5 := hP
  have hD : va_D A [(oa, .inr (1, [.ref q_2, .null, .null, .int 0])), (q_2, .inl (cA_4, 120, .inr (.inr (.inr (.inr (fun _ => none))))))] := hD
  refine lv_aload_n hx hb dX1_init_18 rfl (lv_at hl 1 rfl) ?_
  refine lv_iload_n hx hb dX1_init_19 rfl (lv_at hl 0 rfl) ?_
  refine va_newa (atype := .int) (ty := .int) (a0 := (120, .inl (fun _ => 0))) hx hb (hg _ wd_531) rfl hK hP hD hS hA (fun cA => rfl) (by decide) (by decide) (Nat.le_of_ble_eq_true rfl) (Nat.le_of_ble_eq_true rfl) (Nat.le_of_ble_eq_true rfl) dX1_init_20 (fun q_6 cA_8 H_7 hK hP hD hS => ?_)
  have hK : va_K D vwCl [(cA_4, .object RX9), (cA_8, .int)] s := hK
  have hP : va_P D vwCl [(oa, .inr (1, [.ref q_2, .null, .null, .int 0])), (q_2, .inl (cA_4, 120, .inr (.inr (.inr (.inr (fun _ => none)))))), (q_6, .inl (cA_8, 120, .inl (fun _ => 0)))] H_7 := hP
  have hD : va_D A [(oa, .inr (1, [.ref q_2, .null, .null, .int 0])), (q_2, .inl (cA_4, 120, .inr (.inr (.inr (.inr (fun _ => none)))))), (q_6, .inl (cA_8, 120, .inl (fun _ => 0)))] := hD
  refine W.widen (k := 2) (n := 240) (Nat.le_of_ble_eq_true rfl) (Nat.le_of_ble_eq_true rfl) ?_
  refine va_putF (D := D) (ci := 1) (v := .ref q_6) (ty := .array .int) (C := RX1) (T := TX1) (N := 4) hx hb hg inG1 tyX1 tyX1_ok nmX1 hown hK hP hD hS 0 rfl rfl 1 (by decide) (hg _ wd_119) (fun _ h9 => h9) rfl hin rfl (by decide +kernel) rfl rfl (Nat.le_of_ble_eq_true rfl) dX1_init_22 (fun H_9 locs hP hD hS => ?_)
  have hP : va_P D vwCl [(oa, .inr (1, [.ref q_2, .ref q_6, .null, .int 0])), (q_2, .inl (cA_4, 120, .inr (.inr (.inr (.inr (fun _ => none)))))), (q_6, .inl (cA_8, 120, .inl (fun _ => 0)))] H_9 := hP
  have hD : va_D A [(oa, .inr (1, [.ref q_2, .ref q_6, .null, .int 0])), (q_2, .inl (cA_4, 120, .inr (.inr (.inr (.inr (fun _ => none)))))), (q_6, .inl (cA_8, 120, .inl (fun _ => 0)))] := hD
  refine lv_aload_n hx hb dX1_init_25 rfl (lv_at hl 1 rfl) ?_
  refine lv_iload_n hx hb dX1_init_26 rfl (lv_at hl 0 rfl) ?_
  refine va_newa (atype := .int) (ty := .int) (a0 := (120, .inl (fun _ => 0))) hx hb (hg _ wd_531) rfl hK hP hD hS hA (fun cA => rfl) (by decide) (by decide) (Nat.le_of_ble_eq_true rfl) (Nat.le_of_ble_eq_true rfl) (Nat.le_of_ble_eq_true rfl) dX1_init_27 (fun q_10 cA_12 H_11 hK hP hD hS => ?_)
  have hK : va_K D vwCl [(cA_4, .object RX9), (cA_8, .int), (cA_12, .int)] s := hK
  have hP : va_P D vwCl [(oa, .inr (1, [.ref q_2, .ref q_6, .null, .int 0])), (q_2, .inl (cA_4, 120, .inr (.inr (.inr (.inr (fun _ => none)))))), (q_6, .inl (cA_8, 120, .inl (fun _ => 0))), (q_10, .inl (cA_12, 120, .inl (fun _ => 0)))] H_11 := hP
  have hD : va_D A [(oa, .inr (1, [.ref q_2, .ref q_6, .null, .int 0])), (q_2, .inl (cA_4, 120, .inr (.inr (.inr (.inr (fun _ => none)))))), (q_6, .inl (cA_8, 120, .inl (fun _ => 0))), (q_10, .inl (cA_12, 120, .inl (fun _ => 0)))] := hD
  refine W.widen (k := 3) (n := 360) (Nat.le_of_ble_eq_true rfl) (Nat.le_of_ble_eq_true rfl) ?_
  refine va_putF (D := D) (ci := 1) (v := .ref q_10) (ty := .array .int) (C := RX1) (T := TX1) (N := 4) hx hb hg inG1 tyX1 tyX1_ok nmX1 hown hK hP hD hS 0 rfl rfl 2 (by decide) (hg _ wd_126) (fun _ h9 => h9) rfl hin rfl (by decide +kernel) rfl rfl (Nat.le_of_ble_eq_true rfl) dX1_init_29 (fun H_13 locs hP hD hS => ?_)
  have hP : va_P D vwCl [(oa, (b1_4 q_2 q_6 q_10 0)), (q_2, .inl (cA_4, 120, .inr (.inr (.inr (.inr (fun _ => none)))))), (q_6, .inl (cA_8, 120, .inl (fun _ => 0))), (q_10, .inl (cA_12, 120, .inl (fun _ => 0)))] H_13 := hP
  have hD : va_D A [(oa, (b1_4 q_2 q_6 q_10 0)), (q_2, .inl (cA_4, 120, .inr (.inr (.inr (.inr (fun _ => none)))))), (q_6, .inl (cA_8, 120, .inl (fun _ => 0))), (q_10, .inl (cA_12, 120, .inl (fun _ => 0)))] := hD
  have hP9 := hP.sub (ws' := [(oa, (b1_4 q_2 q_6 q_10 0)), (q_2, .inl (cA_4, 120, .inr (.inr (.inr (.inr (fun _ => none)))))), (q_6, .inl (cA_8, 120, .inl (fun _ => 0))), (q_10, .inl (cA_12, 120, .inl (fun _ => 0)))]) [0, 1, 2, 3] rfl
  have hD9 := hD.sub (ws' := [(oa, (b1_4 q_2 q_6 q_10 0)), (q_2, .inl (cA_4, 120, .inr (.inr (.inr (.inr (fun _ => none)))))), (q_6, .inl (cA_8, 120, .inl (fun _ => 0))), (q_10, .inl (cA_12, 120, .inl (fun _ => 0)))]) [0, 1, 2, 3] (by decide) rfl
  have hK9 := hK.sub (tys' := [(cA_4, .object RX9), (cA_8, .int), (cA_12, .int)]) [0, 1, 2] rfl
  exact W.vret hx hb hr (fun t ht hW => ⟨⟨(), rfl, trivial, ⟨q_2, q_6, q_10, cA_4, cA_8, cA_12, by rw [ht]; exact hP9, va_K.moved hW.alike hK9, hD9⟩⟩, hS.F ht⟩) hS.2.2 dX1_init_32
set_option maxHeartbeats 4000000 in
set_option maxRecDepth 100000 in
theorem k_Days_20 (l : Launch) (D : va_G) (sz : Nat) (oa : Nat) : Met l yX1_init (wsM yX1_init cX1_init 3 none) ({ frames := 1, cells := 3, slots := 60, locals := 13 }) (va_Pc [.ref oa, .int 20] (Pr D [(oa, .inr (1, [.null, .null, .null, .int 0]))] [] sz)) (va_Qv (fun _ : Unit => True) (fun _ t => ∃ (e0 : Nat) (e1 : Nat) (e2 : Nat) (c0 : ClassId) (c1 : ClassId) (c2 : ClassId), Po D [(oa, (b1_4 e0 e1 e2 0)), (e0, .inl (c0, 20, .inr (.inr (.inr (.inr (fun _ => none)))))), (e1, .inl (c1, 20, .inl (fun _ => 0))), (e2, .inl (c2, 20, .inl (fun _ => 0)))] [(c0, .object RX9), (c1, .int), (c2, .int)] (va_A [(oa, .inr (1, [.null, .null, .null, .int 0]))] sz) t) (va_A [(oa, .inr (1, [.null, .null, .null, .int 0]))] sz)) 3 60 (va_A [(oa, .inr (1, [.null, .null, .null, .int 0]))] sz) := by
  refine Met.ofW (cc := cX1_init) (maxL := 3) (ret := none) (by decide) rfl ?_
  intro p e s m args below meth c s₁ B hml hv
  obtain ⟨rfl, hsz, hP, hK, hD0, hN⟩ := hv
  have hx := B.exec
  have hb := B.bytes
  have hr := B.returns
  have hts := atoms_spec (ws := (wsM yX1_init cX1_init 3 none)) B.pre
  have hg : ∀ w ∈ lw_good, w.before _ s = true := fun w h => hts w (List.mem_cons_of_mem _ h)
  have hown : s.vm.findClass RX1 = some m.cls := findClass_of_methodNamed B.named
  have hlocks := B.notSynchronized
  have hin : meth.name = "<init>" := (name_of_methodNamed B.named B.method).1
  subst hsz
  have hD := hD0.self (sz := s.heap.size)
  generalize hAe : va_A [(oa, .inr (1, [.null, .null, .null, .int 0]))] s.heap.size = A at hD ⊢
  have hA : ∀ q : Nat, s.heap.size ≤ q → A q := fun q h => by rw [← hAe]; exact Or.inr h
  have hS : va_S A s.heap s.heap [] := va_S.rf
  have hP : va_P D vwCl [(oa, .inr (1, [.null, .null, .null, .int 0]))] s.heap := hP
  have hl := lv_entry ([.ref oa, .int 20]) (n := 3) (Nat.le_of_ble_eq_true rfl)
  rw [lg_entry_eq]
  generalize (lg_sl ([.ref oa, .int 20]) ++ List.replicate (3 - (lg_sl ([.ref oa, .int 20])).length) Slot.unset).toArray = ls at hl ⊢
  have hl : lv_has ls 3 [(0, .ref oa), (1, .int 20)] := hl
  refine lv_aload_n hx hb dX1_init_0 rfl (lv_at hl 0 rfl) ?_
  refine W.objInit hx hb hown (hg _ wd_539) (hg _ wd_525) (hg _ wd_obj) rfl (by rw [hml]; exact hl.1) rfl dX1_init_1 (Nat.le_of_ble_eq_true rfl) (Nat.le_of_ble_eq_true rfl) ?_
  refine W.eq (g2 := F0 m 4 ls []) rfl ?_
  refine lv_iconst (v := 0) hx hb dX1_init_4 (by decide) ?_
  refine lv_iload_n hx hb dX1_init_5 rfl (lv_at hl 1 rfl) ?_
  refine va_mmax hx hb (by rw [hml]; exact hl.1.symm) hown (hg _ wd_540) (hg _ wd_100) (hg _ wd_12) (hg _ wd_101) (Nat.le_of_ble_eq_true rfl) (Nat.le_of_ble_eq_true rfl) (Nat.le_of_ble_eq_true rfl) (Nat.le_of_ble_eq_true rfl) dX1_init_6 ?_
  refine lv_topi (fun f_1 ef_1 => ?_)
  obtain rfl : f_1 = 20 := by rw [ef_1]; decide
  refine lv_istore_n (lv' := [(2, .int 20), (0, .ref oa), (1, .int 20)]) hx hb dX1_init_9 rfl hl (by decide) rfl (fun ls hl => ?_)
  refine lv_aload_n hx hb dX1_init_10 rfl (lv_at hl 1 rfl) ?_
  refine lv_iload_n hx hb dX1_init_11 rfl (lv_at hl 0 rfl) ?_
  refine va_newq (C := RX9) (N' := 20) hx hb hown (hg _ wd_541) (hN.ao RX9 62 rfl) hK hP hD hS hA (by decide) (by decide) (Nat.le_of_ble_eq_true rfl) (Nat.le_of_ble_eq_true rfl) (Nat.le_of_ble_eq_true rfl) dX1_init_12 (fun q_2 cA_4 H_3 hK hP hD hS => ?_)
  have hK : va_K D vwCl [(cA_4, .object RX9)] s := hK
  have hP : va_P D vwCl [(oa, .inr (1, [.null, .null, .null, .int 0])), (q_2, .inl (cA_4, 20, .inr (.inr (.inr (.inr (fun _ => none))))))] H_3 := hP
  have hD : va_D A [(oa, .inr (1, [.null, .null, .null, .int 0])), (q_2, .inl (cA_4, 20, .inr (.inr (.inr (.inr (fun _ => none))))))] := hD
  refine W.widen (k := 1) (n := 20) (Nat.le_of_ble_eq_true rfl) (Nat.le_of_ble_eq_true rfl) ?_
  refine va_putF (D := D) (ci := 1) (v := .ref q_2) (ty := .array (.object "PartnersBook$Tenure")) (C := RX1) (T := TX1) (N := 4) hx hb hg inG1 tyX1 tyX1_ok nmX1 hown hK hP hD hS 0 rfl rfl 0 (by decide) (hg _ wd_125) (fun _ h9 => h9) rfl hin rfl (by decide +kernel) rfl rfl (Nat.le_of_ble_eq_true rfl) dX1_init_15 (fun H_5 locs hP hD hS => ?_)
  have hP : va_P D vwCl [(oa, .inr (1, [.ref q_2, .null, .null, .int 0])), (q_2, .inl (cA_4, 20, .inr (.inr (.inr (.inr (fun _ => none))))))] H_5 := hP
  have hD : va_D A [(oa, .inr (1, [.ref q_2, .null, .null, .int 0])), (q_2, .inl (cA_4, 20, .inr (.inr (.inr (.inr (fun _ => none))))))] := hD
  refine lv_aload_n hx hb dX1_init_18 rfl (lv_at hl 1 rfl) ?_
  refine lv_iload_n hx hb dX1_init_19 rfl (lv_at hl 0 rfl) ?_
  refine va_newa (atype := .int) (ty := .int) (a0 := (20, .inl (fun _ => 0))) hx hb (hg _ wd_531) rfl hK hP hD hS hA (fun cA => rfl) (by decide) (by decide) (Nat.le_of_ble_eq_true rfl) (Nat.le_of_ble_eq_true rfl) (Nat.le_of_ble_eq_true rfl) dX1_init_20 (fun q_6 cA_8 H_7 hK hP hD hS => ?_)
  have hK : va_K D vwCl [(cA_4, .object RX9), (cA_8, .int)] s := hK
  have hP : va_P D vwCl [(oa, .inr (1, [.ref q_2, .null, .null, .int 0])), (q_2, .inl (cA_4, 20, .inr (.inr (.inr (.inr (fun _ => none)))))), (q_6, .inl (cA_8, 20, .inl (fun _ => 0)))] H_7 := hP
  have hD : va_D A [(oa, .inr (1, [.ref q_2, .null, .null, .int 0])), (q_2, .inl (cA_4, 20, .inr (.inr (.inr (.inr (fun _ => none)))))), (q_6, .inl (cA_8, 20, .inl (fun _ => 0)))] := hD
  refine W.widen (k := 2) (n := 40) (Nat.le_of_ble_eq_true rfl) (Nat.le_of_ble_eq_true rfl) ?_
  refine va_putF (D := D) (ci := 1) (v := .ref q_6) (ty := .array .int) (C := RX1) (T := TX1) (N := 4) hx hb hg inG1 tyX1 tyX1_ok nmX1 hown hK hP hD hS 0 rfl rfl 1 (by decide) (hg _ wd_119) (fun _ h9 => h9) rfl hin rfl (by decide +kernel) rfl rfl (Nat.le_of_ble_eq_true rfl) dX1_init_22 (fun H_9 locs hP hD hS => ?_)
  have hP : va_P D vwCl [(oa, .inr (1, [.ref q_2, .ref q_6, .null, .int 0])), (q_2, .inl (cA_4, 20, .inr (.inr (.inr (.inr (fun _ => none)))))), (q_6, .inl (cA_8, 20, .inl (fun _ => 0)))] H_9 := hP
  have hD : va_D A [(oa, .inr (1, [.ref q_2, .ref q_6, .null, .int 0])), (q_2, .inl (cA_4, 20, .inr (.inr (.inr (.inr (fun _ => none)))))), (q_6, .inl (cA_8, 20, .inl (fun _ => 0)))] := hD
  refine lv_aload_n hx hb dX1_init_25 rfl (lv_at hl 1 rfl) ?_
  refine lv_iload_n hx hb dX1_init_26 rfl (lv_at hl 0 rfl) ?_
  refine va_newa (atype := .int) (ty := .int) (a0 := (20, .inl (fun _ => 0))) hx hb (hg _ wd_531) rfl hK hP hD hS hA (fun cA => rfl) (by decide) (by decide) (Nat.le_of_ble_eq_true rfl) (Nat.le_of_ble_eq_true rfl) (Nat.le_of_ble_eq_true rfl) dX1_init_27 (fun q_10 cA_12 H_11 hK hP hD hS => ?_)
  have hK : va_K D vwCl [(cA_4, .object RX9), (cA_8, .int), (cA_12, .int)] s := hK
  have hP : va_P D vwCl [(oa, .inr (1, [.ref q_2, .ref q_6, .null, .int 0])), (q_2, .inl (cA_4, 20, .inr (.inr (.inr (.inr (fun _ => none)))))), (q_6, .inl (cA_8, 20, .inl (fun _ => 0))), (q_10, .inl (cA_12, 20, .inl (fun _ => 0)))] H_11 := hP
  have hD : va_D A [(oa, .inr (1, [.ref q_2, .ref q_6, .null, .int 0])), (q_2, .inl (cA_4, 20, .inr (.inr (.inr (.inr (fun _ => none)))))), (q_6, .inl (cA_8, 20, .inl (fun _ => 0))), (q_10, .inl (cA_12, 20, .inl (fun _ => 0)))] := hD
  refine W.widen (k := 3) (n := 60) (Nat.le_of_ble_eq_true rfl) (Nat.le_of_ble_eq_true rfl) ?_
  refine va_putF (D := D) (ci := 1) (v := .ref q_10) (ty := .array .int) (C := RX1) (T := TX1) (N := 4) hx hb hg inG1 tyX1 tyX1_ok nmX1 hown hK hP hD hS 0 rfl rfl 2 (by decide) (hg _ wd_126) (fun _ h9 => h9) rfl hin rfl (by decide +kernel) rfl rfl (Nat.le_of_ble_eq_true rfl) dX1_init_29 (fun H_13 locs hP hD hS => ?_)
  have hP : va_P D vwCl [(oa, (b1_4 q_2 q_6 q_10 0)), (q_2, .inl (cA_4, 20, .inr (.inr (.inr (.inr (fun _ => none)))))), (q_6, .inl (cA_8, 20, .inl (fun _ => 0))), (q_10, .inl (cA_12, 20, .inl (fun _ => 0)))] H_13 := hP
  have hD : va_D A [(oa, (b1_4 q_2 q_6 q_10 0)), (q_2, .inl (cA_4, 20, .inr (.inr (.inr (.inr (fun _ => none)))))), (q_6, .inl (cA_8, 20, .inl (fun _ => 0))), (q_10, .inl (cA_12, 20, .inl (fun _ => 0)))] := hD
  have hP9 := hP.sub (ws' := [(oa, (b1_4 q_2 q_6 q_10 0)), (q_2, .inl (cA_4, 20, .inr (.inr (.inr (.inr (fun _ => none)))))), (q_6, .inl (cA_8, 20, .inl (fun _ => 0))), (q_10, .inl (cA_12, 20, .inl (fun _ => 0)))]) [0, 1, 2, 3] rfl
  have hD9 := hD.sub (ws' := [(oa, (b1_4 q_2 q_6 q_10 0)), (q_2, .inl (cA_4, 20, .inr (.inr (.inr (.inr (fun _ => none)))))), (q_6, .inl (cA_8, 20, .inl (fun _ => 0))), (q_10, .inl (cA_12, 20, .inl (fun _ => 0)))]) [0, 1, 2, 3] (by decide) rfl
  have hK9 := hK.sub (tys' := [(cA_4, .object RX9), (cA_8, .int), (cA_12, .int)]) [0, 1, 2] rfl
  exact W.vret hx hb hr (fun t ht hW => ⟨⟨(), rfl, trivial, ⟨q_2, q_6, q_10, cA_4, cA_8, cA_12, by rw [ht]; exact hP9, va_K.moved hW.alike hK9, hD9⟩⟩, hS.F ht⟩) hS.2.2 dX1_init_32
