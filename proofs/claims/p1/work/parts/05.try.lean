theorem dX11_letter_0 : decode cX11_letter 0 = .ok (.aload_n 0, 1) := by decide +kernel
theorem dX11_letter_1 : decode cX11_letter 1 = .ok (.iload_n 1, 1) := by decide +kernel
theorem dX11_letter_2 : decode cX11_letter 2 = .ok (.invokevirtual 65, 3) := by decide +kernel
theorem dX11_letter_5 : decode cX11_letter 5 = .ok (.astore 4, 2) := by decide +kernel
theorem dX11_letter_7 : decode cX11_letter 7 = .ok (.aload 4, 2) := by decide +kernel
theorem dX11_letter_9 : decode cX11_letter 9 = .ok (.ifnull 10, 3) := by decide +kernel
theorem dX11_letter_19 : decode cX11_letter 19 = .ok (.aload_n 0, 1) := by decide +kernel
theorem dX11_letter_20 : decode cX11_letter 20 = .ok (.iconst 1, 1) := by decide +kernel
theorem dX11_letter_21 : decode cX11_letter 21 = .ok (.invokevirtual 47, 3) := by decide +kernel
theorem dX11_letter_24 : decode cX11_letter 24 = .ok (.ireturn, 1) := by decide +kernel
theorem dX11_accept_0 : decode cX11_accept 0 = .ok (.aload_n 0, 1) := by decide +kernel
theorem dX11_accept_1 : decode cX11_accept 1 = .ok (.iconst 0, 1) := by decide +kernel
theorem dX11_accept_2 : decode cX11_accept 2 = .ok (.putfield 380, 3) := by decide +kernel
theorem dX11_accept_5 : decode cX11_accept 5 = .ok (.aload_n 0, 1) := by decide +kernel
theorem dX11_accept_6 : decode cX11_accept 6 = .ok (.iconst (-1), 1) := by decide +kernel
theorem dX11_accept_7 : decode cX11_accept 7 = .ok (.putfield 43, 3) := by decide +kernel
theorem dX11_accept_10 : decode cX11_accept 10 = .ok (.iload_n 1, 1) := by decide +kernel
theorem dX11_accept_11 : decode cX11_accept 11 = .ok (.ireturn, 1) := by decide +kernel
theorem dX11_refuse_0 : decode cX11_refuse 0 = .ok (.aload_n 0, 1) := by decide +kernel
theorem dX11_refuse_1 : decode cX11_refuse 1 = .ok (.iload_n 1, 1) := by decide +kernel
theorem dX11_refuse_2 : decode cX11_refuse 2 = .ok (.iconst (-1), 1) := by decide +kernel
theorem dX11_refuse_3 : decode cX11_refuse 3 = .ok (.invokevirtual 275, 3) := by decide +kernel
theorem dX11_refuse_6 : decode cX11_refuse 6 = .ok (.ireturn, 1) := by decide +kernel
theorem dX11_refuseAt_0 : decode cX11_refuseAt 0 = .ok (.aload_n 0, 1) := by decide +kernel
theorem dX11_refuseAt_1 : decode cX11_refuseAt 1 = .ok (.iload_n 1, 1) := by decide +kernel
theorem dX11_refuseAt_2 : decode cX11_refuseAt 2 = .ok (.putfield 380, 3) := by decide +kernel
theorem dX11_refuseAt_5 : decode cX11_refuseAt 5 = .ok (.aload_n 0, 1) := by decide +kernel
theorem dX11_refuseAt_6 : decode cX11_refuseAt 6 = .ok (.iload_n 2, 1) := by decide +kernel
theorem dX11_refuseAt_7 : decode cX11_refuseAt 7 = .ok (.putfield 43, 3) := by decide +kernel
theorem dX11_refuseAt_10 : decode cX11_refuseAt 10 = .ok (.iconst (-1), 1) := by decide +kernel
theorem dX11_refuseAt_11 : decode cX11_refuseAt 11 = .ok (.ireturn, 1) := by decide +kernel
theorem dX11_houseAt_0 : decode cX11_houseAt 0 = .ok (.iload_n 1, 1) := by decide +kernel
theorem dX11_houseAt_1 : decode cX11_houseAt 1 = .ok (.ifCond .lt 26, 3) := by decide +kernel
theorem dX11_houseAt_4 : decode cX11_houseAt 4 = .ok (.iload_n 1, 1) := by decide +kernel
theorem dX11_houseAt_5 : decode cX11_houseAt 5 = .ok (.aload_n 0, 1) := by decide +kernel
theorem dX11_houseAt_6 : decode cX11_houseAt 6 = .ok (.getfield 51, 3) := by decide +kernel
theorem dX11_houseAt_9 : decode cX11_houseAt 9 = .ok (.if_icmp .ge 18, 3) := by decide +kernel
theorem dX11_houseAt_27 : decode cX11_houseAt 27 = .ok (.aconst_null, 1) := by decide +kernel
theorem dX11_houseAt_28 : decode cX11_houseAt 28 = .ok (.areturn, 1) := by decide +kernel
set_option maxHeartbeats 4000000 in
set_option maxRecDepth 100000 in
theorem k_refuseAt (l : Launch) (D : va_G) (sz : Nat) (xa : Nat) (x0 : Nat) (x1 : Int32) (x2 : Nat) (x3 : Int32) (x4 : Nat) (x5 : Nat) (x6 : Nat) (x7 : Int32) (x8 : Nat) (x9 : Int32) (x10 : Int32) (k1 : Int32) (k2 : Int32) : Met l yX11_refuseAt (wsM yX11_refuseAt cX11_refuseAt 3 (some .int)) ({ frames := 0, cells := 0, slots := 0, locals := 0 }) (va_Pc [.ref xa, .int k1, .int k2] (Pr D [(xa, .inr (11, [.ref x0, .int x1, .ref x2, .int x3, .ref x4, .ref x5, .ref x6, .int x7, .ref x8, .int x9, .int x10]))] [] sz)) (va_Qi (fun (r : Int32) (_ : Unit) => r = (-1)) (fun _ t => Po D [(xa, .inr (11, [.ref x0, .int x1, .ref x2, .int x3, .ref x4, .ref x5, .ref x6, .int x7, .ref x8, .int k1, .int k2]))] [] (va_A [(xa, .inr (11, [.ref x0, .int x1, .ref x2, .int x3, .ref x4, .ref x5, .ref x6, .int x7, .ref x8, .int x9, .int x10]))] sz) t) (va_A [(xa, .inr (11, [.ref x0, .int x1, .ref x2, .int x3, .ref x4, .ref x5, .ref x6, .int x7, .ref x8, .int x9, .int x10]))] sz)) 0 0 (va_A [(xa, .inr (11, [.ref x0, .int x1, .ref x2, .int x3, .ref x4, .ref x5, .ref x6, .int x7, .ref x8, .int x9, .int x10]))] sz) := by
  refine Met.ofW (cc := cX11_refuseAt) (maxL := 3) (ret := (some .int)) (by decide) rfl ?_
  intro p e s m args below meth c s₁ B hml hv
  obtain ⟨rfl, hsz, hP, hK, hD0, hN⟩ := hv
  have hx := B.exec
  have hb := B.bytes
  have hr := B.returns
  have hts := atoms_spec (ws := (wsM yX11_refuseAt cX11_refuseAt 3 (some .int))) B.pre
  have hg : ∀ w ∈ lw_good, w.before _ s = true := fun w h => hts w (List.mem_cons_of_mem _ h)
  have hown : s.vm.findClass RX11 = some m.cls := findClass_of_methodNamed B.named
  have hlocks := B.notSynchronized
  subst hsz
  have hD := hD0.self (sz := s.heap.size)
  generalize hAe : va_A [(xa, .inr (11, [.ref x0, .int x1, .ref x2, .int x3, .ref x4, .ref x5, .ref x6, .int x7, .ref x8, .int x9, .int x10]))] s.heap.size = A at hD ⊢
  have hA : ∀ q : Nat, s.heap.size ≤ q → A q := fun q h => by rw [← hAe]; exact Or.inr h
  have hS : va_S A s.heap s.heap [] := va_S.rf
  have hP : va_P D vwCl [(xa, .inr (11, [.ref x0, .int x1, .ref x2, .int x3, .ref x4, .ref x5, .ref x6, .int x7, .ref x8, .int x9, .int x10]))] s.heap := hP
  have hl := lv_entry ([.ref xa, .int k1, .int k2]) (n := 3) (Nat.le_of_ble_eq_true rfl)
  rw [lg_entry_eq]
  generalize (lg_sl ([.ref xa, .int k1, .int k2]) ++ List.replicate (3 - (lg_sl ([.ref xa, .int k1, .int k2])).length) Slot.unset).toArray = ls at hl ⊢
  have hl : lv_has ls 3 [(0, .ref xa), (1, .int k1), (2, .int k2)] := hl
  refine lv_aload_n hx hb dX11_refuseAt_0 rfl (lv_at hl 0 rfl) ?_
  refine lv_iload_n hx hb dX11_refuseAt_1 rfl (lv_at hl 1 rfl) ?_
  refine va_put (D := D) (ci := 11) (v := .int k1) (ty := .int) (C := RX11) (T := TX11) (N := 11) hx hb hg inG11 tyX11 tyX11_ok nmX11 hown hK hP hD hS 0 rfl rfl 9 (by decide) (hg _ wd_0) (fun _ h9 => h9) rfl (by decide +kernel) rfl rfl (Nat.le_of_ble_eq_true rfl) dX11_refuseAt_2 (fun H_1 locs hP hD hS => ?_)
  have hP : va_P D vwCl [(xa, .inr (11, [.ref x0, .int x1, .ref x2, .int x3, .ref x4, .ref x5, .ref x6, .int x7, .ref x8, .int k1, .int x10]))] H_1 := hP
  have hD : va_D A [(xa, .inr (11, [.ref x0, .int x1, .ref x2, .int x3, .ref x4, .ref x5, .ref x6, .int x7, .ref x8, .int k1, .int x10]))] := hD
  refine lv_aload_n hx hb dX11_refuseAt_5 rfl (lv_at hl 0 rfl) ?_
  refine lv_iload_n hx hb dX11_refuseAt_6 rfl (lv_at hl 2 rfl) ?_
  refine va_put (D := D) (ci := 11) (v := .int k2) (ty := .int) (C := RX11) (T := TX11) (N := 11) hx hb hg inG11 tyX11 tyX11_ok nmX11 hown hK hP hD hS 0 rfl rfl 10 (by decide) (hg _ wd_1) (fun _ h9 => h9) rfl (by decide +kernel) rfl rfl (Nat.le_of_ble_eq_true rfl) dX11_refuseAt_7 (fun H_2 locs hP hD hS => ?_)
  have hP : va_P D vwCl [(xa, .inr (11, [.ref x0, .int x1, .ref x2, .int x3, .ref x4, .ref x5, .ref x6, .int x7, .ref x8, .int k1, .int k2]))] H_2 := hP
  have hD : va_D A [(xa, .inr (11, [.ref x0, .int x1, .ref x2, .int x3, .ref x4, .ref x5, .ref x6, .int x7, .ref x8, .int k1, .int k2]))] := hD
  refine lv_iconst (v := (-1)) hx hb dX11_refuseAt_10 (by decide) ?_
  have hP9 := hP.sub (ws' := [(xa, .inr (11, [.ref x0, .int x1, .ref x2, .int x3, .ref x4, .ref x5, .ref x6, .int x7, .ref x8, .int k1, .int k2]))]) [0] rfl
  have hD9 := hD.sub (ws' := [(xa, .inr (11, [.ref x0, .int x1, .ref x2, .int x3, .ref x4, .ref x5, .ref x6, .int x7, .ref x8, .int k1, .int k2]))]) [0] (by decide) rfl
  have hK9 := hK.sub (tys' := []) [] rfl
  exact W.iret (v := (-1)) hx hb hr (fun t ht hW => ⟨⟨(-1), (), rfl, rfl, ⟨by rw [ht]; exact hP9, va_K.moved hW.alike hK9, hD9⟩⟩, hS.F ht⟩) hS.2.2 dX11_refuseAt_11
set_option maxHeartbeats 4000000 in
set_option maxRecDepth 100000 in
theorem k_refuse (l : Launch) (D : va_G) (sz : Nat) (xa : Nat) (x0 : Nat) (x1 : Int32) (x2 : Nat) (x3 : Int32) (x4 : Nat) (x5 : Nat) (x6 : Nat) (x7 : Int32) (x8 : Nat) (x9 : Int32) (x10 : Int32) (k1 : Int32) : Met l yX11_refuse (wsM yX11_refuse cX11_refuse 2 (some .int)) ({ frames := 1, cells := 0, slots := 0, locals := 22 }) (va_Pc [.ref xa, .int k1] (Pr D [(xa, .inr (11, [.ref x0, .int x1, .ref x2, .int x3, .ref x4, .ref x5, .ref x6, .int x7, .ref x8, .int x9, .int x10]))] [] sz)) (va_Qi (fun (r : Int32) (_ : Unit) => r = (-1)) (fun _ t => Po D [(xa, .inr (11, [.ref x0, .int x1, .ref x2, .int x3, .ref x4, .ref x5, .ref x6, .int x7, .ref x8, .int k1, .int (-1)]))] [] (va_A [(xa, .inr (11, [.ref x0, .int x1, .ref x2, .int x3, .ref x4, .ref x5, .ref x6, .int x7, .ref x8, .int x9, .int x10]))] sz) t) (va_A [(xa, .inr (11, [.ref x0, .int x1, .ref x2, .int x3, .ref x4, .ref x5, .ref x6, .int x7, .ref x8, .int x9, .int x10]))] sz)) 0 0 (va_A [(xa, .inr (11, [.ref x0, .int x1, .ref x2, .int x3, .ref x4, .ref x5, .ref x6, .int x7, .ref x8, .int x9, .int x10]))] sz) := by
  refine Met.ofW (cc := cX11_refuse) (maxL := 2) (ret := (some .int)) (by decide) rfl ?_
  intro p e s m args below meth c s₁ B hml hv
  obtain ⟨rfl, hsz, hP, hK, hD0, hN⟩ := hv
  have hx := B.exec
  have hb := B.bytes
  have hr := B.returns
  have hts := atoms_spec (ws := (wsM yX11_refuse cX11_refuse 2 (some .int))) B.pre
  have hg : ∀ w ∈ lw_good, w.before _ s = true := fun w h => hts w (List.mem_cons_of_mem _ h)
  have hown : s.vm.findClass RX11 = some m.cls := findClass_of_methodNamed B.named
  have hlocks := B.notSynchronized
  subst hsz
  have hD := hD0.self (sz := s.heap.size)
  generalize hAe : va_A [(xa, .inr (11, [.ref x0, .int x1, .ref x2, .int x3, .ref x4, .ref x5, .ref x6, .int x7, .ref x8, .int x9, .int x10]))] s.heap.size = A at hD ⊢
  have hA : ∀ q : Nat, s.heap.size ≤ q → A q := fun q h => by rw [← hAe]; exact Or.inr h
  have hS : va_S A s.heap s.heap [] := va_S.rf
  have hP : va_P D vwCl [(xa, .inr (11, [.ref x0, .int x1, .ref x2, .int x3, .ref x4, .ref x5, .ref x6, .int x7, .ref x8, .int x9, .int x10]))] s.heap := hP
  have hl := lv_entry ([.ref xa, .int k1]) (n := 2) (Nat.le_of_ble_eq_true rfl)
  rw [lg_entry_eq]
  generalize (lg_sl ([.ref xa, .int k1]) ++ List.replicate (2 - (lg_sl ([.ref xa, .int k1])).length) Slot.unset).toArray = ls at hl ⊢
  have hl : lv_has ls 2 [(0, .ref xa), (1, .int k1)] := hl
  refine lv_aload_n hx hb dX11_refuse_0 rfl (lv_at hl 0 rfl) ?_
  refine lv_iload_n hx hb dX11_refuse_1 rfl (lv_at hl 1 rfl) ?_
  refine lv_iconst (v := (-1)) hx hb dX11_refuse_2 (by decide) ?_
  have hPc := hP.sub (ws' := [(xa, .inr (11, [.ref x0, .int x1, .ref x2, .int x3, .ref x4, .ref x5, .ref x6, .int x7, .ref x8, .int x9, .int x10]))]) [0] rfl
  have hDc := hD.sub (ws' := [(xa, .inr (11, [.ref x0, .int x1, .ref x2, .int x3, .ref x4, .ref x5, .ref x6, .int x7, .ref x8, .int x9, .int x10]))]) [0] (by decide) rfl
  have hKc := hK.sub (tys' := []) [] rfl
  have hFc := va_free (wc := [(xa, .inr (11, [.ref x0, .int x1, .ref x2, .int x3, .ref x4, .ref x5, .ref x6, .int x7, .ref x8, .int x9, .int x10]))]) hD hS hA [0] rfl
  refine va_calli (va_runV (As := [.int k1, .int (-1)]) (rest := []) ⟨hx, hb, hml, hown, hg⟩ (k_refuseAt l D s.heap.size xa x0 x1 x2 x3 x4 x5 x6 x7 x8 x9 x10 k1 (-1)) (cwV 2 hg (gV wd_2 wd_3 wd_4 wd_5 wd_6) rfl rfl rfl (by decide +kernel) ⟨(Nat.le_of_ble_eq_true rfl), (Nat.le_of_ble_eq_true rfl)⟩) ⟨Pr.blind, va_recv hKc hPc (ci := 11) (q0 := 0) rfl rfl, fun U hU hW => ⟨rfl, Pr.at hPc hKc hDc hN hU hW⟩⟩ rfl rfl hl.1 rfl (lv_room (Nat.le_of_ble_eq_true rfl)) dX11_refuse_3 ⟨(Nat.le_of_ble_eq_true rfl), (Nat.le_of_ble_eq_true rfl)⟩) hS (fun q _ h => hFc q h) hFc (fun r_2 u t H_1 locs ht hvm hw hB hz1 hk1 hS => ?_)
  obtain ⟨hP1, hK1, hD1⟩ := hB
  rw [ht] at hP1
  have hK1 := va_K.moved hvm.symm hK1
  obtain ⟨hP, hD⟩ := va_join (wr := []) (w1 := [(xa, .inr (11, [.ref x0, .int x1, .ref x2, .int x3, .ref x4, .ref x5, .ref x6, .int x7, .ref x8, .int k1, .int (-1)]))]) hP hD [0] [] rfl rfl (by decide) (by decide) hk1 hFc hP1 hD1
  have hP : va_P D vwCl [(xa, .inr (11, [.ref x0, .int x1, .ref x2, .int x3, .ref x4, .ref x5, .ref x6, .int x7, .ref x8, .int k1, .int (-1)]))] H_1 := hP
  have hD : va_D A [(xa, .inr (11, [.ref x0, .int x1, .ref x2, .int x3, .ref x4, .ref x5, .ref x6, .int x7, .ref x8, .int k1, .int (-1)]))] := hD
  subst hw
  have hP9 := hP.sub (ws' := [(xa, .inr (11, [.ref x0, .int x1, .ref x2, .int x3, .ref x4, .ref x5, .ref x6, .int x7, .ref x8, .int k1, .int (-1)]))]) [0] rfl
  have hD9 := hD.sub (ws' := [(xa, .inr (11, [.ref x0, .int x1, .ref x2, .int x3, .ref x4, .ref x5, .ref x6, .int x7, .ref x8, .int k1, .int (-1)]))]) [0] (by decide) rfl
  have hK9 := hK.sub (tys' := []) [] rfl
  exact W.iret (v := (-1)) hx hb hr (fun t ht hW => ⟨⟨(-1), (), rfl, rfl, ⟨by rw [ht]; exact hP9, va_K.moved hW.alike hK9, hD9⟩⟩, hS.F ht⟩) hS.2.2 dX11_refuse_6
set_option maxHeartbeats 4000000 in
set_option maxRecDepth 100000 in
theorem k_accept (l : Launch) (D : va_G) (sz : Nat) (xa : Nat) (x0 : Nat) (x1 : Int32) (x2 : Nat) (x3 : Int32) (x4 : Nat) (x5 : Nat) (x6 : Nat) (x7 : Int32) (x8 : Nat) (x9 : Int32) (x10 : Int32) (k1 : Int32) : Met l yX11_accept (wsM yX11_accept cX11_accept 2 (some .int)) ({ frames := 0, cells := 0, slots := 0, locals := 0 }) (va_Pc [.ref xa, .int k1] (Pr D [(xa, .inr (11, [.ref x0, .int x1, .ref x2, .int x3, .ref x4, .ref x5, .ref x6, .int x7, .ref x8, .int x9, .int x10]))] [] sz)) (va_Qi (fun (r : Int32) (_ : Unit) => r = k1) (fun _ t => Po D [(xa, .inr (11, [.ref x0, .int x1, .ref x2, .int x3, .ref x4, .ref x5, .ref x6, .int x7, .ref x8, .int 0, .int (-1)]))] [] (va_A [(xa, .inr (11, [.ref x0, .int x1, .ref x2, .int x3, .ref x4, .ref x5, .ref x6, .int x7, .ref x8, .int x9, .int x10]))] sz) t) (va_A [(xa, .inr (11, [.ref x0, .int x1, .ref x2, .int x3, .ref x4, .ref x5, .ref x6, .int x7, .ref x8, .int x9, .int x10]))] sz)) 0 0 (va_A [(xa, .inr (11, [.ref x0, .int x1, .ref x2, .int x3, .ref x4, .ref x5, .ref x6, .int x7, .ref x8, .int x9, .int x10]))] sz) := by
  refine Met.ofW (cc := cX11_accept) (maxL := 2) (ret := (some .int)) (by decide) rfl ?_
  intro p e s m args below meth c s₁ B hml hv
  obtain ⟨rfl, hsz, hP, hK, hD0, hN⟩ := hv
  have hx := B.exec
  have hb := B.bytes
  have hr := B.returns
  have hts := atoms_spec (ws := (wsM yX11_accept cX11_accept 2 (some .int))) B.pre
  have hg : ∀ w ∈ lw_good, w.before _ s = true := fun w h => hts w (List.mem_cons_of_mem _ h)
  have hown : s.vm.findClass RX11 = some m.cls := findClass_of_methodNamed B.named
  have hlocks := B.notSynchronized
  subst hsz
  have hD := hD0.self (sz := s.heap.size)
  generalize hAe : va_A [(xa, .inr (11, [.ref x0, .int x1, .ref x2, .int x3, .ref x4, .ref x5, .ref x6, .int x7, .ref x8, .int x9, .int x10]))] s.heap.size = A at hD ⊢
  have hA : ∀ q : Nat, s.heap.size ≤ q → A q := fun q h => by rw [← hAe]; exact Or.inr h
  have hS : va_S A s.heap s.heap [] := va_S.rf
  have hP : va_P D vwCl [(xa, .inr (11, [.ref x0, .int x1, .ref x2, .int x3, .ref x4, .ref x5, .ref x6, .int x7, .ref x8, .int x9, .int x10]))] s.heap := hP
  have hl := lv_entry ([.ref xa, .int k1]) (n := 2) (Nat.le_of_ble_eq_true rfl)
  rw [lg_entry_eq]
  generalize (lg_sl ([.ref xa, .int k1]) ++ List.replicate (2 - (lg_sl ([.ref xa, .int k1])).length) Slot.unset).toArray = ls at hl ⊢
  have hl : lv_has ls 2 [(0, .ref xa), (1, .int k1)] := hl
  refine lv_aload_n hx hb dX11_accept_0 rfl (lv_at hl 0 rfl) ?_
  refine lv_iconst (v := 0) hx hb dX11_accept_1 (by decide) ?_
  refine va_put (D := D) (ci := 11) (v := .int 0) (ty := .int) (C := RX11) (T := TX11) (N := 11) hx hb hg inG11 tyX11 tyX11_ok nmX11 hown hK hP hD hS 0 rfl rfl 9 (by decide) (hg _ wd_0) (fun _ h9 => h9) rfl (by decide +kernel) rfl rfl (Nat.le_of_ble_eq_true rfl) dX11_accept_2 (fun H_1 locs hP hD hS => ?_)
  have hP : va_P D vwCl [(xa, .inr (11, [.ref x0, .int x1, .ref x2, .int x3, .ref x4, .ref x5, .ref x6, .int x7, .ref x8, .int 0, .int x10]))] H_1 := hP
  have hD : va_D A [(xa, .inr (11, [.ref x0, .int x1, .ref x2, .int x3, .ref x4, .ref x5, .ref x6, .int x7, .ref x8, .int 0, .int x10]))] := hD
  refine lv_aload_n hx hb dX11_accept_5 rfl (lv_at hl 0 rfl) ?_
  refine lv_iconst (v := (-1)) hx hb dX11_accept_6 (by decide) ?_
  refine va_put (D := D) (ci := 11) (v := .int (-1)) (ty := .int) (C := RX11) (T := TX11) (N := 11) hx hb hg inG11 tyX11 tyX11_ok nmX11 hown hK hP hD hS 0 rfl rfl 10 (by decide) (hg _ wd_1) (fun _ h9 => h9) rfl (by decide +kernel) rfl rfl (Nat.le_of_ble_eq_true rfl) dX11_accept_7 (fun H_2 locs hP hD hS => ?_)
  have hP : va_P D vwCl [(xa, .inr (11, [.ref x0, .int x1, .ref x2, .int x3, .ref x4, .ref x5, .ref x6, .int x7, .ref x8, .int 0, .int (-1)]))] H_2 := hP
  have hD : va_D A [(xa, .inr (11, [.ref x0, .int x1, .ref x2, .int x3, .ref x4, .ref x5, .ref x6, .int x7, .ref x8, .int 0, .int (-1)]))] := hD
  refine lv_iload_n hx hb dX11_accept_10 rfl (lv_at hl 1 rfl) ?_
  have hP9 := hP.sub (ws' := [(xa, .inr (11, [.ref x0, .int x1, .ref x2, .int x3, .ref x4, .ref x5, .ref x6, .int x7, .ref x8, .int 0, .int (-1)]))]) [0] rfl
  have hD9 := hD.sub (ws' := [(xa, .inr (11, [.ref x0, .int x1, .ref x2, .int x3, .ref x4, .ref x5, .ref x6, .int x7, .ref x8, .int 0, .int (-1)]))]) [0] (by decide) rfl
  have hK9 := hK.sub (tys' := []) [] rfl
  exact W.iret (v := k1) hx hb hr (fun t ht hW => ⟨⟨k1, (), rfl, rfl, ⟨by rw [ht]; exact hP9, va_K.moved hW.alike hK9, hD9⟩⟩, hS.F ht⟩) hS.2.2 dX11_accept_11
set_option maxHeartbeats 4000000 in
set_option maxRecDepth 100000 in
theorem k_houseAt0 (l : Launch) (D : va_G) (sz : Nat) (xa : Nat) (x0 : Nat) (x2 : Nat) (x4 : Nat) (x5 : Nat) (x6 : Nat) (x7 : Int32) (x8 : Nat) (x9 : Int32) (x10 : Int32) (k1 : Int32) : Met l yX11_houseAt (wsM yX11_houseAt cX11_houseAt 2 (some (.object "PartnersBook$House"))) ({ frames := 0, cells := 0, slots := 0, locals := 0 }) (va_Pc [.ref xa, .int k1] (Pr D [(xa, .inr (11, [.ref x0, .int 0, .ref x2, .int 0, .ref x4, .ref x5, .ref x6, .int x7, .ref x8, .int x9, .int x10]))] [] sz)) (va_Qq (fun (r : Option Nat) (_ : Unit) => r = none) (fun _ t => Po D [(xa, .inr (11, [.ref x0, .int 0, .ref x2, .int 0, .ref x4, .ref x5, .ref x6, .int x7, .ref x8, .int x9, .int x10]))] [] (va_A [(xa, .inr (11, [.ref x0, .int 0, .ref x2, .int 0, .ref x4, .ref x5, .ref x6, .int x7, .ref x8, .int x9, .int x10]))] sz) t) (va_A [(xa, .inr (11, [.ref x0, .int 0, .ref x2, .int 0, .ref x4, .ref x5, .ref x6, .int x7, .ref x8, .int x9, .int x10]))] sz)) 0 0 (va_A [(xa, .inr (11, [.ref x0, .int 0, .ref x2, .int 0, .ref x4, .ref x5, .ref x6, .int x7, .ref x8, .int x9, .int x10]))] sz) := by
  refine Met.ofW (cc := cX11_houseAt) (maxL := 2) (ret := (some (.object "PartnersBook$House"))) (by decide) rfl ?_
  intro p e s m args below meth c s₁ B hml hv
  obtain ⟨rfl, hsz, hP, hK, hD0, hN⟩ := hv
  have hx := B.exec
  have hb := B.bytes
  have hr := B.returns
  have hts := atoms_spec (ws := (wsM yX11_houseAt cX11_houseAt 2 (some (.object "PartnersBook$House")))) B.pre
  have hg : ∀ w ∈ lw_good, w.before _ s = true := fun w h => hts w (List.mem_cons_of_mem _ h)
  have hown : s.vm.findClass RX11 = some m.cls := findClass_of_methodNamed B.named
  have hlocks := B.notSynchronized
  subst hsz
  have hD := hD0.self (sz := s.heap.size)
  generalize hAe : va_A [(xa, .inr (11, [.ref x0, .int 0, .ref x2, .int 0, .ref x4, .ref x5, .ref x6, .int x7, .ref x8, .int x9, .int x10]))] s.heap.size = A at hD ⊢
  have hA : ∀ q : Nat, s.heap.size ≤ q → A q := fun q h => by rw [← hAe]; exact Or.inr h
  have hS : va_S A s.heap s.heap [] := va_S.rf
  have hP : va_P D vwCl [(xa, .inr (11, [.ref x0, .int 0, .ref x2, .int 0, .ref x4, .ref x5, .ref x6, .int x7, .ref x8, .int x9, .int x10]))] s.heap := hP
  have hl := lv_entry ([.ref xa, .int k1]) (n := 2) (Nat.le_of_ble_eq_true rfl)
  rw [lg_entry_eq]
  generalize (lg_sl ([.ref xa, .int k1]) ++ List.replicate (2 - (lg_sl ([.ref xa, .int k1])).length) Slot.unset).toArray = ls at hl ⊢
  have hl : lv_has ls 2 [(0, .ref xa), (1, .int k1)] := hl
  refine lv_iload_n hx hb dX11_houseAt_0 rfl (lv_at hl 1 rfl) ?_
  refine lv_if_lt (tgt := 27) hx hb dX11_houseAt_1 (by decide) (fun c_1 => ?_) (fun c_1 => ?_)
  · refine lv_null hx hb dX11_houseAt_27 ?_
    have hP9 := hP.sub (ws' := [(xa, .inr (11, [.ref x0, .int 0, .ref x2, .int 0, .ref x4, .ref x5, .ref x6, .int x7, .ref x8, .int x9, .int x10]))]) [0] rfl
    have hD9 := hD.sub (ws' := [(xa, .inr (11, [.ref x0, .int 0, .ref x2, .int 0, .ref x4, .ref x5, .ref x6, .int x7, .ref x8, .int x9, .int x10]))]) [0] (by decide) rfl
    have hK9 := hK.sub (tys' := []) [] rfl
    exact W.aret (v := .null) hx hb hr (Or.inl ⟨_, rfl⟩) (Or.inl rfl) (fun t ht hW => ⟨⟨none, (), rfl, rfl, ⟨by rw [ht]; exact hP9, va_K.moved hW.alike hK9, hD9⟩⟩, hS.F ht⟩) hS.2.2 dX11_houseAt_28
  · refine lv_iload_n hx hb dX11_houseAt_4 rfl (lv_at hl 1 rfl) ?_
    refine lv_aload_n hx hb dX11_houseAt_5 rfl (lv_at hl 0 rfl) ?_
    refine va_get (D := D) (ci := 11) (v := .int 0) (C := RX11) (T := TX11) (N := 11) hx hb hg inG11 hown hK hP 0 rfl rfl 1 (by decide) (hg _ wd_7) (fun _ h9 => h9) rfl dX11_houseAt_6 ?_
    refine lv_icmp_ge (tgt := 27) hx hb dX11_houseAt_9 (by decide) (fun c_2 => ?_) (fun c_2 => absurd (Int32.not_lt.mp c_1) c_2)
    refine lv_null hx hb dX11_houseAt_27 ?_
    have hP9 := hP.sub (ws' := [(xa, .inr (11, [.ref x0, .int 0, .ref x2, .int 0, .ref x4, .ref x5, .ref x6, .int x7, .ref x8, .int x9, .int x10]))]) [0] rfl
    have hD9 := hD.sub (ws' := [(xa, .inr (11, [.ref x0, .int 0, .ref x2, .int 0, .ref x4, .ref x5, .ref x6, .int x7, .ref x8, .int x9, .int x10]))]) [0] (by decide) rfl
    have hK9 := hK.sub (tys' := []) [] rfl
    exact W.aret (v := .null) hx hb hr (Or.inl ⟨_, rfl⟩) (Or.inl rfl) (fun t ht hW => ⟨⟨none, (), rfl, rfl, ⟨by rw [ht]; exact hP9, va_K.moved hW.alike hK9, hD9⟩⟩, hS.F ht⟩) hS.2.2 dX11_houseAt_28
set_option maxHeartbeats 4000000 in
set_option maxRecDepth 100000 in
theorem k_letter0 (l : Launch) (D : va_G) (sz : Nat) (xa : Nat) (x0 : Nat) (x2 : Nat) (x4 : Nat) (x5 : Nat) (x6 : Nat) (x7 : Int32) (x8 : Nat) (x9 : Int32) (x10 : Int32) (k1 : Int32) (k2 : Int32) (k3 : Int32) : Met l yX11_letter (wsM yX11_letter cX11_letter 5 (some .int)) ({ frames := 2, cells := 0, slots := 0, locals := 43 }) (va_Pc [.ref xa, .int k1, .int k2, .int k3] (Pr D [(xa, .inr (11, [.ref x0, .int 0, .ref x2, .int 0, .ref x4, .ref x5, .ref x6, .int x7, .ref x8, .int x9, .int x10]))] [] sz)) (va_Qi (fun (r : Int32) (_ : Unit) => r = (-1)) (fun _ _ => True) (va_A [(xa, .inr (11, [.ref x0, .int 0, .ref x2, .int 0, .ref x4, .ref x5, .ref x6, .int x7, .ref x8, .int x9, .int x10]))] sz)) 0 0 (va_A [(xa, .inr (11, [.ref x0, .int 0, .ref x2, .int 0, .ref x4, .ref x5, .ref x6, .int x7, .ref x8, .int x9, .int x10]))] sz) := by
  refine Met.ofW (cc := cX11_letter) (maxL := 5) (ret := (some .int)) (by decide) rfl ?_
  intro p e s m args below meth c s₁ B hml hv
  obtain ⟨rfl, hsz, hP, hK, hD0, hN⟩ := hv
  have hx := B.exec
  have hb := B.bytes
  have hr := B.returns
  have hts := atoms_spec (ws := (wsM yX11_letter cX11_letter 5 (some .int))) B.pre
  have hg : ∀ w ∈ lw_good, w.before _ s = true := fun w h => hts w (List.mem_cons_of_mem _ h)
  have hown : s.vm.findClass RX11 = some m.cls := findClass_of_methodNamed B.named
  have hlocks := B.notSynchronized
  subst hsz
  have hD := hD0.self (sz := s.heap.size)
  generalize hAe : va_A [(xa, .inr (11, [.ref x0, .int 0, .ref x2, .int 0, .ref x4, .ref x5, .ref x6, .int x7, .ref x8, .int x9, .int x10]))] s.heap.size = A at hD ⊢
  have hA : ∀ q : Nat, s.heap.size ≤ q → A q := fun q h => by rw [← hAe]; exact Or.inr h
  have hS : va_S A s.heap s.heap [] := va_S.rf
  have hP : va_P D vwCl [(xa, .inr (11, [.ref x0, .int 0, .ref x2, .int 0, .ref x4, .ref x5, .ref x6, .int x7, .ref x8, .int x9, .int x10]))] s.heap := hP
  have hl := lv_entry ([.ref xa, .int k1, .int k2, .int k3]) (n := 5) (Nat.le_of_ble_eq_true rfl)
  rw [lg_entry_eq]
  generalize (lg_sl ([.ref xa, .int k1, .int k2, .int k3]) ++ List.replicate (5 - (lg_sl ([.ref xa, .int k1, .int k2, .int k3])).length) Slot.unset).toArray = ls at hl ⊢
  have hl : lv_has ls 5 [(0, .ref xa), (1, .int k1), (2, .int k2), (3, .int k3)] := hl
  refine lv_aload_n hx hb dX11_letter_0 rfl (lv_at hl 0 rfl) ?_
  refine lv_iload_n hx hb dX11_letter_1 rfl (lv_at hl 1 rfl) ?_
  have hPc := hP.sub (ws' := [(xa, .inr (11, [.ref x0, .int 0, .ref x2, .int 0, .ref x4, .ref x5, .ref x6, .int x7, .ref x8, .int x9, .int x10]))]) [0] rfl
  have hDc := hD.sub (ws' := [(xa, .inr (11, [.ref x0, .int 0, .ref x2, .int 0, .ref x4, .ref x5, .ref x6, .int x7, .ref x8, .int x9, .int x10]))]) [0] (by decide) rfl
  have hKc := hK.sub (tys' := []) [] rfl
  have hFc := va_free (wc := [(xa, .inr (11, [.ref x0, .int 0, .ref x2, .int 0, .ref x4, .ref x5, .ref x6, .int x7, .ref x8, .int x9, .int x10]))]) hD hS hA [0] rfl
  refine va_callq (va_runV (As := [.int k1]) (rest := []) ⟨hx, hb, hml, hown, hg⟩ (k_houseAt0 l D s.heap.size xa x0 x2 x4 x5 x6 x7 x8 x9 x10 k1) (cwV 1 hg (gV wd_8 wd_9 wd_10 wd_5 wd_11) rfl rfl rfl (by decide +kernel) ⟨(Nat.le_of_ble_eq_true rfl), (Nat.le_of_ble_eq_true rfl)⟩) ⟨Pr.blind, va_recv hKc hPc (ci := 11) (q0 := 0) rfl rfl, fun U hU hW => ⟨rfl, Pr.at hPc hKc hDc hN hU hW⟩⟩ rfl rfl hl.1 rfl (lv_room (Nat.le_of_ble_eq_true rfl)) dX11_letter_2 ⟨(Nat.le_of_ble_eq_true rfl), (Nat.le_of_ble_eq_true rfl)⟩) hS (fun q _ h => hFc q h) hFc (fun r_2 u t H_1 locs ht hvm hw hB hz1 hk1 hS => ?_)
  obtain ⟨hP1, hK1, hD1⟩ := hB
  rw [ht] at hP1
  have hK1 := va_K.moved hvm.symm hK1
  obtain ⟨hP, hD⟩ := va_join (wr := []) (w1 := [(xa, .inr (11, [.ref x0, .int 0, .ref x2, .int 0, .ref x4, .ref x5, .ref x6, .int x7, .ref x8, .int x9, .int x10]))]) hP hD [0] [] rfl rfl (by decide) (by decide) hk1 hFc hP1 hD1
  have hP : va_P D vwCl [(xa, .inr (11, [.ref x0, .int 0, .ref x2, .int 0, .ref x4, .ref x5, .ref x6, .int x7, .ref x8, .int x9, .int x10]))] H_1 := hP
  have hD : va_D A [(xa, .inr (11, [.ref x0, .int 0, .ref x2, .int 0, .ref x4, .ref x5, .ref x6, .int x7, .ref x8, .int x9, .int x10]))] := hD
  subst hw
  refine lv_astoreN (lv' := [(4, .null), (0, .ref xa), (1, .int k1), (2, .int k2), (3, .int k3)]) hx hb dX11_letter_5 hl (by decide) rfl (fun ls hl => ?_)
  refine lv_aloadN hx hb dX11_letter_7 (lv_at hl 0 rfl) ?_
  refine lv_ifnullN (tgt := 19) hx hb dX11_letter_9 (by decide) ?_
  refine lv_aload_n hx hb dX11_letter_19 rfl (lv_at hl 1 rfl) ?_
  refine lv_iconst (v := 1) hx hb dX11_letter_20 (by decide) ?_
  have hPc := hP.sub (ws' := [(xa, .inr (11, [.ref x0, .int 0, .ref x2, .int 0, .ref x4, .ref x5, .ref x6, .int x7, .ref x8, .int x9, .int x10]))]) [0] rfl
  have hDc := hD.sub (ws' := [(xa, .inr (11, [.ref x0, .int 0, .ref x2, .int 0, .ref x4, .ref x5, .ref x6, .int x7, .ref x8, .int x9, .int x10]))]) [0] (by decide) rfl
  have hKc := hK.sub (tys' := []) [] rfl
  have hFc := va_free (wc := [(xa, .inr (11, [.ref x0, .int 0, .ref x2, .int 0, .ref x4, .ref x5, .ref x6, .int x7, .ref x8, .int x9, .int x10]))]) hD hS hA [0] rfl
  refine va_calli (va_runV (As := [.int 1]) (rest := []) ⟨hx, hb, hml, hown, hg⟩ (k_refuse l D H_1.size xa x0 0 x2 0 x4 x5 x6 x7 x8 x9 x10 1) (cwV 1 hg (gV wd_12 wd_13 wd_14 wd_5 wd_15) rfl rfl rfl (by decide +kernel) ⟨(Nat.le_of_ble_eq_true rfl), (Nat.le_of_ble_eq_true rfl)⟩) ⟨Pr.blind, va_recv hKc hPc (ci := 11) (q0 := 0) rfl rfl, fun U hU hW => ⟨rfl, Pr.at hPc hKc hDc hN hU hW⟩⟩ rfl rfl hl.1 rfl (lv_room (Nat.le_of_ble_eq_true rfl)) dX11_letter_21 ⟨(Nat.le_of_ble_eq_true rfl), (Nat.le_of_ble_eq_true rfl)⟩) hS (fun q _ h => hFc q h) hFc (fun r_4 u t H_3 locs ht hvm hw hB hz1 hk1 hS => ?_)
  obtain ⟨hP1, hK1, hD1⟩ := hB
  rw [ht] at hP1
  have hK1 := va_K.moved hvm.symm hK1
  obtain ⟨hP, hD⟩ := va_join (wr := []) (w1 := [(xa, .inr (11, [.ref x0, .int 0, .ref x2, .int 0, .ref x4, .ref x5, .ref x6, .int x7, .ref x8, .int 1, .int (-1)]))]) hP hD [0] [] rfl rfl (by decide) (by decide) hk1 hFc hP1 hD1
  have hP : va_P D vwCl [(xa, .inr (11, [.ref x0, .int 0, .ref x2, .int 0, .ref x4, .ref x5, .ref x6, .int x7, .ref x8, .int 1, .int (-1)]))] H_3 := hP
  have hD : va_D A [(xa, .inr (11, [.ref x0, .int 0, .ref x2, .int 0, .ref x4, .ref x5, .ref x6, .int x7, .ref x8, .int 1, .int (-1)]))] := hD
  subst hw
  exact W.iret (v := (-1)) hx hb hr (fun t ht hW => ⟨⟨(-1), (), rfl, rfl, trivial⟩, hS.F ht⟩) hS.2.2 dX11_letter_24
