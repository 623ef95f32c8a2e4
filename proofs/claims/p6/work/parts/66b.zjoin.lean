set_option maxHeartbeats 4000000 in
set_option maxRecDepth 100000 in
theorem z_begins (l : Launch) (D : va_G) (cy : Nat → ClassId) (K : Kp) (L : List Nat) (M : Hp) (sz : Nat) (za : Nat) (z0 : Int32) (z1 : Nat) (z2 : Nat) (z3 : Nat) (z4 : Int32) (z5 : Int32) (z6 : Nat) (z7 : Nat) (z8 : Nat) (z9 : Nat) (z10 : Nat) (z11 : Nat) (z12 : Nat) (z13 : Nat) (z14 : Nat) (z15 : Nat) (z16 : Nat) (z17 : Nat) (z18 : Int32) (z19 : Nat) (k1 : Nat) (k2 : Nat) (k3 : Nat) (k4 : Int32) (k5 : Int32) (hW : WOM cy K L M) (i1 : isk K L z1 23 8) (b2 : z2 ≤ 8) (b3 : z3 ≤ 40) (i6 : isk K L z6 47 40) (i7 : isk K L z7 48 40) (i8 : isk K L z8 49 8) (i9 : isk K L z9 50 8) (b10 : z10 ≤ 8) (i11 : isk K L z11 32 24) (i12 : isk K L z12 14 24) (i13 : isk K L z13 97 24) (i14 : isk K L z14 98 24) (i15 : isk K L z15 99 24) (b16 : z16 ≤ 24) (i17 : isk K L z17 14 24) (i19 : isk K L z19 15 25) (ik1 : isk K L k1 12 0) (nk2 : k2 < 6) (nk3 : k3 < 40) (zk5 : (k5 = 0 ∨ k5 = 1)) (hFL : FL k1 10 24 M) (hO : OWN K L M) : Met l yX13_begins (wsM yX13_begins cX13_begins 7 (some .int)) ({ frames := 0, cells := 0, slots := 0, locals := 0 }) (va_Pc [.ref za, .ref k1, .int (nI k2), .int (nI k3), .int k4, .int k5] (PG D cy [(za, (b13_0 z0 z1 (nI z2) (nI z3) z4 z5 z6 z7 z8 z9 (nI z10) z11 z12 z13 z14 z15 (nI z16) z17 z18 z19))] L M sz)) (va_Qi (fun (r : Int32) (M9 : Hp) => WOM cy K L M9 ∧ fr K L [12, 14, 16, 30, 31, 33, 34, 41, 42, 75, 76] M M9 ∧ fG K L [10] M M9 ∧ (∃ n9 : Nat, fx M k1 10 = (n9 : Int) ∧ n9 < 24 ∧ VW K L M M9 k1 (va_up (fx M k1) 10 ((n9 + 1 : Nat) : Int)) (va_up (va_up (va_up (va_up (va_up (va_up (va_up (va_up (va_up (ax M k1) 19 (upd (ax M k1 19) (nI n9).toNatClampNeg (nI k3))) 20 (upd (ax M k1 20) (nI n9).toNatClampNeg (nI k2))) 21 (upd (ax M k1 21) (nI n9).toNatClampNeg k4)) 22 (upd (ax M k1 22) (nI n9).toNatClampNeg (-1))) 23 (upd (ax M k1 23) (nI n9).toNatClampNeg 0)) 24 (upd (ax M k1 24) (nI n9).toNatClampNeg 0)) 25 (upd (ax M k1 25) (nI n9).toNatClampNeg (-1))) 26 (upd (ax M k1 26) (nI n9).toNatClampNeg k5)) 9 (upd (ax M k1 9) (nI k2).toNatClampNeg (nI (n9 + 1))))) ∧ ((∃ (j : Nat), r = (nI j) ∧ j < 24 ∧ (fx M k1 10 = ((j : Nat) : Int))))) (fun M9 t => PQ D [(za, (b13_0 z0 z1 (nI z2) (nI z3) z4 z5 z6 z7 z8 z9 (nI z10) z11 z12 z13 z14 z15 (nI z16) z17 z18 z19))] L M9 (va_A ([(za, (b13_0 z0 z1 (nI z2) (nI z3) z4 z5 z6 z7 z8 z9 (nI z10) z11 z12 z13 z14 z15 (nI z16) z17 z18 z19))] ++ va_pl L M) sz) t) (va_A ([(za, (b13_0 z0 z1 (nI z2) (nI z3) z4 z5 z6 z7 z8 z9 (nI z10) z11 z12 z13 z14 z15 (nI z16) z17 z18 z19))] ++ va_pl L M) sz)) 0 0 (va_A ([(za, (b13_0 z0 z1 (nI z2) (nI z3) z4 z5 z6 z7 z8 z9 (nI z10) z11 z12 z13 z14 z15 (nI z16) z17 z18 z19))] ++ va_pl L M) sz) := by
  refine Met.ofW (cc := cX13_begins) (maxL := 7) (ret := (some .int)) (by decide) rfl ?_
  intro p e s m args below meth c s₁ B hml hv
  obtain ⟨rfl, hsz, hP, hK, hD0, hN⟩ := hv
  have hx := B.exec
  have hb := B.bytes
  have hr := B.returns
  have hts := atoms_spec (ws := (wsM yX13_begins cX13_begins 7 (some .int))) B.pre
  have hg : ∀ w ∈ lw_good, w.before _ s = true := fun w h => hts w (List.mem_cons_of_mem _ h)
  have hown : s.vm.findClass RX13 = some m.cls := findClass_of_methodNamed B.named
  have hlocks := B.notSynchronized
  subst hsz
  have hD := hD0.self (sz := s.heap.size)
  generalize hAe : va_A ([(za, (b13_0 z0 z1 (nI z2) (nI z3) z4 z5 z6 z7 z8 z9 (nI z10) z11 z12 z13 z14 z15 (nI z16) z17 z18 z19))] ++ va_pl L M) s.heap.size = A at hD ⊢
  have hA : ∀ q : Nat, s.heap.size ≤ q → A q := fun q h => by rw [← hAe]; exact Or.inr h
  have hS : va_S A s.heap s.heap [] := va_S.rf
  have hl := lv_entry ([.ref za, .ref k1, .int (nI k2), .int (nI k3), .int k4, .int k5]) (n := 7) (Nat.le_of_ble_eq_true rfl)
  rw [lg_entry_eq]
  generalize (lg_sl ([.ref za, .ref k1, .int (nI k2), .int (nI k3), .int k4, .int k5]) ++ List.replicate (7 - (lg_sl ([.ref za, .ref k1, .int (nI k2), .int (nI k3), .int k4, .int k5])).length) Slot.unset).toArray = ls at hl ⊢
  refine W.nameQ (fun Q hQ => ?_)
  refine W.nameR (fun R hR => ?_)
  have hRf : 0 ≤ R.frames := by rw [hR]; exact Nat.le_of_ble_eq_true rfl
  have hRl : 0 ≤ R.locals := by rw [hR]; exact Nat.le_of_ble_eq_true rfl
  have hRc : 0 ≤ R.cells := by rw [hR]; exact Nat.le_of_ble_eq_true rfl
  have hRs : 0 ≤ R.slots := by rw [hR]; exact Nat.le_of_ble_eq_true rfl
  have hF : fr K L [12, 14, 16, 30, 31, 33, 34, 41, 42, 75, 76] M M := fr.rf
  have hG : fG K L [10] M M := fG.rf
  have hl : lv_has ls 7 [(0, .ref za), (1, .ref k1), (2, .int (nI k2)), (3, .int (nI k3)), (4, .int k4), (5, .int k5)] := hl
  have hW0 := hW
  obtain ⟨fs1, hM1, hn1, hl1⟩ := hW.open_12 ik1
  obtain ⟨v2, hv2, hc2⟩ : ∃ v : Nat, fs1[10]? = some (.int (nI v) : Value) ∧ v ≤ 24 := hl1 10 (by decide)
  have hfl : v2 < 24 := by
    obtain ⟨fs, n, e1, e2, e3⟩ := hFL
    rw [inr12 (e1.symm.trans hM1)] at e2
    have e4 := Value.int.inj (Option.some.inj (e2.symm.trans hv2))
    have e5 := (iEQ (by omega) (by omega)).mp e4
    omega
  have hV : VW K L M M k1 (fx M k1) (ax M k1) := VW.rf k1 hO
  refine lv_aload_n hx hb dX13_begins_0 rfl (lv_at hl 1 rfl) ?_
  refine pg_getN (D := D) (ci := 12) (v := .int (nI v2)) (C := RX12) (T := TX12) (N := 51) hx hb hg inG12 hown hK hP ik1.1 hM1 rfl 10 (by decide) (hN.use (Cond.fieldLinkNest RX13 68 RX12 "tenures" "I" RX13) 19 rfl rfl) (fun _ h9 => h9) hv2 dX13_begins_1 ?_
  refine lv_istore (lv' := [(6, .int (nI v2)), (0, .ref za), (1, .ref k1), (2, .int (nI k2)), (3, .int (nI k3)), (4, .int k4), (5, .int k5)]) hx hb dX13_begins_4 hl (by decide) rfl (fun ls hl => ?_)
  refine lv_aload_n hx hb dX13_begins_6 rfl (lv_at hl 2 rfl) ?_
  refine lv_dup hx hb dX13_begins_7 rfl ?_
  refine pg_getN (D := D) (ci := 12) (v := .int (nI v2)) (C := RX12) (T := TX12) (N := 51) hx hb hg inG12 hown hK hP ik1.1 hM1 rfl 10 (by decide) (hN.use (Cond.fieldLinkNest RX13 68 RX12 "tenures" "I" RX13) 19 rfl rfl) (fun _ h9 => h9) hv2 dX13_begins_8 ?_
  refine lv_iconst (v := 1) hx hb dX13_begins_11 (by decide) ?_
  refine lv_iadd hx hb dX13_begins_12 ?_
  refine lv_topi (fun f_3 ef_3 => ?_)
  obtain rfl : f_3 = (nI (v2 + 1)) := ef_3.trans (nI_add v2 1)
  refine pg_putN (D := D) (ci := 12) (v := .int (nI (v2 + 1))) (ty := .int) (C := RX12) (T := TX12) (N := 51) hx hb hg inG12 tyX12 tyX12_ok nmX12 hown hK hP hD hS ik1.1 hM1 rfl 10 (by decide) (hN.use (Cond.fieldLinkNest RX13 68 RX12 "tenures" "I" RX13) 19 rfl rfl) (fun _ h9 => h9) rfl (by decide +kernel) rfl rfl (by rw [hn1]; decide) dX13_begins_13 (fun H_4 locs hP hD hS => ?_)
  have hs_7 : (fs1.set 10 (.int (nI (v2 + 1))))[10]? = some (.int (nI (v2 + 1))) := List.getElem?_set_self (by rw [hn1]; decide)
  have hk_6 := fld12_set (k := 10) (w := .int (nI (v2 + 1))) hl1 (show fld12 K L 10 (fs1.set 10 (.int (nI (v2 + 1)))) from ⟨(v2 + 1), hs_7, by omega⟩)
  have hn_8 : (fs1.set 10 (.int (nI (v2 + 1)))).length = 51 := by rw [List.length_set]; exact hn1
  have hb_9 : (v2 + 1) ≤ 24 := by omega
  obtain ⟨M_10, eM_10⟩ : ∃ M1 : Hp, M1 = va_up M k1 (.inr (12, fs1.set 10 (.int (nI (v2 + 1))))) := ⟨_, rfl⟩
  have hx10 : (fx M k1 10) = ((v2 : Nat) : Int) := (congrFun hV.2.1 10).symm.trans ((fx_of hM1 rfl hv2).trans (nI_toInt (by omega)))
  have hV : VW K L M M_10 k1 (va_up (fx M k1) 10 (((v2 + 1) : Nat) : Int)) (ax M k1) := by rw [eM_10]; exact hV.put hW ik1 hM1 hn1 rfl (by decide) rfl (nI_toInt (by omega))
  have hP : va_P D vwCl ([(za, (b13_0 z0 z1 (nI z2) (nI z3) z4 z5 z6 z7 z8 z9 (nI z10) z11 z12 z13 z14 z15 (nI z16) z17 z18 z19))] ++ va_pl L M_10) H_4 := by rw [eM_10]; exact hP
  have hD : va_D A ([(za, (b13_0 z0 z1 (nI z2) (nI z3) z4 z5 z6 z7 z8 z9 (nI z10) z11 z12 z13 z14 z15 (nI z16) z17 z18 z19))] ++ va_pl L M_10) := by rw [eM_10]; exact hD
  have hW : WOM cy K L M_10 := by rw [eM_10]; exact hW.up_12 ik1 ⟨_, rfl, hn_8, hk_6⟩
  have hF : fr K L [12, 14, 16, 30, 31, 33, 34, 41, 42, 75, 76] M M_10 := by rw [eM_10]; exact hF.up ik1 (by decide)
  have hG : fG K L [10] M M_10 := by rw [eM_10]; exact hG.up hM1 (by decide)
  have hM_11 : M_10 k1 = .inr (12, fs1.set 10 (.int (nI (v2 + 1)))) := by rw [eM_10]; exact va_up_self _ _ _
  refine lv_aload_n hx hb dX13_begins_16 rfl (lv_at hl 2 rfl) ?_
  obtain ⟨v12, hv12, hc12⟩ : ∃ v : Nat, (fs1.set 10 (.int (nI (v2 + 1))))[19]? = some (.ref v : Value) ∧ isk K L v 30 24 := hk_6 19 (by decide)
  refine pg_getN (D := D) (ci := 12) (v := .ref v12) (C := RX12) (T := TX12) (N := 51) hx hb hg inG12 hown hK hP ik1.1 hM_11 rfl 19 (by decide) (hN.use (Cond.fieldLinkNest RX13 72 RX12 "who" "[I" RX13) 28 rfl rfl) (fun _ h9 => h9) hv12 dX13_begins_17 ?_
  refine lv_iload hx hb dX13_begins_20 (lv_at hl 0 rfl) ?_
  refine lv_iload_n hx hb dX13_begins_22 rfl (lv_at hl 4 rfl) ?_
  obtain ⟨f13, hM13, hf13⟩ := hW.open_30 hc12
  refine pg_iast hx hb hK hP hD hS hc12.1 0 hM13 rfl (inbN v2 24 (by omega) (by omega)) dX13_begins_23 (fun H_14 locs hP hD hS => ?_)
  obtain ⟨M_15, eM_15⟩ : ∃ M1 : Hp, M1 = va_up M_10 v12 (.inl (cy 14, 24, .inl (upd f13 ((nI v2) : Int32).toNatClampNeg (nI k3)))) := ⟨_, rfl⟩
  have hy19 : (ax M k1 19) = f13 := (congrFun hV.2.2.1 19).symm.trans (ax_of hM_11 (by decide) hv12 hM13)
  have hV : VW K L M M_15 k1 (va_up (fx M k1) 10 (((v2 + 1) : Nat) : Int)) (va_up (ax M k1) 19 (upd (ax M k1 19) ((nI v2) : Int32).toNatClampNeg (nI k3))) := by rw [eM_15]; exact hV.ast (j := 19) hW ik1 hM_11 (by decide) hv12 hc12 hM13
  have hP : va_P D vwCl ([(za, (b13_0 z0 z1 (nI z2) (nI z3) z4 z5 z6 z7 z8 z9 (nI z10) z11 z12 z13 z14 z15 (nI z16) z17 z18 z19))] ++ va_pl L M_15) H_14 := by rw [eM_15]; exact hP
  have hD : va_D A ([(za, (b13_0 z0 z1 (nI z2) (nI z3) z4 z5 z6 z7 z8 z9 (nI z10) z11 z12 z13 z14 z15 (nI z16) z17 z18 z19))] ++ va_pl L M_15) := by rw [eM_15]; exact hD
  have hW : WOM cy K L M_15 := by rw [eM_15]; exact hW.up_30 hc12 ⟨_, rfl, (updP (P := fun z => ∃ c : Nat, c < 40 ∧ z = nI c) hf13 ⟨k3, by omega, rfl⟩)⟩
  have hF : fr K L [12, 14, 16, 30, 31, 33, 34, 41, 42, 75, 76] M M_15 := by rw [eM_15]; exact hF.up hc12 (by decide)
  have hG : fG K L [10] M M_15 := by rw [eM_15]; exact hG.arr hc12 (by decide)
  have hM_16 : M_15 v12 = .inl (cy 14, 24, .inl (upd f13 ((nI v2) : Int32).toNatClampNeg (nI k3))) := by rw [eM_15]; exact va_up_self _ _ _
  have hM_17 : M_15 k1 = .inr (12, fs1.set 10 (.int (nI (v2 + 1)))) := by rw [eM_15, va_up_ne _ _ (ik1.neT hc12 (by decide))]; exact hM_11
  have hf_19 : ∀ j, j < 24 → ∃ c : Nat, c < 40 ∧ (upd f13 ((nI v2) : Int32).toNatClampNeg (nI k3)) j = nI c := (updP (P := fun z => ∃ c : Nat, c < 40 ∧ z = nI c) hf13 ⟨k3, by omega, rfl⟩)
  obtain ⟨f_18, ef_18⟩ : ∃ f : Nat → Int32, f = upd f13 ((nI v2) : Int32).toNatClampNeg (nI k3) := ⟨_, rfl⟩
  rw [← ef_18] at hM_16 hf_19
  refine lv_aload_n hx hb dX13_begins_24 rfl (lv_at hl 2 rfl) ?_
  obtain ⟨v20, hv20, hc20⟩ : ∃ v : Nat, (fs1.set 10 (.int (nI (v2 + 1))))[20]? = some (.ref v : Value) ∧ isk K L v 31 24 := hk_6 20 (by decide)
  refine pg_getN (D := D) (ci := 12) (v := .ref v20) (C := RX12) (T := TX12) (N := 51) hx hb hg inG12 hown hK hP ik1.1 hM_17 rfl 20 (by decide) (hN.use (Cond.fieldLinkNest RX13 110 RX12 "where" "[I" RX13) 29 rfl rfl) (fun _ h9 => h9) hv20 dX13_begins_25 ?_
  refine lv_iload hx hb dX13_begins_28 (lv_at hl 0 rfl) ?_
  refine lv_iload_n hx hb dX13_begins_30 rfl (lv_at hl 3 rfl) ?_
  obtain ⟨f21, hM21, hf21⟩ := hW.open_31 hc20
  refine pg_iast hx hb hK hP hD hS hc20.1 0 hM21 rfl (inbN v2 24 (by omega) (by omega)) dX13_begins_31 (fun H_22 locs hP hD hS => ?_)
  obtain ⟨M_23, eM_23⟩ : ∃ M1 : Hp, M1 = va_up M_15 v20 (.inl (cy 14, 24, .inl (upd f21 ((nI v2) : Int32).toNatClampNeg (nI k2)))) := ⟨_, rfl⟩
  have hy20 : (ax M k1 20) = f21 := (congrFun hV.2.2.1 20).symm.trans (ax_of hM_17 (by decide) hv20 hM21)
  have hV : VW K L M M_23 k1 (va_up (fx M k1) 10 (((v2 + 1) : Nat) : Int)) (va_up (va_up (ax M k1) 19 (upd (ax M k1 19) ((nI v2) : Int32).toNatClampNeg (nI k3))) 20 (upd (ax M k1 20) ((nI v2) : Int32).toNatClampNeg (nI k2))) := by rw [eM_23]; exact hV.ast (j := 20) hW ik1 hM_17 (by decide) hv20 hc20 hM21
  have hP : va_P D vwCl ([(za, (b13_0 z0 z1 (nI z2) (nI z3) z4 z5 z6 z7 z8 z9 (nI z10) z11 z12 z13 z14 z15 (nI z16) z17 z18 z19))] ++ va_pl L M_23) H_22 := by rw [eM_23]; exact hP
  have hD : va_D A ([(za, (b13_0 z0 z1 (nI z2) (nI z3) z4 z5 z6 z7 z8 z9 (nI z10) z11 z12 z13 z14 z15 (nI z16) z17 z18 z19))] ++ va_pl L M_23) := by rw [eM_23]; exact hD
  have hW : WOM cy K L M_23 := by rw [eM_23]; exact hW.up_31 hc20 ⟨_, rfl, (updP (P := fun z => ∃ c : Nat, c < 6 ∧ z = nI c) hf21 ⟨k2, by omega, rfl⟩)⟩
  have hF : fr K L [12, 14, 16, 30, 31, 33, 34, 41, 42, 75, 76] M M_23 := by rw [eM_23]; exact hF.up hc20 (by decide)
  have hG : fG K L [10] M M_23 := by rw [eM_23]; exact hG.arr hc20 (by decide)
  have hM_24 : M_23 v20 = .inl (cy 14, 24, .inl (upd f21 ((nI v2) : Int32).toNatClampNeg (nI k2))) := by rw [eM_23]; exact va_up_self _ _ _
  have hM_25 : M_23 v12 = .inl (cy 14, 24, .inl (f_18)) := by rw [eM_23, va_up_ne _ _ (hc12.neT hc20 (by decide))]; exact hM_16
  have hM_26 : M_23 k1 = .inr (12, fs1.set 10 (.int (nI (v2 + 1)))) := by rw [eM_23, va_up_ne _ _ (ik1.neT hc20 (by decide))]; exact hM_17
  have hf_28 : ∀ j, j < 24 → ∃ c : Nat, c < 6 ∧ (upd f21 ((nI v2) : Int32).toNatClampNeg (nI k2)) j = nI c := (updP (P := fun z => ∃ c : Nat, c < 6 ∧ z = nI c) hf21 ⟨k2, by omega, rfl⟩)
  obtain ⟨f_27, ef_27⟩ : ∃ f : Nat → Int32, f = upd f21 ((nI v2) : Int32).toNatClampNeg (nI k2) := ⟨_, rfl⟩
  rw [← ef_27] at hM_24 hf_28
  refine lv_aload_n hx hb dX13_begins_32 rfl (lv_at hl 2 rfl) ?_
  obtain ⟨v29, hv29, hc29⟩ : ∃ v : Nat, (fs1.set 10 (.int (nI (v2 + 1))))[21]? = some (.ref v : Value) ∧ isk K L v 75 24 := hk_6 21 (by decide)
  refine pg_getN (D := D) (ci := 12) (v := .ref v29) (C := RX12) (T := TX12) (N := 51) hx hb hg inG12 hown hK hP ik1.1 hM_26 rfl 21 (by decide) (hN.use (Cond.fieldLinkNest RX13 112 RX12 "begin" "[I" RX13) 30 rfl rfl) (fun _ h9 => h9) hv29 dX13_begins_33 ?_
  refine lv_iload hx hb dX13_begins_36 (lv_at hl 0 rfl) ?_
  refine lv_iload hx hb dX13_begins_38 (lv_at hl 5 rfl) ?_
  obtain ⟨f30, hM30⟩ := hW.open_75 hc29
  refine pg_iast hx hb hK hP hD hS hc29.1 0 hM30 rfl (inbN v2 24 (by omega) (by omega)) dX13_begins_40 (fun H_31 locs hP hD hS => ?_)
  obtain ⟨M_32, eM_32⟩ : ∃ M1 : Hp, M1 = va_up M_23 v29 (.inl (cy 14, 24, .inl (upd f30 ((nI v2) : Int32).toNatClampNeg k4))) := ⟨_, rfl⟩
  have hy21 : (ax M k1 21) = f30 := (congrFun hV.2.2.1 21).symm.trans (ax_of hM_26 (by decide) hv29 hM30)
  have hV : VW K L M M_32 k1 (va_up (fx M k1) 10 (((v2 + 1) : Nat) : Int)) (va_up (va_up (va_up (ax M k1) 19 (upd (ax M k1 19) ((nI v2) : Int32).toNatClampNeg (nI k3))) 20 (upd (ax M k1 20) ((nI v2) : Int32).toNatClampNeg (nI k2))) 21 (upd (ax M k1 21) ((nI v2) : Int32).toNatClampNeg k4)) := by rw [eM_32]; exact hV.ast (j := 21) hW ik1 hM_26 (by decide) hv29 hc29 hM30
  have hP : va_P D vwCl ([(za, (b13_0 z0 z1 (nI z2) (nI z3) z4 z5 z6 z7 z8 z9 (nI z10) z11 z12 z13 z14 z15 (nI z16) z17 z18 z19))] ++ va_pl L M_32) H_31 := by rw [eM_32]; exact hP
  have hD : va_D A ([(za, (b13_0 z0 z1 (nI z2) (nI z3) z4 z5 z6 z7 z8 z9 (nI z10) z11 z12 z13 z14 z15 (nI z16) z17 z18 z19))] ++ va_pl L M_32) := by rw [eM_32]; exact hD
  have hW : WOM cy K L M_32 := by rw [eM_32]; exact hW.up_75 hc29 ⟨_, rfl⟩
  have hF : fr K L [12, 14, 16, 30, 31, 33, 34, 41, 42, 75, 76] M M_32 := by rw [eM_32]; exact hF.up hc29 (by decide)
  have hG : fG K L [10] M M_32 := by rw [eM_32]; exact hG.arr hc29 (by decide)
  have hM_33 : M_32 v29 = .inl (cy 14, 24, .inl (upd f30 ((nI v2) : Int32).toNatClampNeg k4)) := by rw [eM_32]; exact va_up_self _ _ _
  have hM_34 : M_32 v20 = .inl (cy 14, 24, .inl (f_27)) := by rw [eM_32, va_up_ne _ _ (hc20.neT hc29 (by decide))]; exact hM_24
  have hM_35 : M_32 v12 = .inl (cy 14, 24, .inl (f_18)) := by rw [eM_32, va_up_ne _ _ (hc12.neT hc29 (by decide))]; exact hM_25
  have hM_36 : M_32 k1 = .inr (12, fs1.set 10 (.int (nI (v2 + 1)))) := by rw [eM_32, va_up_ne _ _ (ik1.neT hc29 (by decide))]; exact hM_26
  obtain ⟨f_37, ef_37⟩ : ∃ f : Nat → Int32, f = upd f30 ((nI v2) : Int32).toNatClampNeg k4 := ⟨_, rfl⟩
  rw [← ef_37] at hM_33
  refine lv_aload_n hx hb dX13_begins_41 rfl (lv_at hl 2 rfl) ?_
  obtain ⟨v38, hv38, hc38⟩ : ∃ v : Nat, (fs1.set 10 (.int (nI (v2 + 1))))[22]? = some (.ref v : Value) ∧ isk K L v 41 24 := hk_6 22 (by decide)
  refine pg_getN (D := D) (ci := 12) (v := .ref v38) (C := RX12) (T := TX12) (N := 51) hx hb hg inG12 hown hK hP ik1.1 hM_36 rfl 22 (by decide) (hN.use (Cond.fieldLinkNest RX13 95 RX12 "ended" "[I" RX13) 31 rfl rfl) (fun _ h9 => h9) hv38 dX13_begins_42 ?_
  refine lv_iload hx hb dX13_begins_45 (lv_at hl 0 rfl) ?_
  refine lv_iconst (v := (-1)) hx hb dX13_begins_47 (by decide) ?_
  obtain ⟨f39, hM39⟩ := hW.open_41 hc38
  refine pg_iast hx hb hK hP hD hS hc38.1 0 hM39 rfl (inbN v2 24 (by omega) (by omega)) dX13_begins_48 (fun H_40 locs hP hD hS => ?_)
  obtain ⟨M_41, eM_41⟩ : ∃ M1 : Hp, M1 = va_up M_32 v38 (.inl (cy 14, 24, .inl (upd f39 ((nI v2) : Int32).toNatClampNeg (-1)))) := ⟨_, rfl⟩
  have hy22 : (ax M k1 22) = f39 := (congrFun hV.2.2.1 22).symm.trans (ax_of hM_36 (by decide) hv38 hM39)
  have hV : VW K L M M_41 k1 (va_up (fx M k1) 10 (((v2 + 1) : Nat) : Int)) (va_up (va_up (va_up (va_up (ax M k1) 19 (upd (ax M k1 19) ((nI v2) : Int32).toNatClampNeg (nI k3))) 20 (upd (ax M k1 20) ((nI v2) : Int32).toNatClampNeg (nI k2))) 21 (upd (ax M k1 21) ((nI v2) : Int32).toNatClampNeg k4)) 22 (upd (ax M k1 22) ((nI v2) : Int32).toNatClampNeg (-1))) := by rw [eM_41]; exact hV.ast (j := 22) hW ik1 hM_36 (by decide) hv38 hc38 hM39
  have hP : va_P D vwCl ([(za, (b13_0 z0 z1 (nI z2) (nI z3) z4 z5 z6 z7 z8 z9 (nI z10) z11 z12 z13 z14 z15 (nI z16) z17 z18 z19))] ++ va_pl L M_41) H_40 := by rw [eM_41]; exact hP
  have hD : va_D A ([(za, (b13_0 z0 z1 (nI z2) (nI z3) z4 z5 z6 z7 z8 z9 (nI z10) z11 z12 z13 z14 z15 (nI z16) z17 z18 z19))] ++ va_pl L M_41) := by rw [eM_41]; exact hD
  have hW : WOM cy K L M_41 := by rw [eM_41]; exact hW.up_41 hc38 ⟨_, rfl⟩
  have hF : fr K L [12, 14, 16, 30, 31, 33, 34, 41, 42, 75, 76] M M_41 := by rw [eM_41]; exact hF.up hc38 (by decide)
  have hG : fG K L [10] M M_41 := by rw [eM_41]; exact hG.arr hc38 (by decide)
  have hM_42 : M_41 v38 = .inl (cy 14, 24, .inl (upd f39 ((nI v2) : Int32).toNatClampNeg (-1))) := by rw [eM_41]; exact va_up_self _ _ _
  have hM_43 : M_41 v29 = .inl (cy 14, 24, .inl (f_37)) := by rw [eM_41, va_up_ne _ _ (hc29.neT hc38 (by decide))]; exact hM_33
  have hM_44 : M_41 v20 = .inl (cy 14, 24, .inl (f_27)) := by rw [eM_41, va_up_ne _ _ (hc20.neT hc38 (by decide))]; exact hM_34
  have hM_45 : M_41 v12 = .inl (cy 14, 24, .inl (f_18)) := by rw [eM_41, va_up_ne _ _ (hc12.neT hc38 (by decide))]; exact hM_35
  have hM_46 : M_41 k1 = .inr (12, fs1.set 10 (.int (nI (v2 + 1)))) := by rw [eM_41, va_up_ne _ _ (ik1.neT hc38 (by decide))]; exact hM_36
  obtain ⟨f_47, ef_47⟩ : ∃ f : Nat → Int32, f = upd f39 ((nI v2) : Int32).toNatClampNeg (-1) := ⟨_, rfl⟩
  rw [← ef_47] at hM_42
  refine lv_aload_n hx hb dX13_begins_49 rfl (lv_at hl 2 rfl) ?_
  obtain ⟨v48, hv48, hc48⟩ : ∃ v : Nat, (fs1.set 10 (.int (nI (v2 + 1))))[23]? = some (.ref v : Value) ∧ isk K L v 42 24 := hk_6 23 (by decide)
  refine pg_getN (D := D) (ci := 12) (v := .ref v48) (C := RX12) (T := TX12) (N := 51) hx hb hg inG12 hown hK hP ik1.1 hM_46 rfl 23 (by decide) (hN.use (Cond.fieldLinkNest RX13 115 RX12 "instalments" "[I" RX13) 32 rfl rfl) (fun _ h9 => h9) hv48 dX13_begins_50 ?_
  refine lv_iload hx hb dX13_begins_53 (lv_at hl 0 rfl) ?_
  refine lv_iconst (v := 0) hx hb dX13_begins_55 (by decide) ?_
  obtain ⟨f49, hM49⟩ := hW.open_42 hc48
  refine pg_iast hx hb hK hP hD hS hc48.1 0 hM49 rfl (inbN v2 24 (by omega) (by omega)) dX13_begins_56 (fun H_50 locs hP hD hS => ?_)
  obtain ⟨M_51, eM_51⟩ : ∃ M1 : Hp, M1 = va_up M_41 v48 (.inl (cy 14, 24, .inl (upd f49 ((nI v2) : Int32).toNatClampNeg 0))) := ⟨_, rfl⟩
  have hy23 : (ax M k1 23) = f49 := (congrFun hV.2.2.1 23).symm.trans (ax_of hM_46 (by decide) hv48 hM49)
  have hV : VW K L M M_51 k1 (va_up (fx M k1) 10 (((v2 + 1) : Nat) : Int)) (va_up (va_up (va_up (va_up (va_up (ax M k1) 19 (upd (ax M k1 19) ((nI v2) : Int32).toNatClampNeg (nI k3))) 20 (upd (ax M k1 20) ((nI v2) : Int32).toNatClampNeg (nI k2))) 21 (upd (ax M k1 21) ((nI v2) : Int32).toNatClampNeg k4)) 22 (upd (ax M k1 22) ((nI v2) : Int32).toNatClampNeg (-1))) 23 (upd (ax M k1 23) ((nI v2) : Int32).toNatClampNeg 0)) := by rw [eM_51]; exact hV.ast (j := 23) hW ik1 hM_46 (by decide) hv48 hc48 hM49
  have hP : va_P D vwCl ([(za, (b13_0 z0 z1 (nI z2) (nI z3) z4 z5 z6 z7 z8 z9 (nI z10) z11 z12 z13 z14 z15 (nI z16) z17 z18 z19))] ++ va_pl L M_51) H_50 := by rw [eM_51]; exact hP
  have hD : va_D A ([(za, (b13_0 z0 z1 (nI z2) (nI z3) z4 z5 z6 z7 z8 z9 (nI z10) z11 z12 z13 z14 z15 (nI z16) z17 z18 z19))] ++ va_pl L M_51) := by rw [eM_51]; exact hD
  have hW : WOM cy K L M_51 := by rw [eM_51]; exact hW.up_42 hc48 ⟨_, rfl⟩
  have hF : fr K L [12, 14, 16, 30, 31, 33, 34, 41, 42, 75, 76] M M_51 := by rw [eM_51]; exact hF.up hc48 (by decide)
  have hG : fG K L [10] M M_51 := by rw [eM_51]; exact hG.arr hc48 (by decide)
  have hM_52 : M_51 v48 = .inl (cy 14, 24, .inl (upd f49 ((nI v2) : Int32).toNatClampNeg 0)) := by rw [eM_51]; exact va_up_self _ _ _
  have hM_53 : M_51 v38 = .inl (cy 14, 24, .inl (f_47)) := by rw [eM_51, va_up_ne _ _ (hc38.neT hc48 (by decide))]; exact hM_42
  have hM_54 : M_51 v29 = .inl (cy 14, 24, .inl (f_37)) := by rw [eM_51, va_up_ne _ _ (hc29.neT hc48 (by decide))]; exact hM_43
  have hM_55 : M_51 v20 = .inl (cy 14, 24, .inl (f_27)) := by rw [eM_51, va_up_ne _ _ (hc20.neT hc48 (by decide))]; exact hM_44
  have hM_56 : M_51 v12 = .inl (cy 14, 24, .inl (f_18)) := by rw [eM_51, va_up_ne _ _ (hc12.neT hc48 (by decide))]; exact hM_45
  have hM_57 : M_51 k1 = .inr (12, fs1.set 10 (.int (nI (v2 + 1)))) := by rw [eM_51, va_up_ne _ _ (ik1.neT hc48 (by decide))]; exact hM_46
  obtain ⟨f_58, ef_58⟩ : ∃ f : Nat → Int32, f = upd f49 ((nI v2) : Int32).toNatClampNeg 0 := ⟨_, rfl⟩
  rw [← ef_58] at hM_52
  refine lv_aload_n hx hb dX13_begins_57 rfl (lv_at hl 2 rfl) ?_
  obtain ⟨v59, hv59, hc59⟩ : ∃ v : Nat, (fs1.set 10 (.int (nI (v2 + 1))))[24]? = some (.ref v : Value) ∧ isk K L v 76 24 := hk_6 24 (by decide)
  refine pg_getN (D := D) (ci := 12) (v := .ref v59) (C := RX12) (T := TX12) (N := 51) hx hb hg inG12 hown hK hP ik1.1 hM_57 rfl 24 (by decide) (hN.use (Cond.fieldLinkNest RX13 118 RX12 "bears" "[I" RX13) 33 rfl rfl) (fun _ h9 => h9) hv59 dX13_begins_58 ?_
  refine lv_iload hx hb dX13_begins_61 (lv_at hl 0 rfl) ?_
  refine lv_iconst (v := 0) hx hb dX13_begins_63 (by decide) ?_
  obtain ⟨f60, hM60⟩ := hW.open_76 hc59
  refine pg_iast hx hb hK hP hD hS hc59.1 0 hM60 rfl (inbN v2 24 (by omega) (by omega)) dX13_begins_64 (fun H_61 locs hP hD hS => ?_)
  obtain ⟨M_62, eM_62⟩ : ∃ M1 : Hp, M1 = va_up M_51 v59 (.inl (cy 14, 24, .inl (upd f60 ((nI v2) : Int32).toNatClampNeg 0))) := ⟨_, rfl⟩
  have hy24 : (ax M k1 24) = f60 := (congrFun hV.2.2.1 24).symm.trans (ax_of hM_57 (by decide) hv59 hM60)
  have hV : VW K L M M_62 k1 (va_up (fx M k1) 10 (((v2 + 1) : Nat) : Int)) (va_up (va_up (va_up (va_up (va_up (va_up (ax M k1) 19 (upd (ax M k1 19) ((nI v2) : Int32).toNatClampNeg (nI k3))) 20 (upd (ax M k1 20) ((nI v2) : Int32).toNatClampNeg (nI k2))) 21 (upd (ax M k1 21) ((nI v2) : Int32).toNatClampNeg k4)) 22 (upd (ax M k1 22) ((nI v2) : Int32).toNatClampNeg (-1))) 23 (upd (ax M k1 23) ((nI v2) : Int32).toNatClampNeg 0)) 24 (upd (ax M k1 24) ((nI v2) : Int32).toNatClampNeg 0)) := by rw [eM_62]; exact hV.ast (j := 24) hW ik1 hM_57 (by decide) hv59 hc59 hM60
  have hP : va_P D vwCl ([(za, (b13_0 z0 z1 (nI z2) (nI z3) z4 z5 z6 z7 z8 z9 (nI z10) z11 z12 z13 z14 z15 (nI z16) z17 z18 z19))] ++ va_pl L M_62) H_61 := by rw [eM_62]; exact hP
  have hD : va_D A ([(za, (b13_0 z0 z1 (nI z2) (nI z3) z4 z5 z6 z7 z8 z9 (nI z10) z11 z12 z13 z14 z15 (nI z16) z17 z18 z19))] ++ va_pl L M_62) := by rw [eM_62]; exact hD
  have hW : WOM cy K L M_62 := by rw [eM_62]; exact hW.up_76 hc59 ⟨_, rfl⟩
  have hF : fr K L [12, 14, 16, 30, 31, 33, 34, 41, 42, 75, 76] M M_62 := by rw [eM_62]; exact hF.up hc59 (by decide)
  have hG : fG K L [10] M M_62 := by rw [eM_62]; exact hG.arr hc59 (by decide)
  have hM_63 : M_62 v59 = .inl (cy 14, 24, .inl (upd f60 ((nI v2) : Int32).toNatClampNeg 0)) := by rw [eM_62]; exact va_up_self _ _ _
  have hM_64 : M_62 v48 = .inl (cy 14, 24, .inl (f_58)) := by rw [eM_62, va_up_ne _ _ (hc48.neT hc59 (by decide))]; exact hM_52
  have hM_65 : M_62 v38 = .inl (cy 14, 24, .inl (f_47)) := by rw [eM_62, va_up_ne _ _ (hc38.neT hc59 (by decide))]; exact hM_53
  have hM_66 : M_62 v29 = .inl (cy 14, 24, .inl (f_37)) := by rw [eM_62, va_up_ne _ _ (hc29.neT hc59 (by decide))]; exact hM_54
  have hM_67 : M_62 v20 = .inl (cy 14, 24, .inl (f_27)) := by rw [eM_62, va_up_ne _ _ (hc20.neT hc59 (by decide))]; exact hM_55
  have hM_68 : M_62 v12 = .inl (cy 14, 24, .inl (f_18)) := by rw [eM_62, va_up_ne _ _ (hc12.neT hc59 (by decide))]; exact hM_56
  have hM_69 : M_62 k1 = .inr (12, fs1.set 10 (.int (nI (v2 + 1)))) := by rw [eM_62, va_up_ne _ _ (ik1.neT hc59 (by decide))]; exact hM_57
  obtain ⟨f_70, ef_70⟩ : ∃ f : Nat → Int32, f = upd f60 ((nI v2) : Int32).toNatClampNeg 0 := ⟨_, rfl⟩
  rw [← ef_70] at hM_63
  refine lv_aload_n hx hb dX13_begins_65 rfl (lv_at hl 2 rfl) ?_
  obtain ⟨v71, hv71, hc71⟩ : ∃ v : Nat, (fs1.set 10 (.int (nI (v2 + 1))))[25]? = some (.ref v : Value) ∧ isk K L v 34 24 := hk_6 25 (by decide)
  refine pg_getN (D := D) (ci := 12) (v := .ref v71) (C := RX12) (T := TX12) (N := 51) hx hb hg inG12 hown hK hP ik1.1 hM_69 rfl 25 (by decide) (hN.use (Cond.fieldLinkNest RX13 121 RX12 "heir" "[I" RX13) 34 rfl rfl) (fun _ h9 => h9) hv71 dX13_begins_66 ?_
  refine lv_iload hx hb dX13_begins_69 (lv_at hl 0 rfl) ?_
  refine lv_iconst (v := (-1)) hx hb dX13_begins_71 (by decide) ?_
  obtain ⟨f72, hM72, hf72⟩ := hW.open_34 hc71
  refine pg_iast hx hb hK hP hD hS hc71.1 0 hM72 rfl (inbN v2 24 (by omega) (by omega)) dX13_begins_72 (fun H_73 locs hP hD hS => ?_)
  obtain ⟨M_74, eM_74⟩ : ∃ M1 : Hp, M1 = va_up M_62 v71 (.inl (cy 14, 24, .inl (upd f72 ((nI v2) : Int32).toNatClampNeg (-1)))) := ⟨_, rfl⟩
  have hy25 : (ax M k1 25) = f72 := (congrFun hV.2.2.1 25).symm.trans (ax_of hM_69 (by decide) hv71 hM72)
  have hV : VW K L M M_74 k1 (va_up (fx M k1) 10 (((v2 + 1) : Nat) : Int)) (va_up (va_up (va_up (va_up (va_up (va_up (va_up (ax M k1) 19 (upd (ax M k1 19) ((nI v2) : Int32).toNatClampNeg (nI k3))) 20 (upd (ax M k1 20) ((nI v2) : Int32).toNatClampNeg (nI k2))) 21 (upd (ax M k1 21) ((nI v2) : Int32).toNatClampNeg k4)) 22 (upd (ax M k1 22) ((nI v2) : Int32).toNatClampNeg (-1))) 23 (upd (ax M k1 23) ((nI v2) : Int32).toNatClampNeg 0)) 24 (upd (ax M k1 24) ((nI v2) : Int32).toNatClampNeg 0)) 25 (upd (ax M k1 25) ((nI v2) : Int32).toNatClampNeg (-1))) := by rw [eM_74]; exact hV.ast (j := 25) hW ik1 hM_69 (by decide) hv71 hc71 hM72
  have hP : va_P D vwCl ([(za, (b13_0 z0 z1 (nI z2) (nI z3) z4 z5 z6 z7 z8 z9 (nI z10) z11 z12 z13 z14 z15 (nI z16) z17 z18 z19))] ++ va_pl L M_74) H_73 := by rw [eM_74]; exact hP
  have hD : va_D A ([(za, (b13_0 z0 z1 (nI z2) (nI z3) z4 z5 z6 z7 z8 z9 (nI z10) z11 z12 z13 z14 z15 (nI z16) z17 z18 z19))] ++ va_pl L M_74) := by rw [eM_74]; exact hD
  have hW : WOM cy K L M_74 := by rw [eM_74]; exact hW.up_34 hc71 ⟨_, rfl, (updP (P := fun z => (z = -1 ∨ ∃ c : Nat, c < 24 ∧ z = nI c)) hf72 (Or.inl rfl))⟩
  have hF : fr K L [12, 14, 16, 30, 31, 33, 34, 41, 42, 75, 76] M M_74 := by rw [eM_74]; exact hF.up hc71 (by decide)
  have hG : fG K L [10] M M_74 := by rw [eM_74]; exact hG.arr hc71 (by decide)
  have hM_75 : M_74 v71 = .inl (cy 14, 24, .inl (upd f72 ((nI v2) : Int32).toNatClampNeg (-1))) := by rw [eM_74]; exact va_up_self _ _ _
  have hM_76 : M_74 v59 = .inl (cy 14, 24, .inl (f_70)) := by rw [eM_74, va_up_ne _ _ (hc59.neT hc71 (by decide))]; exact hM_63
  have hM_77 : M_74 v48 = .inl (cy 14, 24, .inl (f_58)) := by rw [eM_74, va_up_ne _ _ (hc48.neT hc71 (by decide))]; exact hM_64
  have hM_78 : M_74 v38 = .inl (cy 14, 24, .inl (f_47)) := by rw [eM_74, va_up_ne _ _ (hc38.neT hc71 (by decide))]; exact hM_65
  have hM_79 : M_74 v29 = .inl (cy 14, 24, .inl (f_37)) := by rw [eM_74, va_up_ne _ _ (hc29.neT hc71 (by decide))]; exact hM_66
  have hM_80 : M_74 v20 = .inl (cy 14, 24, .inl (f_27)) := by rw [eM_74, va_up_ne _ _ (hc20.neT hc71 (by decide))]; exact hM_67
  have hM_81 : M_74 v12 = .inl (cy 14, 24, .inl (f_18)) := by rw [eM_74, va_up_ne _ _ (hc12.neT hc71 (by decide))]; exact hM_68
  have hM_82 : M_74 k1 = .inr (12, fs1.set 10 (.int (nI (v2 + 1)))) := by rw [eM_74, va_up_ne _ _ (ik1.neT hc71 (by decide))]; exact hM_69
  have hf_84 : ∀ j, j < 24 → ((upd f72 ((nI v2) : Int32).toNatClampNeg (-1)) j = -1 ∨ ∃ c : Nat, c < 24 ∧ (upd f72 ((nI v2) : Int32).toNatClampNeg (-1)) j = nI c) := (updP (P := fun z => (z = -1 ∨ ∃ c : Nat, c < 24 ∧ z = nI c)) hf72 (Or.inl rfl))
  obtain ⟨f_83, ef_83⟩ : ∃ f : Nat → Int32, f = upd f72 ((nI v2) : Int32).toNatClampNeg (-1) := ⟨_, rfl⟩
  rw [← ef_83] at hM_75 hf_84
  refine lv_aload_n hx hb dX13_begins_73 rfl (lv_at hl 2 rfl) ?_
  obtain ⟨v85, hv85, hc85⟩ : ∃ v : Nat, (fs1.set 10 (.int (nI (v2 + 1))))[26]? = some (.ref v : Value) ∧ isk K L v 16 24 := hk_6 26 (by decide)
  refine pg_getN (D := D) (ci := 12) (v := .ref v85) (C := RX12) (T := TX12) (N := 51) hx hb hg inG12 hown hK hP ik1.1 hM_82 rfl 26 (by decide) (hN.use (Cond.fieldLinkNest RX13 124 RX12 "word" "[Z" RX13) 35 rfl rfl) (fun _ h9 => h9) hv85 dX13_begins_74 ?_
  refine lv_iload hx hb dX13_begins_77 (lv_at hl 0 rfl) ?_
  refine lv_iload hx hb dX13_begins_79 (lv_at hl 6 rfl) ?_
  obtain ⟨f86, hM86, hf86⟩ := hW.open_16 hc85
  refine pg_zast hx hb hK hP hD hS hc85.1 2 hM86 rfl (inbN v2 24 (by omega) (by omega)) dX13_begins_81 (fun H_87 locs hP hD hS => ?_)
  obtain ⟨M_88, eM_88⟩ : ∃ M1 : Hp, M1 = va_up M_74 v85 (.inl (cy 16, 24, .inl (upd f86 ((nI v2) : Int32).toNatClampNeg (vp_nar .boolean k5)))) := ⟨_, rfl⟩
  have hy26 : (ax M k1 26) = f86 := (congrFun hV.2.2.1 26).symm.trans (ax_of hM_82 (by decide) hv85 hM86)
  have hV : VW K L M M_88 k1 (va_up (fx M k1) 10 (((v2 + 1) : Nat) : Int)) (va_up (va_up (va_up (va_up (va_up (va_up (va_up (va_up (ax M k1) 19 (upd (ax M k1 19) ((nI v2) : Int32).toNatClampNeg (nI k3))) 20 (upd (ax M k1 20) ((nI v2) : Int32).toNatClampNeg (nI k2))) 21 (upd (ax M k1 21) ((nI v2) : Int32).toNatClampNeg k4)) 22 (upd (ax M k1 22) ((nI v2) : Int32).toNatClampNeg (-1))) 23 (upd (ax M k1 23) ((nI v2) : Int32).toNatClampNeg 0)) 24 (upd (ax M k1 24) ((nI v2) : Int32).toNatClampNeg 0)) 25 (upd (ax M k1 25) ((nI v2) : Int32).toNatClampNeg (-1))) 26 (upd (ax M k1 26) ((nI v2) : Int32).toNatClampNeg (vp_nar .boolean k5))) := by rw [eM_88]; exact hV.ast (j := 26) hW ik1 hM_82 (by decide) hv85 hc85 hM86
  have hP : va_P D vwCl ([(za, (b13_0 z0 z1 (nI z2) (nI z3) z4 z5 z6 z7 z8 z9 (nI z10) z11 z12 z13 z14 z15 (nI z16) z17 z18 z19))] ++ va_pl L M_88) H_87 := by rw [eM_88]; exact hP
  have hD : va_D A ([(za, (b13_0 z0 z1 (nI z2) (nI z3) z4 z5 z6 z7 z8 z9 (nI z10) z11 z12 z13 z14 z15 (nI z16) z17 z18 z19))] ++ va_pl L M_88) := by rw [eM_88]; exact hD
  have hW : WOM cy K L M_88 := by rw [eM_88]; exact hW.up_16 hc85 ⟨_, rfl, (updP (P := fun z => (z = 0 ∨ z = 1)) hf86 (nar01 k5))⟩
  have hF : fr K L [12, 14, 16, 30, 31, 33, 34, 41, 42, 75, 76] M M_88 := by rw [eM_88]; exact hF.up hc85 (by decide)
  have hG : fG K L [10] M M_88 := by rw [eM_88]; exact hG.arr hc85 (by decide)
  have hM_89 : M_88 v85 = .inl (cy 16, 24, .inl (upd f86 ((nI v2) : Int32).toNatClampNeg (vp_nar .boolean k5))) := by rw [eM_88]; exact va_up_self _ _ _
  have hM_90 : M_88 v71 = .inl (cy 14, 24, .inl (f_83)) := by rw [eM_88, va_up_ne _ _ (hc71.neT hc85 (by decide))]; exact hM_75
  have hM_91 : M_88 v59 = .inl (cy 14, 24, .inl (f_70)) := by rw [eM_88, va_up_ne _ _ (hc59.neT hc85 (by decide))]; exact hM_76
  have hM_92 : M_88 v48 = .inl (cy 14, 24, .inl (f_58)) := by rw [eM_88, va_up_ne _ _ (hc48.neT hc85 (by decide))]; exact hM_77
  have hM_93 : M_88 v38 = .inl (cy 14, 24, .inl (f_47)) := by rw [eM_88, va_up_ne _ _ (hc38.neT hc85 (by decide))]; exact hM_78
  have hM_94 : M_88 v29 = .inl (cy 14, 24, .inl (f_37)) := by rw [eM_88, va_up_ne _ _ (hc29.neT hc85 (by decide))]; exact hM_79
  have hM_95 : M_88 v20 = .inl (cy 14, 24, .inl (f_27)) := by rw [eM_88, va_up_ne _ _ (hc20.neT hc85 (by decide))]; exact hM_80
  have hM_96 : M_88 v12 = .inl (cy 14, 24, .inl (f_18)) := by rw [eM_88, va_up_ne _ _ (hc12.neT hc85 (by decide))]; exact hM_81
  have hM_97 : M_88 k1 = .inr (12, fs1.set 10 (.int (nI (v2 + 1)))) := by rw [eM_88, va_up_ne _ _ (ik1.neT hc85 (by decide))]; exact hM_82
  refine lv_aload_n hx hb dX13_begins_82 rfl (lv_at hl 2 rfl) ?_
  obtain ⟨v98, hv98, hc98⟩ : ∃ v : Nat, (fs1.set 10 (.int (nI (v2 + 1))))[9]? = some (.ref v : Value) ∧ isk K L v 33 6 := hk_6 9 (by decide)
  refine pg_getN (D := D) (ci := 12) (v := .ref v98) (C := RX12) (T := TX12) (N := 51) hx hb hg inG12 hown hK hP ik1.1 hM_97 rfl 9 (by decide) (hN.use (Cond.fieldLinkNest RX13 92 RX12 "seat" "[I" RX13) 18 rfl rfl) (fun _ h9 => h9) hv98 dX13_begins_83 ?_
  refine lv_iload_n hx hb dX13_begins_86 rfl (lv_at hl 3 rfl) ?_
  refine lv_iload hx hb dX13_begins_87 (lv_at hl 0 rfl) ?_
  refine lv_iconst (v := 1) hx hb dX13_begins_89 (by decide) ?_
  refine lv_iadd hx hb dX13_begins_90 ?_
  refine lv_topi (fun f_99 ef_99 => ?_)
  obtain rfl : f_99 = (nI (v2 + 1)) := ef_99.trans (nI_add v2 1)
  obtain ⟨f100, hM100, hf100⟩ := hW.open_33 hc98
  refine pg_iast hx hb hK hP hD hS hc98.1 0 hM100 rfl (inbN k2 6 (by omega) (by omega)) dX13_begins_91 (fun H_101 locs hP hD hS => ?_)
  obtain ⟨M_102, eM_102⟩ : ∃ M1 : Hp, M1 = va_up M_88 v98 (.inl (cy 14, 6, .inl (upd f100 ((nI k2) : Int32).toNatClampNeg (nI (v2 + 1))))) := ⟨_, rfl⟩
  have hy9 : (ax M k1 9) = f100 := (congrFun hV.2.2.1 9).symm.trans (ax_of hM_97 (by decide) hv98 hM100)
  have hV : VW K L M M_102 k1 (va_up (fx M k1) 10 (((v2 + 1) : Nat) : Int)) (va_up (va_up (va_up (va_up (va_up (va_up (va_up (va_up (va_up (ax M k1) 19 (upd (ax M k1 19) ((nI v2) : Int32).toNatClampNeg (nI k3))) 20 (upd (ax M k1 20) ((nI v2) : Int32).toNatClampNeg (nI k2))) 21 (upd (ax M k1 21) ((nI v2) : Int32).toNatClampNeg k4)) 22 (upd (ax M k1 22) ((nI v2) : Int32).toNatClampNeg (-1))) 23 (upd (ax M k1 23) ((nI v2) : Int32).toNatClampNeg 0)) 24 (upd (ax M k1 24) ((nI v2) : Int32).toNatClampNeg 0)) 25 (upd (ax M k1 25) ((nI v2) : Int32).toNatClampNeg (-1))) 26 (upd (ax M k1 26) ((nI v2) : Int32).toNatClampNeg (vp_nar .boolean k5))) 9 (upd (ax M k1 9) ((nI k2) : Int32).toNatClampNeg (nI (v2 + 1)))) := by rw [eM_102]; exact hV.ast (j := 9) hW ik1 hM_97 (by decide) hv98 hc98 hM100
  have hP : va_P D vwCl ([(za, (b13_0 z0 z1 (nI z2) (nI z3) z4 z5 z6 z7 z8 z9 (nI z10) z11 z12 z13 z14 z15 (nI z16) z17 z18 z19))] ++ va_pl L M_102) H_101 := by rw [eM_102]; exact hP
  have hD : va_D A ([(za, (b13_0 z0 z1 (nI z2) (nI z3) z4 z5 z6 z7 z8 z9 (nI z10) z11 z12 z13 z14 z15 (nI z16) z17 z18 z19))] ++ va_pl L M_102) := by rw [eM_102]; exact hD
  have hW : WOM cy K L M_102 := by rw [eM_102]; exact hW.up_33 hc98 ⟨_, rfl, (updP (P := fun z => ((-1000000) ≤ z ∧ z ≤ 24)) hf100 (le24n (by omega)))⟩
  have hF : fr K L [12, 14, 16, 30, 31, 33, 34, 41, 42, 75, 76] M M_102 := by rw [eM_102]; exact hF.up hc98 (by decide)
  have hG : fG K L [10] M M_102 := by rw [eM_102]; exact hG.arr hc98 (by decide)
  have hM_103 : M_102 v98 = .inl (cy 14, 6, .inl (upd f100 ((nI k2) : Int32).toNatClampNeg (nI (v2 + 1)))) := by rw [eM_102]; exact va_up_self _ _ _
  have hM_104 : M_102 v71 = .inl (cy 14, 24, .inl (f_83)) := by rw [eM_102, va_up_ne _ _ (hc71.neT hc98 (by decide))]; exact hM_90
  have hM_105 : M_102 v59 = .inl (cy 14, 24, .inl (f_70)) := by rw [eM_102, va_up_ne _ _ (hc59.neT hc98 (by decide))]; exact hM_91
  have hM_106 : M_102 v48 = .inl (cy 14, 24, .inl (f_58)) := by rw [eM_102, va_up_ne _ _ (hc48.neT hc98 (by decide))]; exact hM_92
  have hM_107 : M_102 v38 = .inl (cy 14, 24, .inl (f_47)) := by rw [eM_102, va_up_ne _ _ (hc38.neT hc98 (by decide))]; exact hM_93
  have hM_108 : M_102 v29 = .inl (cy 14, 24, .inl (f_37)) := by rw [eM_102, va_up_ne _ _ (hc29.neT hc98 (by decide))]; exact hM_94
  have hM_109 : M_102 v20 = .inl (cy 14, 24, .inl (f_27)) := by rw [eM_102, va_up_ne _ _ (hc20.neT hc98 (by decide))]; exact hM_95
  have hM_110 : M_102 v12 = .inl (cy 14, 24, .inl (f_18)) := by rw [eM_102, va_up_ne _ _ (hc12.neT hc98 (by decide))]; exact hM_96
  have hM_111 : M_102 k1 = .inr (12, fs1.set 10 (.int (nI (v2 + 1)))) := by rw [eM_102, va_up_ne _ _ (ik1.neT hc98 (by decide))]; exact hM_97
  have hf_113 : ∀ j, j < 6 → ((-1000000) ≤ (upd f100 ((nI k2) : Int32).toNatClampNeg (nI (v2 + 1))) j ∧ (upd f100 ((nI k2) : Int32).toNatClampNeg (nI (v2 + 1))) j ≤ 24) := (updP (P := fun z => ((-1000000) ≤ z ∧ z ≤ 24)) hf100 (le24n (by omega)))
  obtain ⟨f_112, ef_112⟩ : ∃ f : Nat → Int32, f = upd f100 ((nI k2) : Int32).toNatClampNeg (nI (v2 + 1)) := ⟨_, rfl⟩
  rw [← ef_112] at hM_103 hf_113
  refine lv_iload hx hb dX13_begins_92 (lv_at hl 0 rfl) ?_
  rw [narB zk5] at hV
  rw [hQ]
  exact W.iret (v := (nI v2)) hx hb hr (fun t ht hW9 => ⟨⟨(nI v2), M_102, rfl, ⟨hW, hF, hG, ⟨_, hx10, by omega, hV⟩, ⟨v2, rfl, (by omega), (by omega)⟩⟩, ⟨by rw [ht]; exact hP, hD⟩⟩, hS.F ht⟩) hS.2.2 dX13_begins_94
set_option maxHeartbeats 4000000 in
set_option maxRecDepth 100000 in
theorem z_join (l : Launch) (D : va_G) (cy : Nat → ClassId) (K : Kp) (L : List Nat) (M : Hp) (sz : Nat) (za : Nat) (z0 : Int32) (z1 : Nat) (z2 : Nat) (z3 : Nat) (z4 : Int32) (z5 : Int32) (z6 : Nat) (z7 : Nat) (z8 : Nat) (z9 : Nat) (z10 : Nat) (z11 : Nat) (z12 : Nat) (z13 : Nat) (z14 : Nat) (z15 : Nat) (z16 : Nat) (z17 : Nat) (z18 : Int32) (z19 : Nat) (k1 : Int32) (k2 : Int32) (k3 : Int32) (k4 : Int32) (k5 : Int32) (SX : Nat → Nat → Int) (SY : Nat → Nat → Nat → Int32) (PK : Nat → Int32) (PT : Nat → Int32) (hW : WOM cy K L M) (i1 : isk K L z1 23 8) (b2 : z2 ≤ 8) (b3 : z3 ≤ 40) (i6 : isk K L z6 47 40) (i7 : isk K L z7 48 40) (i8 : isk K L z8 49 8) (i9 : isk K L z9 50 8) (b10 : z10 ≤ 8) (i11 : isk K L z11 32 24) (i12 : isk K L z12 14 24) (i13 : isk K L z13 97 24) (i14 : isk K L z14 98 24) (i15 : isk K L z15 99 24) (b16 : z16 ≤ 24) (i17 : isk K L z17 14 24) (i19 : isk K L z19 15 25) (zk5 : (k5 = 0 ∨ k5 = 1)) (hGI : GI K L z1 z2 M) (hZS : ZSx z1 z2 SX SY M) (hR5 : R5 z6 z7 M) (hZP : ZP z6 z7 PK PT M) : Met l yX13_join (wsM yX13_join cX13_join 9 (some .int)) ({ frames := 2, cells := 0, slots := 0, locals := 50 }) (va_Pc [.ref za, .int k1, .int k2, .int k3, .int k4, .int k5] (PG D cy [(za, (b13_0 z0 z1 (nI z2) (nI z3) z4 z5 z6 z7 z8 z9 (nI z10) z11 z12 z13 z14 z15 (nI z16) z17 z18 z19))] L M sz)) (va_Qi (fun (r : Int32) (M9 : Hp) => WOM cy K L M9 ∧ fr K L [12, 14, 16, 30, 31, 33, 34, 41, 42, 49, 50, 75, 76] M M9 ∧ fG K L [10] M M9 ∧ (GI K L z1 z2 M9 ∧ ZSx z1 z2 (sxJo z2 z3 PK PT SX SY k1 k2 k3 k4) (syJo z2 z3 PK PT SX SY k1 k2 k3 k4 k5) M9) ∧ ((r = anJo z2 z3 PK PT SX SY k1 k2 k3 k4))) (fun M9 t => ∃ (w4 : Int32) (w10 : Nat), w10 ≤ 8 ∧ ZGC M9 z8 w10 (caJo z2 z3 PK PT SX SY k1 k2 k3 k4) ∧ PQ D [(za, (b13_0 0 z1 (nI z2) (nI z3) w4 (-1) z6 z7 z8 z9 (nI w10) z11 z12 z13 z14 z15 (nI z16) z17 z18 z19))] L M9 (va_A ([(za, (b13_0 z0 z1 (nI z2) (nI z3) z4 z5 z6 z7 z8 z9 (nI z10) z11 z12 z13 z14 z15 (nI z16) z17 z18 z19))] ++ va_pl L M) sz) t) (va_A ([(za, (b13_0 z0 z1 (nI z2) (nI z3) z4 z5 z6 z7 z8 z9 (nI z10) z11 z12 z13 z14 z15 (nI z16) z17 z18 z19))] ++ va_pl L M) sz)) 0 0 (va_A ([(za, (b13_0 z0 z1 (nI z2) (nI z3) z4 z5 z6 z7 z8 z9 (nI z10) z11 z12 z13 z14 z15 (nI z16) z17 z18 z19))] ++ va_pl L M) sz) := by
  refine Met.ofW (cc := cX13_join) (maxL := 9) (ret := (some .int)) (by decide) rfl ?_
  intro p e s m args below meth c s₁ B hml hv
  obtain ⟨rfl, hsz, hP, hK, hD0, hN⟩ := hv
  have hx := B.exec
  have hb := B.bytes
  have hr := B.returns
  have hts := atoms_spec (ws := (wsM yX13_join cX13_join 9 (some .int))) B.pre
  have hg : ∀ w ∈ lw_good, w.before _ s = true := fun w h => hts w (List.mem_cons_of_mem _ h)
  have hown : s.vm.findClass RX13 = some m.cls := findClass_of_methodNamed B.named
  have hlocks := B.notSynchronized
  subst hsz
  have hD := hD0.self (sz := s.heap.size)
  generalize hAe : va_A ([(za, (b13_0 z0 z1 (nI z2) (nI z3) z4 z5 z6 z7 z8 z9 (nI z10) z11 z12 z13 z14 z15 (nI z16) z17 z18 z19))] ++ va_pl L M) s.heap.size = A at hD ⊢
  have hA : ∀ q : Nat, s.heap.size ≤ q → A q := fun q h => by rw [← hAe]; exact Or.inr h
  have hS : va_S A s.heap s.heap [] := va_S.rf
  have hl := lv_entry ([.ref za, .int k1, .int k2, .int k3, .int k4, .int k5]) (n := 9) (Nat.le_of_ble_eq_true rfl)
  rw [lg_entry_eq]
  generalize (lg_sl ([.ref za, .int k1, .int k2, .int k3, .int k4, .int k5]) ++ List.replicate (9 - (lg_sl ([.ref za, .int k1, .int k2, .int k3, .int k4, .int k5])).length) Slot.unset).toArray = ls at hl ⊢
  refine W.nameQ (fun Q hQ => ?_)
  refine W.nameR (fun R hR => ?_)
  have hRf : 2 ≤ R.frames := by rw [hR]; exact Nat.le_of_ble_eq_true rfl
  have hRl : 50 ≤ R.locals := by rw [hR]; exact Nat.le_of_ble_eq_true rfl
  have hRc : 0 ≤ R.cells := by rw [hR]; exact Nat.le_of_ble_eq_true rfl
  have hRs : 0 ≤ R.slots := by rw [hR]; exact Nat.le_of_ble_eq_true rfl
  have hF : fr K L [12, 14, 16, 30, 31, 33, 34, 41, 42, 49, 50, 75, 76] M M := fr.rf
  have hG : fG K L [10] M M := fG.rf
  have hl : lv_has ls 9 [(0, .ref za), (1, .int k1), (2, .int k2), (3, .int k3), (4, .int k4), (5, .int k5)] := hl
  have hW0 := hW
  refine lv_aload_n hx hb dX13_join_0 rfl (lv_at hl 0 rfl) ?_
  refine lv_iconst (v := 0) hx hb dX13_join_1 (by decide) ?_
  refine va_put (D := D) (ci := 13) (v := .int 0) (ty := .int) (C := RX13) (T := TX13) (N := 20) hx hb hg inG13 tyX13 tyX13_ok nmX13 hown hK hP hD hS 0 rfl rfl 0 (by decide) (hg _ wd_720) (fun _ h9 => h9) rfl (by decide +kernel) rfl rfl (Nat.le_of_ble_eq_true rfl) dX13_join_2 (fun H_1 locs hP hD hS => ?_)
  have hP : va_P D vwCl ([(za, (b13_0 0 z1 (nI z2) (nI z3) z4 z5 z6 z7 z8 z9 (nI z10) z11 z12 z13 z14 z15 (nI z16) z17 z18 z19))] ++ va_pl L M) H_1 := hP
  have hD : va_D A ([(za, (b13_0 0 z1 (nI z2) (nI z3) z4 z5 z6 z7 z8 z9 (nI z10) z11 z12 z13 z14 z15 (nI z16) z17 z18 z19))] ++ va_pl L M) := hD
  refine lv_aload_n hx hb dX13_join_5 rfl (lv_at hl 0 rfl) ?_
  refine lv_iconst (v := 0) hx hb dX13_join_6 (by decide) ?_
  refine va_put (D := D) (ci := 13) (v := .int 0) (ty := .int) (C := RX13) (T := TX13) (N := 20) hx hb hg inG13 tyX13 tyX13_ok nmX13 hown hK hP hD hS 0 rfl rfl 10 (by decide) (hg _ wd_723) (fun _ h9 => h9) rfl (by decide +kernel) rfl rfl (Nat.le_of_ble_eq_true rfl) dX13_join_7 (fun H_2 locs hP hD hS => ?_)
  have hP : va_P D vwCl ([(za, (b13_0 0 z1 (nI z2) (nI z3) z4 z5 z6 z7 z8 z9 0 z11 z12 z13 z14 z15 (nI z16) z17 z18 z19))] ++ va_pl L M) H_2 := hP
  have hD : va_D A ([(za, (b13_0 0 z1 (nI z2) (nI z3) z4 z5 z6 z7 z8 z9 0 z11 z12 z13 z14 z15 (nI z16) z17 z18 z19))] ++ va_pl L M) := hD
  refine lv_aload_n hx hb dX13_join_10 rfl (lv_at hl 0 rfl) ?_
  refine lv_iload_n hx hb dX13_join_11 rfl (lv_at hl 1 rfl) ?_
  refine lv_iload_n hx hb dX13_join_12 rfl (lv_at hl 2 rfl) ?_
  have hPc : va_P D vwCl ([(za, (b13_0 0 z1 (nI z2) (nI z3) z4 z5 z6 z7 z8 z9 0 z11 z12 z13 z14 z15 (nI z16) z17 z18 z19))] ++ va_pl L M) H_2 := hP
  have hDc : va_D A ([(za, (b13_0 0 z1 (nI z2) (nI z3) z4 z5 z6 z7 z8 z9 0 z11 z12 z13 z14 z15 (nI z16) z17 z18 z19))] ++ va_pl L M) := hD
  have hFc : ∀ q, va_A ([(za, (b13_0 0 z1 (nI z2) (nI z3) z4 z5 z6 z7 z8 z9 0 z11 z12 z13 z14 z15 (nI z16) z17 z18 z19))] ++ va_pl L M) H_2.size q → A q := pg_free hDc hS hA
  refine va_calli (va_runV (As := [.int k1, .int k2]) (rest := []) ⟨hx, hb, hml, hown, hg⟩ (f_isSeat l D cy K L M H_2.size za 0 z1 z2 z3 z4 z5 z6 z7 z8 z9 0 z11 z12 z13 z14 z15 z16 z17 z18 z19 k1 k2  hW i1 b2 b3 i6 i7 i8 i9 (by omega) i11 i12 i13 i14 i15 b16 i17 i19) (cwV 2 hg (gV wd_744 wd_745 wd_746 wd_717 wd_747) rfl rfl rfl (by decide +kernel) ⟨(Nat.le_trans (Nat.le_of_ble_eq_true rfl) hRf), (Nat.le_trans (Nat.le_of_ble_eq_true rfl) hRl)⟩) ⟨PG.blind, va_recv hK hP (ci := 13) (q0 := 0) rfl rfl, fun U hU hW => ⟨rfl, PG.at hPc hK hDc hN hU hW⟩⟩ rfl rfl hl.1 rfl (lv_room (Nat.le_of_ble_eq_true rfl)) dX13_join_13 ⟨(Nat.le_trans (Nat.le_of_ble_eq_true rfl) hRc), (Nat.le_trans (Nat.le_of_ble_eq_true rfl) hRs)⟩) hS (fun q _ h => hFc q h) hFc (fun r_4 M_5 t H_3 locs ht hvm hw hB hz1 hk1 hS => ?_)
  have hp_6 := hw
  obtain ⟨hP1, hD1⟩ := hB
  rw [ht] at hP1
  have hP : va_P D vwCl ([(za, (b13_0 0 z1 (nI z2) (nI z3) z4 z5 z6 z7 z8 z9 (nI 0) z11 z12 z13 z14 z15 (nI z16) z17 z18 z19))] ++ va_pl L M) H_3 := hP1
  have hD : va_D A ([(za, (b13_0 0 z1 (nI z2) (nI z3) z4 z5 z6 z7 z8 z9 (nI 0) z11 z12 z13 z14 z15 (nI z16) z17 z18 z19))] ++ va_pl L M) := hD1.mono hFc
  rcases hp_6 with ⟨rfl, c_7, c_8, c_9, c_10, c_11⟩ | ⟨rfl, c_12⟩
  · have hz := rfl (a := 0)
    refine lv_if_eq (tgt := 31) hx hb dX13_join_16 (by decide) (fun c_13 => absurd c_13 (by decide)) (fun _ => ?_)
    refine lv_iload_n hx hb dX13_join_19 rfl (lv_at hl 3 rfl) ?_
    refine lv_if_lt (tgt := 31) hx hb dX13_join_20 (by decide) (fun c_14 => ?_) (fun c_14 => ?_)
    · have hz := rfl (a := 0)
      refine lv_aload_n hx hb dX13_join_31 rfl (lv_at hl 0 rfl) ?_
      refine lv_iconst (v := 1) hx hb dX13_join_32 (by decide) ?_
      have hPc := hP.sub (ws' := [(za, (b13_0 0 z1 (nI z2) (nI z3) z4 z5 z6 z7 z8 z9 (nI 0) z11 z12 z13 z14 z15 (nI z16) z17 z18 z19))]) [0] rfl
      have hDc := hD.sub (ws' := [(za, (b13_0 0 z1 (nI z2) (nI z3) z4 z5 z6 z7 z8 z9 (nI 0) z11 z12 z13 z14 z15 (nI z16) z17 z18 z19))]) [0] (by decide) rfl
      have hKc := hK.sub (tys' := []) [] rfl
      have hFc := va_free (wc := [(za, (b13_0 0 z1 (nI z2) (nI z3) z4 z5 z6 z7 z8 z9 (nI 0) z11 z12 z13 z14 z15 (nI z16) z17 z18 z19))]) hD hS hA [0] rfl
      refine va_calli (va_runV (As := [.int 1]) (rest := []) ⟨hx, hb, hml, hown, hg⟩ (m_refused l D H_3.size za 0 z1 (nI z2) (nI z3) z4 z5 z6 z7 z8 z9 (nI 0) z11 z12 z13 z14 z15 (nI z16) z17 z18 z19 1) (cwV 1 hg (gV wd_725 wd_726 wd_727 wd_717 wd_728) rfl rfl rfl (by decide +kernel) ⟨(Nat.le_trans (Nat.le_of_ble_eq_true rfl) hRf), (Nat.le_trans (Nat.le_of_ble_eq_true rfl) hRl)⟩) ⟨Pr.blind, va_recv hK hP (ci := 13) (q0 := 0) rfl rfl, fun U hU hW => ⟨rfl, Pr.at hPc hKc hDc hN hU hW⟩⟩ rfl rfl hl.1 rfl (lv_room (Nat.le_of_ble_eq_true rfl)) dX13_join_33 ⟨(Nat.le_trans (Nat.le_of_ble_eq_true rfl) hRc), (Nat.le_trans (Nat.le_of_ble_eq_true rfl) hRs)⟩) hS (fun q _ h => hFc q h) hFc (fun r_16 M_17 t H_15 locs ht hvm hw hB hz1 hk1 hS => ?_)
      have hp_18 := hw
      obtain ⟨hP1, hK1, hD1⟩ := hB
      rw [ht] at hP1
      obtain ⟨hP, hD⟩ := va_joinQ (X := [(za, (b13_0 0 z1 (nI z2) (nI z3) z4 z5 z6 z7 z8 z9 (nI 0) z11 z12 z13 z14 z15 (nI z16) z17 z18 z19))]) (cx := [(za, (b13_0 0 z1 (nI z2) (nI z3) z4 z5 z6 z7 z8 z9 (nI 0) z11 z12 z13 z14 z15 (nI z16) z17 z18 z19))]) (wr := []) (w1 := [(za, (b13_0 0 z1 (nI z2) (nI z3) 1 (-1) z6 z7 z8 z9 (nI 0) z11 z12 z13 z14 z15 (nI z16) z17 z18 z19))]) (pl := va_pl L M) hP hD [0] [] rfl rfl (by decide) (by decide) hk1 hFc hP1 hD1
      have hP : va_P D vwCl ([(za, (b13_0 0 z1 (nI z2) (nI z3) 1 (-1) z6 z7 z8 z9 (nI 0) z11 z12 z13 z14 z15 (nI z16) z17 z18 z19))] ++ va_pl L M) H_15 := hP
      have hD : va_D A ([(za, (b13_0 0 z1 (nI z2) (nI z3) 1 (-1) z6 z7 z8 z9 (nI 0) z11 z12 z13 z14 z15 (nI z16) z17 z18 z19))] ++ va_pl L M) := hD
      have hq := Eq.symm hp_18
      subst hq
      have hI_19 : (0 : Int) ≤ (k1 : Int32).toInt := inltI rfl rfl c_8
      have hI_20 : (k1 : Int32).toInt < ((z2 : Nat) : Int) := inleI (nI_toInt (by omega)) rfl c_9
      have hI_21 : (0 : Int) ≤ (k2 : Int32).toInt := inltI rfl rfl c_10
      have hI_22 : (k2 : Int32).toInt < (6 : Int) := inleI rfl rfl c_11
      have hI_23 : (k3 : Int32).toInt < (0 : Int) := iltI rfl rfl c_14
      have hncr : ¬ okCr z2 z3 PK PT SX SY k1 k2 k3 k4 := fun q9 => by unfold okCr okHS at q9; first | omega | (obtain ⟨⟨_, _, _, _⟩, ⟨_, _⟩, ⟨_, _⟩, _, _, _⟩ := q9; first | omega | contradiction)
      have hno : ¬ okJo z2 z3 PK PT SX SY k1 k2 k3 k4 := fun q9 => by unfold okJo okHS at q9; first | omega | (obtain ⟨⟨_, _, _, _⟩, ⟨_, _⟩, ⟨_, _⟩, _, _, _⟩ := q9; first | omega | contradiction)
      rw [hQ]
      exact W.iret (v := (-1)) hx hb hr (fun t ht hW9 => ⟨⟨(-1), M, rfl, ⟨hW, hF, hG, ⟨hGI, (by unfold sxJo syJo; rw [if_neg hno, if_neg hno]; exact hZS)⟩, (by unfold anJo; rw [if_neg hno])⟩, ⟨1, 0, (by omega), (by unfold ZGC caJo; rw [if_neg hncr]; exact fun i => if_neg (by omega)), by rw [ht]; exact hP, hD⟩⟩, hS.F ht⟩) hS.2.2 dX13_join_36
    · have hz := rfl (a := 0)
      refine lv_iload_n hx hb dX13_join_23 rfl (lv_at hl 3 rfl) ?_
      refine lv_aload_n hx hb dX13_join_24 rfl (lv_at hl 0 rfl) ?_
      refine va_get (D := D) (ci := 13) (v := .int (nI z3)) (C := RX13) (T := TX13) (N := 20) hx hb hg inG13 hown hK hP 0 rfl rfl 3 (by decide) (hg _ wd_831) (fun _ h9 => h9) rfl dX13_join_25 ?_
      refine lv_icmp_lt (tgt := 37) hx hb dX13_join_28 (by decide) (fun c_24 => ?_) (fun c_24 => ?_)
      · have hz := rfl (a := 0)
        have n_25 : ¬ 40 ≤ k3 := ltB (b := 40) (by decide) (by omega) c_24
        obtain ⟨j_26, hj_27, rfl⟩ := i32nat z2 (by omega) c_8 c_9
        refine lv_aload_n hx hb dX13_join_37 rfl (lv_at hl 0 rfl) ?_
        refine va_get (D := D) (ci := 13) (v := .ref z1) (C := RX13) (T := TX13) (N := 20) hx hb hg inG13 hown hK hP 0 rfl rfl 1 (by decide) (hg _ wd_739) (fun _ h9 => h9) rfl dX13_join_38 ?_
        refine lv_iload_n hx hb dX13_join_41 rfl (lv_at hl 1 rfl) ?_
        obtain ⟨f28, hM28, hf28⟩ := hW.open_23 i1
        have hi_29 : vp_in (nI j_26) 8 := (inbN j_26 8 (by omega) (by omega))
        refine pg_aldq hx hb hK hP i1.1 9 hM28 rfl hi_29 dX13_join_42 ?_
        obtain ⟨b30, eb_31, hb_32⟩ := hf28 _ (vp_lt hi_29)
        rw [eb_31]
        have hact : ACT z1 z2 b30 M := ⟨((nI j_26) : Int32).toNatClampNeg, vp_lt (inbN j_26 z2 (by omega) (by omega)), by rw [show RFc (M z1) = f28 from by rw [hM28]; rfl]; exact eb_31⟩
        have hAT := GI.at hGI hact
        have hV : VW K L M M b30 (fx M b30) (ax M b30) := VW.rf b30 hGI.2.2.2
        have hb9 : RFc (M z1) ((nI j_26) : Int32).toNatClampNeg = some b30 := by rw [show RFc (M z1) = f28 from by rw [hM28]; rfl]; exact eb_31
        have hkn : ((nI j_26) : Int32).toNatClampNeg < z2 := vp_lt (inbN j_26 z2 (by omega) (by omega))
        have hZk := hZS _ b30 hkn hb9
        have hz0 : fx M b30 0 = SX ((nI j_26) : Int32).toNatClampNeg 0 := congrFun hZk.1 0
        have hz1 : fx M b30 1 = SX ((nI j_26) : Int32).toNatClampNeg 1 := congrFun hZk.1 1
        have hz10 : fx M b30 10 = SX ((nI j_26) : Int32).toNatClampNeg 10 := congrFun hZk.1 10
        have hz11 : fx M b30 11 = SX ((nI j_26) : Int32).toNatClampNeg 11 := congrFun hZk.1 11
        have hz12 : fx M b30 12 = SX ((nI j_26) : Int32).toNatClampNeg 12 := congrFun hZk.1 12
        have hz13 : fx M b30 13 = SX ((nI j_26) : Int32).toNatClampNeg 13 := congrFun hZk.1 13
        have hz14 : fx M b30 14 = SX ((nI j_26) : Int32).toNatClampNeg 14 := congrFun hZk.1 14
        have hz15 : fx M b30 15 = SX ((nI j_26) : Int32).toNatClampNeg 15 := congrFun hZk.1 15
        have hz16 : fx M b30 16 = SX ((nI j_26) : Int32).toNatClampNeg 16 := congrFun hZk.1 16
        obtain ⟨fs33, hM33, hn33, hl33⟩ := hW.open_12 hb_32
        obtain ⟨v34, hv34, hc34⟩ : ∃ v : Nat, fs33[10]? = some (.int (nI v) : Value) ∧ v ≤ 24 := hl33 10 (by decide)
        have hx10 : (fx M b30 10) = ((v34 : Nat) : Int) := (congrFun hV.2.1 10).symm.trans ((fx_of hM33 rfl hv34).trans (nI_toInt (by omega)))
        refine lv_astore (lv' := [(6, .ref b30), (0, .ref za), (1, .int (nI j_26)), (2, .int k2), (3, .int k3), (4, .int k4), (5, .int k5)]) hx hb dX13_join_43 hl (by decide) rfl (fun ls hl => ?_)
        refine lv_aload hx hb dX13_join_45 (lv_at hl 0 rfl) ?_
        refine lv_iload hx hb dX13_join_47 (lv_at hl 5 rfl) ?_
        have hPc : va_P D vwCl ([] ++ va_pl L M) H_3 := hP.part (cx := []) [] rfl
        have hDc : va_D A ([] ++ va_pl L M) := hD.part (cx := []) [] (by decide) rfl
        have hFc : ∀ q, va_A ([] ++ va_pl L M) H_3.size q → A q := pg_free hDc hS hA
        refine va_calli (va_runV (As := [.int k4]) (rest := []) ⟨hx, hb, hml, hown, hg⟩ (f_isFree l D cy K L M H_3.size b30 k4  hW hb_32) (cwV 1 hg (gV wd_807 wd_808 wd_809 wd_737 wd_810) rfl rfl rfl (by decide +kernel) ⟨(Nat.le_trans (Nat.le_of_ble_eq_true rfl) hRf), (Nat.le_trans (Nat.le_of_ble_eq_true rfl) hRl)⟩) ⟨PG.blind, pg_recv hK hP hb_32.1 hM33 rfl, fun U hU hW => ⟨rfl, PG.at hPc hK hDc hN hU hW⟩⟩ rfl rfl hl.1 rfl (lv_room (Nat.le_of_ble_eq_true rfl)) dX13_join_49 ⟨(Nat.le_trans (Nat.le_of_ble_eq_true rfl) hRc), (Nat.le_trans (Nat.le_of_ble_eq_true rfl) hRs)⟩) hS (fun q _ h => hFc q h) hFc (fun r_36 M_37 t H_35 locs ht hvm hw hB hz1 hk1 hS => ?_)
        have hp_38 := hw
        obtain ⟨hP1, hD1⟩ := hB
        rw [ht] at hP1
        obtain ⟨hP, hD⟩ := va_joinP (X := [(za, (b13_0 0 z1 (nI z2) (nI z3) z4 z5 z6 z7 z8 z9 (nI 0) z11 z12 z13 z14 z15 (nI z16) z17 z18 z19))]) (cx := []) (wr := [(za, (b13_0 0 z1 (nI z2) (nI z3) z4 z5 z6 z7 z8 z9 (nI 0) z11 z12 z13 z14 z15 (nI z16) z17 z18 z19))]) (rx := []) (pl := va_pl L M) (pl1 := va_pl L M) hP hD [] [0] rfl rfl (by decide) (by decide) hk1 hFc hP1 hD1
        have hP : va_P D vwCl ([(za, (b13_0 0 z1 (nI z2) (nI z3) z4 z5 z6 z7 z8 z9 (nI 0) z11 z12 z13 z14 z15 (nI z16) z17 z18 z19))] ++ va_pl L M) H_35 := hP
        have hD : va_D A ([(za, (b13_0 0 z1 (nI z2) (nI z3) z4 z5 z6 z7 z8 z9 (nI 0) z11 z12 z13 z14 z15 (nI z16) z17 z18 z19))] ++ va_pl L M) := hD
        rcases hp_38 with ⟨rfl, c_39, c_40, c_41⟩ | ⟨rfl, c_42⟩
        · have hz := rfl (a := 0)
          refine lv_if_ne (tgt := 61) hx hb dX13_join_52 (by decide) (fun _ => ?_) (fun c_43 => absurd c_43 (by decide))
          refine lv_aload hx hb dX13_join_61 (lv_at hl 0 rfl) ?_
          obtain ⟨v44, hv44, hc44⟩ : ∃ v : Nat, fs33[9]? = some (.ref v : Value) ∧ isk K L v 33 6 := hl33 9 (by decide)
          refine pg_getN (D := D) (ci := 12) (v := .ref v44) (C := RX12) (T := TX12) (N := 51) hx hb hg inG12 hown hK hP hb_32.1 hM33 rfl 9 (by decide) (hN.use (Cond.fieldLinkNest RX13 92 RX12 "seat" "[I" RX13) 18 rfl rfl) (fun _ h9 => h9) hv44 dX13_join_63 ?_
          refine lv_iload_n hx hb dX13_join_66 rfl (lv_at hl 3 rfl) ?_
          obtain ⟨f45, hM45, hf45⟩ := hW.open_33 hc44
          have hi_46 : vp_in k2 6 := (inb k2 6 (by omega) c_10 c_11)
          refine pg_iald hx hb hK hP hc44.1 0 hM45 rfl hi_46 dX13_join_67 ?_
          have hp_47 := hf45 _ (vp_lt hi_46)
          refine lv_topi (fun f_48 ef_48 => ?_)
          rw [← ef_48] at hp_47
          obtain ⟨g_49, g_50⟩ := hp_47
          have hs9e : SY ((nI j_26) : Int32).toNatClampNeg 9 (k2 : Int32).toNatClampNeg = f_48 := by rw [← hZk.2, ax_of hM33 (by decide) hv44 hM45]; exact ef_48.symm
          have hs9 : (SY ((nI j_26) : Int32).toNatClampNeg 9 (k2 : Int32).toNatClampNeg).toInt = (f_48 : Int32).toInt := congrArg Int32.toInt hs9e
          refine lv_if_ge (tgt := 75) hx hb dX13_join_68 (by decide) (fun c_51 => ?_) (fun c_51 => ?_)
          · have hz := rfl (a := 0)
            refine lv_iconst (v := 0) hx hb dX13_join_75 (by decide) ?_
            refine lv_istore (lv' := [(7, .int 0), (6, .ref b30), (0, .ref za), (1, .int (nI j_26)), (2, .int k2), (3, .int k3), (4, .int k4), (5, .int k5)]) hx hb dX13_join_76 hl (by decide) rfl (fun ls hl => ?_)
            have hI_52 : (0 : Int) ≤ ((j_26 : Nat) : Int) := inltI (nI_toInt (by omega)) rfl c_8
            have hI_53 : ((j_26 : Nat) : Int) < ((z2 : Nat) : Int) := inleI (nI_toInt (by omega)) (nI_toInt (by omega)) c_9
            have hI_54 : (0 : Int) ≤ (k2 : Int32).toInt := inltI rfl rfl c_10
            have hI_55 : (k2 : Int32).toInt < (6 : Int) := inleI rfl rfl c_11
            have hI_56 : (0 : Int) ≤ (k3 : Int32).toInt := inltI rfl rfl c_14
            have hI_57 : (k3 : Int32).toInt < ((z3 : Nat) : Int) := iltI rfl (nI_toInt (by omega)) c_24
            have hI_58 : (k3 : Int32).toInt < (40 : Int) := inleI rfl rfl n_25
            have hI_59 : (0 : Int) ≤ (k4 : Int32).toInt := inltI rfl rfl c_40
            have hI_60 : (k4 : Int32).toInt < (1000 : Int) := inleI rfl rfl c_41
            have hI_61 : (-1000000) ≤ (f_48 : Int32).toInt := ileI rfl rfl g_49
            have hI_62 : (f_48 : Int32).toInt ≤ (24 : Int) := ileI rfl rfl g_50
            have hI_63 : (0 : Int) ≤ (f_48 : Int32).toInt := ileI rfl rfl c_51
            refine lv_iconst (v := 0) hx hb dX13_join_78 (by decide) ?_
            refine lv_istore (lv' := [(8, .int 0), (7, .int 0), (6, .ref b30), (0, .ref za), (1, .int (nI j_26)), (2, .int k2), (3, .int k3), (4, .int k4), (5, .int k5)]) hx hb dX13_join_79 hl (by decide) rfl (fun ls hl => ?_)
            have key_64 : ∀ (fu_66 : Nat) (v7w67 : Int32) (v8w67 : Nat) (M_72 : Hp) (H_73 : Heap) (locs : List Loc) (ls : Array Slot), 24 - v8w67 < fu_66 → (v7w67 = 0 ∨ v7w67 = 1) → M_72 b30 = .inr (12, fs33) → v8w67 ≤ 24 → ((v8w67 : Nat) : Int) ≤ SX ((nI j_26) : Int32).toNatClampNeg 10 → (v7w67 = 1 ↔ TKL (SY ((nI j_26) : Int32).toNatClampNeg) k2 k4 v8w67) → WOM cy K L M_72 → fr K L [12, 14, 16, 30, 31, 33, 34, 41, 42, 49, 50, 75, 76] M M_72 → fG K L [10] M M_72 → VW K L M M_72 b30 (fx M b30) (ax M b30) → va_P D vwCl ([(za, (b13_0 0 z1 (nI z2) (nI z3) z4 z5 z6 z7 z8 z9 (nI 0) z11 z12 z13 z14 z15 (nI z16) z17 z18 z19))] ++ va_pl L M_72) H_73 → va_D A ([(za, (b13_0 0 z1 (nI z2) (nI z3) z4 z5 z6 z7 z8 z9 (nI 0) z11 z12 z13 z14 z15 (nI z16) z17 z18 z19))] ++ va_pl L M_72) → va_S A s.heap H_73 locs → lv_has ls 9 [(8, .int (nI v8w67)), (7, .int v7w67), (6, .ref b30), (0, .ref za), (1, .int (nI j_26)), (2, .int k2), (3, .int k3), (4, .int k4), (5, .int k5)] → W p l e R s m ([.ref za, .int (nI j_26), .int k2, .int k3, .int k4, .int k5] : List Value).toArray below meth c H_73 locs 0 0 Q (F0 m 81 ls []) := by
              intro fu_66
              induction fu_66 with
              | zero => intro v7w67 v8w67 M_72 H_73 locs ls h; exact absurd h (Nat.not_lt_zero _)
              | succ fu_66 ih_65 =>
                intro v7w67 v8w67 M_72 H_73 locs ls hfu hq_68 hM_74 hx_69 hx_70 hx_71 hW hF hG hV hP hD hS hl
                rcases hq_68 with rfl | rfl
                · have hz := rfl (a := 0)
                  refine lv_iload hx hb dX13_join_81 (lv_at hl 0 rfl) ?_
                  refine lv_aload hx hb dX13_join_83 (lv_at hl 2 rfl) ?_
                  refine pg_getN (D := D) (ci := 12) (v := .int (nI v34)) (C := RX12) (T := TX12) (N := 51) hx hb hg inG12 hown hK hP hb_32.1 hM_74 rfl 10 (by decide) (hN.use (Cond.fieldLinkNest RX13 68 RX12 "tenures" "I" RX13) 19 rfl rfl) (fun _ h9 => h9) hv34 dX13_join_85 ?_
                  refine lv_icmp_ge (tgt := 146) hx hb dX13_join_88 (by decide) (fun c_75 => ?_) (fun c_75 => ?_)
                  · have hz := rfl (a := 0)
                    have n_76 : v34 ≤ v8w67 := (iLE (a := v34) (b := v8w67) (by omega) (by omega)).mp c_75
                    have htk : TKL (SY ((nI j_26) : Int32).toNatClampNeg) k2 k4 v8w67 ↔ _ := TKL.tkn (X := SX ((nI j_26) : Int32).toNatClampNeg) (by omega)
                    have hTK : ¬ ((SY ((nI j_26) : Int32).toNatClampNeg 9 (k2 : Int32).toNatClampNeg).toInt < 0 ∨ TKN (SX ((nI j_26) : Int32).toNatClampNeg) (SY ((nI j_26) : Int32).toNatClampNeg) k2 k4) := fun q => absurd (hx_71.mpr (htk.mpr q)) (by decide)
                    have hTKn : ¬ TKN (SX ((nI j_26) : Int32).toNatClampNeg) (SY ((nI j_26) : Int32).toNatClampNeg) k2 k4 := fun q => hTK (Or.inr q)
                    have hTK0 : 0 ≤ (SY ((nI j_26) : Int32).toNatClampNeg 9 (k2 : Int32).toNatClampNeg).toInt := Int.not_lt.mp (fun q => hTK (Or.inl q))
                    have hTKy := And.intro hTK0 hTKn
                    refine lv_iload hx hb dX13_join_146 (lv_at hl 1 rfl) ?_
                    refine lv_if_eq (tgt := 157) hx hb dX13_join_148 (by decide) (fun _ => ?_) (fun c_77 => absurd c_77 (by decide))
                    refine lv_aload_n hx hb dX13_join_157 rfl (lv_at hl 3 rfl) ?_
                    refine va_get (D := D) (ci := 13) (v := .ref z6) (C := RX13) (T := TX13) (N := 20) hx hb hg inG13 hown hK hP 0 rfl rfl 6 (by decide) (hg _ wd_719) (fun _ h9 => h9) rfl dX13_join_158 ?_
                    refine lv_iload_n hx hb dX13_join_161 rfl (lv_at hl 6 rfl) ?_
                    obtain ⟨f78, hM78, hf78⟩ := hW.open_47 i6
                    have hi_79 : vp_in k3 40 := (inb k3 40 (by omega) c_14 n_25)
                    refine pg_iald hx hb hK hP i6.1 0 hM78 rfl hi_79 dX13_join_162 ?_
                    have hp_80 := hf78 _ (vp_lt hi_79)
                    obtain ⟨c_81, hc_82, ec_83⟩ := hp_80
                    rw [ec_83]
                    have hPk : PK (k3 : Int32).toNatClampNeg = (nI c_81) := by
                      have h9 := ec_83
                      rw [← (ZP.mv hZP i6 i7 hF (by decide) (by decide)).1, show IFc (M_72 z6) = f78 from by rw [hM78]; rfl]
                      exact h9
                    have hPki : (PK (k3 : Int32).toNatClampNeg).toInt = ((c_81 : Nat) : Int) := by rw [hPk]; exact nI_toInt (by omega)
                    refine lv_iconst (v := 5) hx hb dX13_join_163 (by decide) ?_
                    refine lv_icmp_ne (tgt := 196) hx hb dX13_join_164 (by decide) (fun c_84 => ?_) (fun c_84 => ?_)
                    · have hz := rfl (a := 0)
                      have n_85 : ¬ (c_81 = 5) := fun q => c_84 ((iEQ (a := c_81) (b := 5) (by omega) (by omega)).mpr q)
                      refine lv_aload hx hb dX13_join_196 (lv_at hl 2 rfl) ?_
                      refine pg_getN (D := D) (ci := 12) (v := .int (nI v34)) (C := RX12) (T := TX12) (N := 51) hx hb hg inG12 hown hK hP hb_32.1 hM_74 rfl 10 (by decide) (hN.use (Cond.fieldLinkNest RX13 68 RX12 "tenures" "I" RX13) 19 rfl rfl) (fun _ h9 => h9) hv34 dX13_join_198 ?_
                      refine lv_bipush (v := 24) hx hb dX13_join_201 (by decide) ?_
                      refine lv_icmp_ne (tgt := 213) hx hb dX13_join_203 (by decide) (fun c_86 => ?_) (fun c_86 => ?_)
                      · have hz := rfl (a := 0)
                        have n_87 : ¬ (v34 = 24) := fun q => c_86 ((iEQ (a := v34) (b := 24) (by omega) (by omega)).mpr q)
                        refine lv_aload_n hx hb dX13_join_213 rfl (lv_at hl 3 rfl) ?_
                        refine lv_aload_n hx hb dX13_join_214 rfl (lv_at hl 3 rfl) ?_
                        refine lv_aload hx hb dX13_join_215 (lv_at hl 2 rfl) ?_
                        refine lv_iload_n hx hb dX13_join_217 rfl (lv_at hl 5 rfl) ?_
                        refine lv_iload_n hx hb dX13_join_218 rfl (lv_at hl 6 rfl) ?_
                        refine lv_iload hx hb dX13_join_219 (lv_at hl 7 rfl) ?_
                        refine lv_iload hx hb dX13_join_221 (lv_at hl 8 rfl) ?_
                        obtain ⟨j_88, hj_89, rfl⟩ := i32nat 6 (by decide) c_10 c_11
                        obtain ⟨j_90, hj_91, rfl⟩ := i32nat 40 (by decide) c_14 n_25
                        have hPc : va_P D vwCl ([(za, (b13_0 0 z1 (nI z2) (nI z3) z4 z5 z6 z7 z8 z9 (nI 0) z11 z12 z13 z14 z15 (nI z16) z17 z18 z19))] ++ va_pl L M_72) H_73 := hP
                        have hDc : va_D A ([(za, (b13_0 0 z1 (nI z2) (nI z3) z4 z5 z6 z7 z8 z9 (nI 0) z11 z12 z13 z14 z15 (nI z16) z17 z18 z19))] ++ va_pl L M_72) := hD
                        have hFc : ∀ q, va_A ([(za, (b13_0 0 z1 (nI z2) (nI z3) z4 z5 z6 z7 z8 z9 (nI 0) z11 z12 z13 z14 z15 (nI z16) z17 z18 z19))] ++ va_pl L M_72) H_73.size q → A q := pg_free hDc hS hA
                        refine va_calli (va_runV (As := [.ref b30, .int (nI j_88), .int (nI j_90), .int k4, .int k5]) (rest := [.ref za]) ⟨hx, hb, hml, hown, hg⟩ (z_begins l D cy K L M_72 H_73.size za 0 z1 z2 z3 z4 z5 z6 z7 z8 z9 0 z11 z12 z13 z14 z15 z16 z17 z18 z19 b30 j_88 j_90 k4 k5  hW i1 b2 b3 i6 i7 i8 i9 (by omega) i11 i12 i13 i14 i15 b16 i17 i19 hb_32 (by omega) (by omega) zk5 ⟨_, _, hM_74, hv34, by omega⟩ hV.2.2.2) (cwV 5 hg (gV wd_832 wd_833 wd_834 wd_717 wd_835) rfl rfl rfl (by decide +kernel) ⟨(Nat.le_trans (Nat.le_of_ble_eq_true rfl) hRf), (Nat.le_trans (Nat.le_of_ble_eq_true rfl) hRl)⟩) ⟨PG.blind, va_recv hK hP (ci := 13) (q0 := 0) rfl rfl, fun U hU hW => ⟨rfl, PG.at hPc hK hDc hN hU hW⟩⟩ rfl rfl hl.1 rfl (lv_room (Nat.le_of_ble_eq_true rfl)) dX13_join_223 ⟨(Nat.le_trans (Nat.le_of_ble_eq_true rfl) hRc), (Nat.le_trans (Nat.le_of_ble_eq_true rfl) hRs)⟩) hS (fun q _ h => hFc q h) hFc (fun r_93 M_94 t H_92 locs ht hvm hw hB hz1 hk1 hS => ?_)
                        have hWb := hW
                        obtain ⟨hW, hF2, hG2, hVP, hp_95⟩ := hw
                        obtain ⟨hP1, hD1⟩ := hB
                        rw [ht] at hP1
                        have hP : va_P D vwCl ([(za, (b13_0 0 z1 (nI z2) (nI z3) z4 z5 z6 z7 z8 z9 (nI 0) z11 z12 z13 z14 z15 (nI z16) z17 z18 z19))] ++ va_pl L M_94) H_92 := hP1
                        have hD : va_D A ([(za, (b13_0 0 z1 (nI z2) (nI z3) z4 z5 z6 z7 z8 z9 (nI 0) z11 z12 z13 z14 z15 (nI z16) z17 z18 z19))] ++ va_pl L M_94) := hD1.mono hFc
                        obtain ⟨fs96, hM96, hn96, hl96⟩ := hW.open_12 hb_32
                        have hv_97 : fs96[9]? = some (.ref v44 : Value) := (hG2 _ hb_32 _ _ hM_74 hM96 9 (by decide)).trans hv44
                        have hM_98 : M_94 z6 = .inl (cy 14, 40, .inl (f78)) := (hF2.at i6 (by decide)).trans hM78
                        have hF : fr K L [12, 14, 16, 30, 31, 33, 34, 41, 42, 49, 50, 75, 76] M M_94 := hF.tr hF2 (by decide)
                        have hG : fG K L [10] M M_94 := hG.tr hWb hG2 (by decide)
                        have hfb9 : fx M_72 b30 10 = (fx M b30 10) := congrFun hV.2.1 10
                        obtain ⟨n_99, hn9, hlt9, hV2⟩ := hVP
                        rw [hV.2.1] at hn9
                        rw [hV.2.1, hV.2.2.1] at hV2
                        have hn9 : (fx M b30 10) = (n_99 : Int) := hn9
                        have hV : VW K L M M_94 b30 (va_up (fx M b30) 10 ((n_99 + 1 : Nat) : Int)) (va_up (va_up (va_up (va_up (va_up (va_up (va_up (va_up (va_up (ax M b30) 19 (upd (ax M b30 19) (nI n_99).toNatClampNeg (nI j_90))) 20 (upd (ax M b30 20) (nI n_99).toNatClampNeg (nI j_88))) 21 (upd (ax M b30 21) (nI n_99).toNatClampNeg k4)) 22 (upd (ax M b30 22) (nI n_99).toNatClampNeg (-1))) 23 (upd (ax M b30 23) (nI n_99).toNatClampNeg 0)) 24 (upd (ax M b30 24) (nI n_99).toNatClampNeg 0)) 25 (upd (ax M b30 25) (nI n_99).toNatClampNeg (-1))) 26 (upd (ax M b30 26) (nI n_99).toNatClampNeg k5)) 9 (upd (ax M b30 9) (nI j_88).toNatClampNeg (nI (n_99 + 1)))) := hV.tr hV2
                        obtain ⟨j_100, rfl, c_101, c_102⟩ := hp_95
                        have hPc := hP.sub (ws' := [(za, (b13_0 0 z1 (nI z2) (nI z3) z4 z5 z6 z7 z8 z9 (nI 0) z11 z12 z13 z14 z15 (nI z16) z17 z18 z19))]) [0] rfl
                        have hDc := hD.sub (ws' := [(za, (b13_0 0 z1 (nI z2) (nI z3) z4 z5 z6 z7 z8 z9 (nI 0) z11 z12 z13 z14 z15 (nI z16) z17 z18 z19))]) [0] (by decide) rfl
                        have hKc := hK.sub (tys' := []) [] rfl
                        have hFc := va_free (wc := [(za, (b13_0 0 z1 (nI z2) (nI z3) z4 z5 z6 z7 z8 z9 (nI 0) z11 z12 z13 z14 z15 (nI z16) z17 z18 z19))]) hD hS hA [0] rfl
                        refine va_calli (va_runV (As := [.int (nI j_100)]) (rest := []) ⟨hx, hb, hml, hown, hg⟩ (m_done l D H_92.size za 0 z1 (nI z2) (nI z3) z4 z5 z6 z7 z8 z9 (nI 0) z11 z12 z13 z14 z15 (nI z16) z17 z18 z19 (nI j_100)) (cwV 1 hg (gV wd_730 wd_731 wd_732 wd_717 wd_733) rfl rfl rfl (by decide +kernel) ⟨(Nat.le_trans (Nat.le_of_ble_eq_true rfl) hRf), (Nat.le_trans (Nat.le_of_ble_eq_true rfl) hRl)⟩) ⟨Pr.blind, va_recv hK hP (ci := 13) (q0 := 0) rfl rfl, fun U hU hW => ⟨rfl, Pr.at hPc hKc hDc hN hU hW⟩⟩ rfl rfl hl.1 rfl (lv_room (Nat.le_of_ble_eq_true rfl)) dX13_join_226 ⟨(Nat.le_trans (Nat.le_of_ble_eq_true rfl) hRc), (Nat.le_trans (Nat.le_of_ble_eq_true rfl) hRs)⟩) hS (fun q _ h => hFc q h) hFc (fun r_104 M_105 t H_103 locs ht hvm hw hB hz1 hk1 hS => ?_)
                        have hp_106 := hw
                        obtain ⟨hP1, hK1, hD1⟩ := hB
                        rw [ht] at hP1
                        obtain ⟨hP, hD⟩ := va_joinQ (X := [(za, (b13_0 0 z1 (nI z2) (nI z3) z4 z5 z6 z7 z8 z9 (nI 0) z11 z12 z13 z14 z15 (nI z16) z17 z18 z19))]) (cx := [(za, (b13_0 0 z1 (nI z2) (nI z3) z4 z5 z6 z7 z8 z9 (nI 0) z11 z12 z13 z14 z15 (nI z16) z17 z18 z19))]) (wr := []) (w1 := [(za, (b13_0 0 z1 (nI z2) (nI z3) 0 (-1) z6 z7 z8 z9 (nI 0) z11 z12 z13 z14 z15 (nI z16) z17 z18 z19))]) (pl := va_pl L M_94) hP hD [0] [] rfl rfl (by decide) (by decide) hk1 hFc hP1 hD1
                        have hP : va_P D vwCl ([(za, (b13_0 0 z1 (nI z2) (nI z3) 0 (-1) z6 z7 z8 z9 (nI 0) z11 z12 z13 z14 z15 (nI z16) z17 z18 z19))] ++ va_pl L M_94) H_103 := hP
                        have hD : va_D A ([(za, (b13_0 0 z1 (nI z2) (nI z3) 0 (-1) z6 z7 z8 z9 (nI 0) z11 z12 z13 z14 z15 (nI z16) z17 z18 z19))] ++ va_pl L M_94) := hD
                        have hq := Eq.symm hp_106
                        subst hq
                        have hI_107 : ((v34 : Nat) : Int) ≤ ((v8w67 : Nat) : Int) := ileI (nI_toInt (by omega)) (nI_toInt (by omega)) c_75
                        have hI_108 : ((c_81 : Nat) : Int) ≠ (5 : Int) := ineI (nI_toInt (by omega)) rfl c_84
                        have hI_109 : ((v34 : Nat) : Int) ≠ (24 : Int) := ineI (nI_toInt (by omega)) rfl c_86
                        have hn91 : ((nI j_26) : Int32).toInt = ((j_26 : Nat) : Int) := nI_toInt (by omega)
                        have hn92 : ((nI j_88) : Int32).toInt = ((j_88 : Nat) : Int) := nI_toInt (by omega)
                        have hn93 : ((nI j_90) : Int32).toInt = ((j_90 : Nat) : Int) := nI_toInt (by omega)
                        have hNR : PK ((nI j_90) : Int32).toNatClampNeg = 5 → ¬ RCH (ownS PK PT SX SY) z2 (PT ((nI j_90) : Int32).toNatClampNeg).toNatClampNeg ((nI j_26) : Int32).toNatClampNeg := fun q => by rw [q, show (5 : Int32).toInt = 5 from rfl] at hPki; omega
                        have hPn5 : ¬ PK ((nI j_90) : Int32).toNatClampNeg = 5 := fun q => by rw [q, show (5 : Int32).toInt = 5 from rfl] at hPki; omega
                        have hncr : ¬ okCr z2 z3 PK PT SX SY (nI j_26) (nI j_88) (nI j_90) k4 := fun q9 => by unfold okCr okHS at q9; first | omega | (obtain ⟨⟨_, _, _, _⟩, ⟨_, _⟩, ⟨_, _⟩, _, _, _⟩ := q9; first | omega | contradiction)
                        have hyes : okJo z2 z3 PK PT SX SY (nI j_26) (nI j_88) (nI j_90) k4 := by unfold okJo okHS; refine ⟨⟨?_, ?_, ?_, ?_⟩, ⟨?_, ?_⟩, ⟨?_, ?_⟩, ?_, ?_, ?_⟩ <;> first | omega | assumption
                        have hA9 : HA (ax M b30 2) (ax M b30 3) := hAT.1
                        have hB9 : HB (fx M b30 16) (fx M b30 14) (ax M b30 3) (ax M b30 43) := hAT.2.1
                        have hC9 : HC ((n_99 + 1 : Nat) : Int) (upd (ax M b30 22) (nI n_99).toNatClampNeg (-1)) (upd (ax M b30 23) (nI n_99).toNatClampNeg 0) := HC.beg hAT.2.2.1 hn9 (by omega) (nI_cl (by omega))
                        have hD9 : HD (fx M b30 0) (fx M b30 11) (fx M b30 15) (ax M b30 34) (ax M b30 41) := hAT.2.2.2.1
                        have hE9 : HE (fx M b30 0) (fx M b30 1) (fx M b30 12) (fx M b30 13) (ax M b30 37) := hAT.2.2.2.2
                        have hH9 : HI (va_up (fx M b30) 10 ((n_99 + 1 : Nat) : Int)) (va_up (va_up (va_up (va_up (va_up (va_up (va_up (va_up (va_up (ax M b30) 19 (upd (ax M b30 19) (nI n_99).toNatClampNeg (nI j_90))) 20 (upd (ax M b30 20) (nI n_99).toNatClampNeg (nI j_88))) 21 (upd (ax M b30 21) (nI n_99).toNatClampNeg k4)) 22 (upd (ax M b30 22) (nI n_99).toNatClampNeg (-1))) 23 (upd (ax M b30 23) (nI n_99).toNatClampNeg 0)) 24 (upd (ax M b30 24) (nI n_99).toNatClampNeg 0)) 25 (upd (ax M b30 25) (nI n_99).toNatClampNeg (-1))) 26 (upd (ax M b30 26) (nI n_99).toNatClampNeg k5)) 9 (upd (ax M b30 9) (nI j_88).toNatClampNeg (nI (n_99 + 1)))) := ⟨hA9, hB9, hC9, hD9, hE9⟩
                        have hGI9 : GI K L z1 z2 M_94 := GI.fin hW0 i1 b2 hGI hact hV (hF.at i1 (by decide)) hH9
                        rw [hQ]
                        exact W.iret (v := (nI j_100)) hx hb hr (fun t ht hW9 => ⟨⟨(nI j_100), M_94, rfl, ⟨hW, hF, hG, ⟨hGI9, (by unfold sxJo syJo; rw [if_pos hyes, if_pos hyes]; exact ZSx.fin hW0 i1 b2 hZS hGI.1 hkn hb9 hV (hF.at i1 (by decide)) ((by rw [hZk.1, show ((n_99 + 1 : Nat) : Int) = SX ((nI j_26) : Int32).toNatClampNeg 10 + 1 by omega])) ((by unfold begY; rw [hZk.2, nI_cl (t := n_99) (by omega), show n_99 = (SX ((nI j_26) : Int32).toNatClampNeg 10).toNat by omega])))⟩, (by unfold anJo; rw [if_pos hyes]; exact congrArg nI (by omega))⟩, ⟨0, 0, (by omega), (by unfold ZGC caJo; rw [if_neg hncr]; exact fun i => if_neg (by omega)), by rw [ht]; exact hP, hD⟩⟩, hS.F ht⟩) hS.2.2 dX13_join_229
                      · have hz := rfl (a := 0)
                        have n_110 : v34 = 24 := (iEQ (a := v34) (b := 24) (by omega) (by omega)).mp c_86
                        refine lv_aload_n hx hb dX13_join_206 rfl (lv_at hl 3 rfl) ?_
                        refine lv_bipush (v := 9) hx hb dX13_join_207 (by decide) ?_
                        have hPc := hP.sub (ws' := [(za, (b13_0 0 z1 (nI z2) (nI z3) z4 z5 z6 z7 z8 z9 (nI 0) z11 z12 z13 z14 z15 (nI z16) z17 z18 z19))]) [0] rfl
                        have hDc := hD.sub (ws' := [(za, (b13_0 0 z1 (nI z2) (nI z3) z4 z5 z6 z7 z8 z9 (nI 0) z11 z12 z13 z14 z15 (nI z16) z17 z18 z19))]) [0] (by decide) rfl
                        have hKc := hK.sub (tys' := []) [] rfl
                        have hFc := va_free (wc := [(za, (b13_0 0 z1 (nI z2) (nI z3) z4 z5 z6 z7 z8 z9 (nI 0) z11 z12 z13 z14 z15 (nI z16) z17 z18 z19))]) hD hS hA [0] rfl
                        refine va_calli (va_runV (As := [.int 9]) (rest := []) ⟨hx, hb, hml, hown, hg⟩ (m_refused l D H_73.size za 0 z1 (nI z2) (nI z3) z4 z5 z6 z7 z8 z9 (nI 0) z11 z12 z13 z14 z15 (nI z16) z17 z18 z19 9) (cwV 1 hg (gV wd_725 wd_726 wd_727 wd_717 wd_728) rfl rfl rfl (by decide +kernel) ⟨(Nat.le_trans (Nat.le_of_ble_eq_true rfl) hRf), (Nat.le_trans (Nat.le_of_ble_eq_true rfl) hRl)⟩) ⟨Pr.blind, va_recv hK hP (ci := 13) (q0 := 0) rfl rfl, fun U hU hW => ⟨rfl, Pr.at hPc hKc hDc hN hU hW⟩⟩ rfl rfl hl.1 rfl (lv_room (Nat.le_of_ble_eq_true rfl)) dX13_join_209 ⟨(Nat.le_trans (Nat.le_of_ble_eq_true rfl) hRc), (Nat.le_trans (Nat.le_of_ble_eq_true rfl) hRs)⟩) hS (fun q _ h => hFc q h) hFc (fun r_112 M_113 t H_111 locs ht hvm hw hB hz1 hk1 hS => ?_)
                        have hp_114 := hw
                        obtain ⟨hP1, hK1, hD1⟩ := hB
                        rw [ht] at hP1
                        obtain ⟨hP, hD⟩ := va_joinQ (X := [(za, (b13_0 0 z1 (nI z2) (nI z3) z4 z5 z6 z7 z8 z9 (nI 0) z11 z12 z13 z14 z15 (nI z16) z17 z18 z19))]) (cx := [(za, (b13_0 0 z1 (nI z2) (nI z3) z4 z5 z6 z7 z8 z9 (nI 0) z11 z12 z13 z14 z15 (nI z16) z17 z18 z19))]) (wr := []) (w1 := [(za, (b13_0 0 z1 (nI z2) (nI z3) 9 (-1) z6 z7 z8 z9 (nI 0) z11 z12 z13 z14 z15 (nI z16) z17 z18 z19))]) (pl := va_pl L M_72) hP hD [0] [] rfl rfl (by decide) (by decide) hk1 hFc hP1 hD1
                        have hP : va_P D vwCl ([(za, (b13_0 0 z1 (nI z2) (nI z3) 9 (-1) z6 z7 z8 z9 (nI 0) z11 z12 z13 z14 z15 (nI z16) z17 z18 z19))] ++ va_pl L M_72) H_111 := hP
                        have hD : va_D A ([(za, (b13_0 0 z1 (nI z2) (nI z3) 9 (-1) z6 z7 z8 z9 (nI 0) z11 z12 z13 z14 z15 (nI z16) z17 z18 z19))] ++ va_pl L M_72) := hD
                        have hq := Eq.symm hp_114
                        subst hq
                        have hI_115 : ((v34 : Nat) : Int) ≤ ((v8w67 : Nat) : Int) := ileI (nI_toInt (by omega)) (nI_toInt (by omega)) c_75
                        have hI_116 : ((c_81 : Nat) : Int) ≠ (5 : Int) := ineI (nI_toInt (by omega)) rfl c_84
                        have hI_117 : ((v34 : Nat) : Int) = (24 : Int) := ieqI (nI_toInt (by omega)) rfl c_86
                        have hn91 : ((nI j_26) : Int32).toInt = ((j_26 : Nat) : Int) := nI_toInt (by omega)
                        have hPn5 : ¬ PK (k3 : Int32).toNatClampNeg = 5 := fun q => by rw [q, show (5 : Int32).toInt = 5 from rfl] at hPki; omega
                        have hncr : ¬ okCr z2 z3 PK PT SX SY (nI j_26) k2 k3 k4 := fun q9 => by unfold okCr okHS at q9; first | omega | (obtain ⟨⟨_, _, _, _⟩, ⟨_, _⟩, ⟨_, _⟩, _, _, _⟩ := q9; first | omega | contradiction)
                        have hno : ¬ okJo z2 z3 PK PT SX SY (nI j_26) k2 k3 k4 := fun q9 => by unfold okJo okHS at q9; first | omega | (obtain ⟨⟨_, _, _, _⟩, ⟨_, _⟩, ⟨_, _⟩, _, _, _⟩ := q9; first | omega | contradiction)
                        have hA9 : HA (ax M b30 2) (ax M b30 3) := hAT.1
                        have hB9 : HB (fx M b30 16) (fx M b30 14) (ax M b30 3) (ax M b30 43) := hAT.2.1
                        have hC9 : HC (fx M b30 10) (ax M b30 22) (ax M b30 23) := hAT.2.2.1
                        have hD9 : HD (fx M b30 0) (fx M b30 11) (fx M b30 15) (ax M b30 34) (ax M b30 41) := hAT.2.2.2.1
                        have hE9 : HE (fx M b30 0) (fx M b30 1) (fx M b30 12) (fx M b30 13) (ax M b30 37) := hAT.2.2.2.2
                        have hH9 : HI (fx M b30) (ax M b30) := ⟨hA9, hB9, hC9, hD9, hE9⟩
                        have hGI9 : GI K L z1 z2 M_72 := GI.fin hW0 i1 b2 hGI hact hV (hF.at i1 (by decide)) hH9
                        rw [hQ]
                        exact W.iret (v := (-1)) hx hb hr (fun t ht hW9 => ⟨⟨(-1), M_72, rfl, ⟨hW, hF, hG, ⟨hGI9, (by unfold sxJo syJo; rw [if_neg hno, if_neg hno]; have hQ9 := ZSx.fin hW0 i1 b2 hZS hGI.1 hkn hb9 hV (hF.at i1 (by decide)) hZk.1 hZk.2; rw [va_upJ, va_upJ] at hQ9; exact hQ9)⟩, (by unfold anJo; rw [if_neg hno])⟩, ⟨9, 0, (by omega), (by unfold ZGC caJo; rw [if_neg hncr]; exact fun i => if_neg (by omega)), by rw [ht]; exact hP, hD⟩⟩, hS.F ht⟩) hS.2.2 dX13_join_212
                    · have hz := rfl (a := 0)
                      have n_118 : c_81 = 5 := (iEQ (a := c_81) (b := 5) (by omega) (by omega)).mp c_84
                      refine lv_aload_n hx hb dX13_join_167 rfl (lv_at hl 3 rfl) ?_
                      refine lv_aload_n hx hb dX13_join_168 rfl (lv_at hl 3 rfl) ?_
                      refine lv_iload_n hx hb dX13_join_169 rfl (lv_at hl 4 rfl) ?_
                      refine lv_aload_n hx hb dX13_join_170 rfl (lv_at hl 3 rfl) ?_
                      refine va_get (D := D) (ci := 13) (v := .ref z7) (C := RX13) (T := TX13) (N := 20) hx hb hg inG13 hown hK hP 0 rfl rfl 7 (by decide) (hg _ wd_760) (fun _ h9 => h9) rfl dX13_join_171 ?_
                      refine lv_iload_n hx hb dX13_join_174 rfl (lv_at hl 6 rfl) ?_
                      obtain ⟨f119, hM119⟩ := hW.open_48 i7
                      refine pg_iald hx hb hK hP i7.1 0 hM119 rfl (inb k3 40 (by omega) c_14 n_25) dX13_join_175 ?_
                      refine lv_topi (fun f_120 ef_120 => ?_)
                      have hPt : PT (k3 : Int32).toNatClampNeg = f_120 := by
                        have h9 := ef_120.symm
                        rw [← (ZP.mv hZP i6 i7 hF (by decide) (by decide)).2, show IFc (M_72 z7) = f119 from by rw [hM119]; rfl]
                        exact h9
                      have hP5 : PK (k3 : Int32).toNatClampNeg = 5 := Int32.toInt.inj (by rw [hPki]; show _ = (5 : Int); omega)
                      have hcp3 : ((k3 : Int32).toNatClampNeg : Int) = (k3 : Int32).toInt := clT (by omega)
                      obtain ⟨j9, hj9, ej9⟩ := hR5 (k3 : Int32).toNatClampNeg (by omega) (by rw [hZP.1]; exact hP5)
                      rw [hZP.2, hPt] at ej9
                      have hf8 : 0 ≤ (f_120 : Int32).toInt ∧ (f_120 : Int32).toInt < 8 := by rw [ej9, nI_toInt (by omega)]; omega
                      have hZSw := ZSx.fin hW0 i1 b2 hZS hGI.1 hkn hb9 hV (hF.at i1 (by decide)) hZk.1 hZk.2
                      rw [va_upJ, va_upJ] at hZSw
                      have hZPw := ZP.mv hZP i6 i7 hF (by decide) (by decide)
                      have hWw := hW
                      have hPc : va_P D vwCl ([(za, (b13_0 0 z1 (nI z2) (nI z3) z4 z5 z6 z7 z8 z9 (nI 0) z11 z12 z13 z14 z15 (nI z16) z17 z18 z19))] ++ va_pl L M_72) H_73 := hP
                      have hDc : va_D A ([(za, (b13_0 0 z1 (nI z2) (nI z3) z4 z5 z6 z7 z8 z9 (nI 0) z11 z12 z13 z14 z15 (nI z16) z17 z18 z19))] ++ va_pl L M_72) := hD
                      have hFc : ∀ q, va_A ([(za, (b13_0 0 z1 (nI z2) (nI z3) z4 z5 z6 z7 z8 z9 (nI 0) z11 z12 z13 z14 z15 (nI z16) z17 z18 z19))] ++ va_pl L M_72) H_73.size q → A q := pg_free hDc hS hA
                      refine va_calli (va_runV (As := [.int (nI j_26), .int f_120]) (rest := [.ref za]) ⟨hx, hb, hml, hown, hg⟩ (z_way l D cy K L M_72 H_73.size za 0 z1 z2 z3 z4 z5 z6 z7 z8 z9 0 z11 z12 z13 z14 z15 z16 z17 z18 z19 j_26 f_120  hW i1 b2 b3 i6 i7 i8 i9 (by omega) i11 i12 i13 i14 i15 b16 i17 i19 (by omega) (by omega)) (cwV 2 hg (gV wd_891 wd_892 wd_893 wd_717 wd_894) rfl rfl rfl (by decide +kernel) ⟨(Nat.le_trans (Nat.le_of_ble_eq_true rfl) hRf), (Nat.le_trans (Nat.le_of_ble_eq_true rfl) hRl)⟩) ⟨PG.blind, va_recv hK hP (ci := 13) (q0 := 0) rfl rfl, fun U hU hW => ⟨rfl, PG.at hPc hK hDc hN hU hW⟩⟩ rfl rfl hl.1 rfl (lv_room (Nat.le_of_ble_eq_true rfl)) dX13_join_176 ⟨(Nat.le_trans (Nat.le_of_ble_eq_true rfl) hRc), (Nat.le_trans (Nat.le_of_ble_eq_true rfl) hRs)⟩) hS (fun q _ h => hFc q h) hFc (fun r_122 M_123 t H_121 locs ht hvm hw hB hz1 hk1 hS => ?_)
                      have hWb := hW
                      obtain ⟨hW, hF2, hVP, hp_124⟩ := hw
                      obtain ⟨hP1, hD1⟩ := hB
                      rw [ht] at hP1
                      have hP : va_P D vwCl ([(za, (b13_0 0 z1 (nI z2) (nI z3) z4 z5 z6 z7 z8 z9 (nI 0) z11 z12 z13 z14 z15 (nI z16) z17 z18 z19))] ++ va_pl L M_123) H_121 := hP1
                      have hD : va_D A ([(za, (b13_0 0 z1 (nI z2) (nI z3) z4 z5 z6 z7 z8 z9 (nI 0) z11 z12 z13 z14 z15 (nI z16) z17 z18 z19))] ++ va_pl L M_123) := hD1.mono hFc
                      have hM_125 : M_123 b30 = .inr (12, fs33) := (hF2.at hb_32 (by decide)).trans hM_74
                      have hM_126 : M_123 z6 = .inl (cy 14, 40, .inl (f78)) := (hF2.at i6 (by decide)).trans hM78
                      have hM_127 : M_123 z7 = .inl (cy 14, 40, .inl (f119)) := (hF2.at i7 (by decide)).trans hM119
                      have hF : fr K L [12, 14, 16, 30, 31, 33, 34, 41, 42, 49, 50, 75, 76] M M_123 := hF.tr hF2 (by decide)
                      have hG : fG K L [10] M M_123 := hG.frR hF2 (by decide)
                      have hV : VW K L M M_123 b30 (fx M b30) (ax M b30) := hV.cal hWb hW hF2 ((fG.rf (js := [])).frR hF2 (by decide)) (by decide) (by decide) hb_32
                      obtain ⟨j_128, rfl, c_129, c_130, c_131⟩ := hp_124
                      have hRC : 1 ≤ j_128 ↔ RCH (ownS PK PT SX SY) z2 (PT (k3 : Int32).toNatClampNeg).toNatClampNeg ((nI j_26) : Int32).toNatClampNeg := by rw [hPt, nI_cl (t := j_26) (by omega)]; exact c_130.trans (RCH.cg (fun x y hx hy => owW_S hWw i1 b2 hZSw hZPw (by omega) hy))
                      have hWY := hVP
                      have hcg : cirF (owW M_72 z1 z6 z7) z2 (f_120 : Int32).toNatClampNeg j_26 = cirF (ownS PK PT SX SY) z2 (PT (k3 : Int32).toNatClampNeg).toNatClampNeg ((nI j_26) : Int32).toNatClampNeg := by rw [hPt, nI_cl (t := j_26) (by omega)]; exact cirCg (fun x y hx hy => owW_S hWw i1 b2 hZSw hZPw (by omega) hy)
                      refine va_put (D := D) (ci := 13) (v := .int (nI j_128)) (ty := .int) (C := RX13) (T := TX13) (N := 20) hx hb hg inG13 tyX13 tyX13_ok nmX13 hown hK hP hD hS 0 rfl rfl 10 (by decide) (hg _ wd_723) (fun _ h9 => h9) rfl (by decide +kernel) rfl rfl (Nat.le_of_ble_eq_true rfl) dX13_join_179 (fun H_132 locs hP hD hS => ?_)
                      have hP : va_P D vwCl ([(za, (b13_0 0 z1 (nI z2) (nI z3) z4 z5 z6 z7 z8 z9 (nI j_128) z11 z12 z13 z14 z15 (nI z16) z17 z18 z19))] ++ va_pl L M_123) H_132 := hP
                      have hD : va_D A ([(za, (b13_0 0 z1 (nI z2) (nI z3) z4 z5 z6 z7 z8 z9 (nI j_128) z11 z12 z13 z14 z15 (nI z16) z17 z18 z19))] ++ va_pl L M_123) := hD
                      refine lv_aload_n hx hb dX13_join_182 rfl (lv_at hl 3 rfl) ?_
                      refine va_get (D := D) (ci := 13) (v := .int (nI j_128)) (C := RX13) (T := TX13) (N := 20) hx hb hg inG13 hown hK hP 0 rfl rfl 10 (by decide) (hg _ wd_723) (fun _ h9 => h9) rfl dX13_join_183 ?_
                      refine lv_if_le (tgt := 196) hx hb dX13_join_186 (by decide) (fun c_133 => ?_) (fun c_133 => ?_)
                      · have hz := rfl (a := 0)
                        have n_134 : j_128 ≤ 0 := (iLE (a := j_128) (b := 0) (by omega) (by omega)).mp c_133
                        refine lv_aload hx hb dX13_join_196 (lv_at hl 2 rfl) ?_
                        refine pg_getN (D := D) (ci := 12) (v := .int (nI v34)) (C := RX12) (T := TX12) (N := 51) hx hb hg inG12 hown hK hP hb_32.1 hM_125 rfl 10 (by decide) (hN.use (Cond.fieldLinkNest RX13 68 RX12 "tenures" "I" RX13) 19 rfl rfl) (fun _ h9 => h9) hv34 dX13_join_198 ?_
                        refine lv_bipush (v := 24) hx hb dX13_join_201 (by decide) ?_
                        refine lv_icmp_ne (tgt := 213) hx hb dX13_join_203 (by decide) (fun c_135 => ?_) (fun c_135 => ?_)
                        · have hz := rfl (a := 0)
                          have n_136 : ¬ (v34 = 24) := fun q => c_135 ((iEQ (a := v34) (b := 24) (by omega) (by omega)).mpr q)
                          refine lv_aload_n hx hb dX13_join_213 rfl (lv_at hl 3 rfl) ?_
                          refine lv_aload_n hx hb dX13_join_214 rfl (lv_at hl 3 rfl) ?_
                          refine lv_aload hx hb dX13_join_215 (lv_at hl 2 rfl) ?_
                          refine lv_iload_n hx hb dX13_join_217 rfl (lv_at hl 5 rfl) ?_
                          refine lv_iload_n hx hb dX13_join_218 rfl (lv_at hl 6 rfl) ?_
                          refine lv_iload hx hb dX13_join_219 (lv_at hl 7 rfl) ?_
                          refine lv_iload hx hb dX13_join_221 (lv_at hl 8 rfl) ?_
                          obtain ⟨j_137, hj_138, rfl⟩ := i32nat 6 (by decide) c_10 c_11
                          obtain ⟨j_139, hj_140, rfl⟩ := i32nat 40 (by decide) c_14 n_25
                          have hPc : va_P D vwCl ([(za, (b13_0 0 z1 (nI z2) (nI z3) z4 z5 z6 z7 z8 z9 (nI j_128) z11 z12 z13 z14 z15 (nI z16) z17 z18 z19))] ++ va_pl L M_123) H_132 := hP
                          have hDc : va_D A ([(za, (b13_0 0 z1 (nI z2) (nI z3) z4 z5 z6 z7 z8 z9 (nI j_128) z11 z12 z13 z14 z15 (nI z16) z17 z18 z19))] ++ va_pl L M_123) := hD
                          have hFc : ∀ q, va_A ([(za, (b13_0 0 z1 (nI z2) (nI z3) z4 z5 z6 z7 z8 z9 (nI j_128) z11 z12 z13 z14 z15 (nI z16) z17 z18 z19))] ++ va_pl L M_123) H_132.size q → A q := pg_free hDc hS hA
                          refine va_calli (va_runV (As := [.ref b30, .int (nI j_137), .int (nI j_139), .int k4, .int k5]) (rest := [.ref za]) ⟨hx, hb, hml, hown, hg⟩ (z_begins l D cy K L M_123 H_132.size za 0 z1 z2 z3 z4 z5 z6 z7 z8 z9 j_128 z11 z12 z13 z14 z15 z16 z17 z18 z19 b30 j_137 j_139 k4 k5  hW i1 b2 b3 i6 i7 i8 i9 c_129 i11 i12 i13 i14 i15 b16 i17 i19 hb_32 (by omega) (by omega) zk5 ⟨_, _, hM_125, hv34, by omega⟩ hV.2.2.2) (cwV 5 hg (gV wd_832 wd_833 wd_834 wd_717 wd_835) rfl rfl rfl (by decide +kernel) ⟨(Nat.le_trans (Nat.le_of_ble_eq_true rfl) hRf), (Nat.le_trans (Nat.le_of_ble_eq_true rfl) hRl)⟩) ⟨PG.blind, va_recv hK hP (ci := 13) (q0 := 0) rfl rfl, fun U hU hW => ⟨rfl, PG.at hPc hK hDc hN hU hW⟩⟩ rfl rfl hl.1 rfl (lv_room (Nat.le_of_ble_eq_true rfl)) dX13_join_223 ⟨(Nat.le_trans (Nat.le_of_ble_eq_true rfl) hRc), (Nat.le_trans (Nat.le_of_ble_eq_true rfl) hRs)⟩) hS (fun q _ h => hFc q h) hFc (fun r_142 M_143 t H_141 locs ht hvm hw hB hz1 hk1 hS => ?_)
                          have hWb := hW
                          obtain ⟨hW, hF2, hG2, hVP, hp_144⟩ := hw
                          obtain ⟨hP1, hD1⟩ := hB
                          rw [ht] at hP1
                          have hP : va_P D vwCl ([(za, (b13_0 0 z1 (nI z2) (nI z3) z4 z5 z6 z7 z8 z9 (nI j_128) z11 z12 z13 z14 z15 (nI z16) z17 z18 z19))] ++ va_pl L M_143) H_141 := hP1
                          have hD : va_D A ([(za, (b13_0 0 z1 (nI z2) (nI z3) z4 z5 z6 z7 z8 z9 (nI j_128) z11 z12 z13 z14 z15 (nI z16) z17 z18 z19))] ++ va_pl L M_143) := hD1.mono hFc
                          obtain ⟨fs145, hM145, hn145, hl145⟩ := hW.open_12 hb_32
                          have hv_146 : fs145[9]? = some (.ref v44 : Value) := (hG2 _ hb_32 _ _ hM_125 hM145 9 (by decide)).trans hv44
                          have hM_147 : M_143 z6 = .inl (cy 14, 40, .inl (f78)) := (hF2.at i6 (by decide)).trans hM_126
                          have hM_148 : M_143 z7 = .inl (cy 14, 40, .inl (f119)) := (hF2.at i7 (by decide)).trans hM_127
                          have hF : fr K L [12, 14, 16, 30, 31, 33, 34, 41, 42, 49, 50, 75, 76] M M_143 := hF.tr hF2 (by decide)
                          have hG : fG K L [10] M M_143 := hG.tr hWb hG2 (by decide)
                          have hfb9 : fx M_123 b30 10 = (fx M b30 10) := congrFun hV.2.1 10
                          obtain ⟨n_149, hn9, hlt9, hV2⟩ := hVP
                          rw [hV.2.1] at hn9
                          rw [hV.2.1, hV.2.2.1] at hV2
                          have hn9 : (fx M b30 10) = (n_149 : Int) := hn9
                          have hV : VW K L M M_143 b30 (va_up (fx M b30) 10 ((n_149 + 1 : Nat) : Int)) (va_up (va_up (va_up (va_up (va_up (va_up (va_up (va_up (va_up (ax M b30) 19 (upd (ax M b30 19) (nI n_149).toNatClampNeg (nI j_139))) 20 (upd (ax M b30 20) (nI n_149).toNatClampNeg (nI j_137))) 21 (upd (ax M b30 21) (nI n_149).toNatClampNeg k4)) 22 (upd (ax M b30 22) (nI n_149).toNatClampNeg (-1))) 23 (upd (ax M b30 23) (nI n_149).toNatClampNeg 0)) 24 (upd (ax M b30 24) (nI n_149).toNatClampNeg 0)) 25 (upd (ax M b30 25) (nI n_149).toNatClampNeg (-1))) 26 (upd (ax M b30 26) (nI n_149).toNatClampNeg k5)) 9 (upd (ax M b30 9) (nI j_137).toNatClampNeg (nI (n_149 + 1)))) := hV.tr hV2
                          obtain ⟨j_150, rfl, c_151, c_152⟩ := hp_144
                          have hPc := hP.sub (ws' := [(za, (b13_0 0 z1 (nI z2) (nI z3) z4 z5 z6 z7 z8 z9 (nI j_128) z11 z12 z13 z14 z15 (nI z16) z17 z18 z19))]) [0] rfl
                          have hDc := hD.sub (ws' := [(za, (b13_0 0 z1 (nI z2) (nI z3) z4 z5 z6 z7 z8 z9 (nI j_128) z11 z12 z13 z14 z15 (nI z16) z17 z18 z19))]) [0] (by decide) rfl
                          have hKc := hK.sub (tys' := []) [] rfl
                          have hFc := va_free (wc := [(za, (b13_0 0 z1 (nI z2) (nI z3) z4 z5 z6 z7 z8 z9 (nI j_128) z11 z12 z13 z14 z15 (nI z16) z17 z18 z19))]) hD hS hA [0] rfl
                          refine va_calli (va_runV (As := [.int (nI j_150)]) (rest := []) ⟨hx, hb, hml, hown, hg⟩ (m_done l D H_141.size za 0 z1 (nI z2) (nI z3) z4 z5 z6 z7 z8 z9 (nI j_128) z11 z12 z13 z14 z15 (nI z16) z17 z18 z19 (nI j_150)) (cwV 1 hg (gV wd_730 wd_731 wd_732 wd_717 wd_733) rfl rfl rfl (by decide +kernel) ⟨(Nat.le_trans (Nat.le_of_ble_eq_true rfl) hRf), (Nat.le_trans (Nat.le_of_ble_eq_true rfl) hRl)⟩) ⟨Pr.blind, va_recv hK hP (ci := 13) (q0 := 0) rfl rfl, fun U hU hW => ⟨rfl, Pr.at hPc hKc hDc hN hU hW⟩⟩ rfl rfl hl.1 rfl (lv_room (Nat.le_of_ble_eq_true rfl)) dX13_join_226 ⟨(Nat.le_trans (Nat.le_of_ble_eq_true rfl) hRc), (Nat.le_trans (Nat.le_of_ble_eq_true rfl) hRs)⟩) hS (fun q _ h => hFc q h) hFc (fun r_154 M_155 t H_153 locs ht hvm hw hB hz1 hk1 hS => ?_)
                          have hp_156 := hw
                          obtain ⟨hP1, hK1, hD1⟩ := hB
                          rw [ht] at hP1
                          obtain ⟨hP, hD⟩ := va_joinQ (X := [(za, (b13_0 0 z1 (nI z2) (nI z3) z4 z5 z6 z7 z8 z9 (nI j_128) z11 z12 z13 z14 z15 (nI z16) z17 z18 z19))]) (cx := [(za, (b13_0 0 z1 (nI z2) (nI z3) z4 z5 z6 z7 z8 z9 (nI j_128) z11 z12 z13 z14 z15 (nI z16) z17 z18 z19))]) (wr := []) (w1 := [(za, (b13_0 0 z1 (nI z2) (nI z3) 0 (-1) z6 z7 z8 z9 (nI j_128) z11 z12 z13 z14 z15 (nI z16) z17 z18 z19))]) (pl := va_pl L M_143) hP hD [0] [] rfl rfl (by decide) (by decide) hk1 hFc hP1 hD1
                          have hP : va_P D vwCl ([(za, (b13_0 0 z1 (nI z2) (nI z3) 0 (-1) z6 z7 z8 z9 (nI j_128) z11 z12 z13 z14 z15 (nI z16) z17 z18 z19))] ++ va_pl L M_143) H_153 := hP
                          have hD : va_D A ([(za, (b13_0 0 z1 (nI z2) (nI z3) 0 (-1) z6 z7 z8 z9 (nI j_128) z11 z12 z13 z14 z15 (nI z16) z17 z18 z19))] ++ va_pl L M_143) := hD
                          have hq := Eq.symm hp_156
                          subst hq
                          have hI_157 : ((v34 : Nat) : Int) ≤ ((v8w67 : Nat) : Int) := ileI (nI_toInt (by omega)) (nI_toInt (by omega)) c_75
                          have hI_158 : ((c_81 : Nat) : Int) = (5 : Int) := ieqI (nI_toInt (by omega)) rfl c_84
                          have hI_159 : ((j_128 : Nat) : Int) ≤ (0 : Int) := ileI (nI_toInt (by omega)) rfl c_133
                          have hI_160 : ((v34 : Nat) : Int) ≠ (24 : Int) := ineI (nI_toInt (by omega)) rfl c_135
                          have hn91 : ((nI j_26) : Int32).toInt = ((j_26 : Nat) : Int) := nI_toInt (by omega)
                          have hn92 : ((nI j_137) : Int32).toInt = ((j_137 : Nat) : Int) := nI_toInt (by omega)
                          have hn93 : ((nI j_139) : Int32).toInt = ((j_139 : Nat) : Int) := nI_toInt (by omega)
                          have hRCn : j_128 = 0 → ¬ RCH (ownS PK PT SX SY) z2 (PT ((nI j_139) : Int32).toNatClampNeg).toNatClampNeg ((nI j_26) : Int32).toNatClampNeg := fun q q2 => by have := hRC.mpr q2; omega
                          have hNR : PK ((nI j_139) : Int32).toNatClampNeg = 5 → ¬ RCH (ownS PK PT SX SY) z2 (PT ((nI j_139) : Int32).toNatClampNeg).toNatClampNeg ((nI j_26) : Int32).toNatClampNeg := fun _ => hRCn (by omega)
                          have hNRr := hRCn (by omega)
                          have hncr : ¬ okCr z2 z3 PK PT SX SY (nI j_26) (nI j_137) (nI j_139) k4 := fun q9 => by unfold okCr okHS at q9; first | omega | (obtain ⟨⟨_, _, _, _⟩, ⟨_, _⟩, ⟨_, _⟩, _, _, _⟩ := q9; first | omega | contradiction)
                          have hyes : okJo z2 z3 PK PT SX SY (nI j_26) (nI j_137) (nI j_139) k4 := by unfold okJo okHS; refine ⟨⟨?_, ?_, ?_, ?_⟩, ⟨?_, ?_⟩, ⟨?_, ?_⟩, ?_, ?_, ?_⟩ <;> first | omega | assumption
                          have hA9 : HA (ax M b30 2) (ax M b30 3) := hAT.1
                          have hB9 : HB (fx M b30 16) (fx M b30 14) (ax M b30 3) (ax M b30 43) := hAT.2.1
                          have hC9 : HC ((n_149 + 1 : Nat) : Int) (upd (ax M b30 22) (nI n_149).toNatClampNeg (-1)) (upd (ax M b30 23) (nI n_149).toNatClampNeg 0) := HC.beg hAT.2.2.1 hn9 (by omega) (nI_cl (by omega))
                          have hD9 : HD (fx M b30 0) (fx M b30 11) (fx M b30 15) (ax M b30 34) (ax M b30 41) := hAT.2.2.2.1
                          have hE9 : HE (fx M b30 0) (fx M b30 1) (fx M b30 12) (fx M b30 13) (ax M b30 37) := hAT.2.2.2.2
                          have hH9 : HI (va_up (fx M b30) 10 ((n_149 + 1 : Nat) : Int)) (va_up (va_up (va_up (va_up (va_up (va_up (va_up (va_up (va_up (ax M b30) 19 (upd (ax M b30 19) (nI n_149).toNatClampNeg (nI j_139))) 20 (upd (ax M b30 20) (nI n_149).toNatClampNeg (nI j_137))) 21 (upd (ax M b30 21) (nI n_149).toNatClampNeg k4)) 22 (upd (ax M b30 22) (nI n_149).toNatClampNeg (-1))) 23 (upd (ax M b30 23) (nI n_149).toNatClampNeg 0)) 24 (upd (ax M b30 24) (nI n_149).toNatClampNeg 0)) 25 (upd (ax M b30 25) (nI n_149).toNatClampNeg (-1))) 26 (upd (ax M b30 26) (nI n_149).toNatClampNeg k5)) 9 (upd (ax M b30 9) (nI j_137).toNatClampNeg (nI (n_149 + 1)))) := ⟨hA9, hB9, hC9, hD9, hE9⟩
                          have hGI9 : GI K L z1 z2 M_143 := GI.fin hW0 i1 b2 hGI hact hV (hF.at i1 (by decide)) hH9
                          rw [hQ]
                          exact W.iret (v := (nI j_150)) hx hb hr (fun t ht hW9 => ⟨⟨(nI j_150), M_143, rfl, ⟨hW, hF, hG, ⟨hGI9, (by unfold sxJo syJo; rw [if_pos hyes, if_pos hyes]; exact ZSx.fin hW0 i1 b2 hZS hGI.1 hkn hb9 hV (hF.at i1 (by decide)) ((by rw [hZk.1, show ((n_149 + 1 : Nat) : Int) = SX ((nI j_26) : Int32).toNatClampNeg 10 + 1 by omega])) ((by unfold begY; rw [hZk.2, nI_cl (t := n_149) (by omega), show n_149 = (SX ((nI j_26) : Int32).toNatClampNeg 10).toNat by omega])))⟩, (by unfold anJo; rw [if_pos hyes]; exact congrArg nI (by omega))⟩, ⟨0, j_128, (by omega), (by unfold ZGC caJo; rw [if_neg hncr]; exact fun i => if_neg (by omega)), by rw [ht]; exact hP, hD⟩⟩, hS.F ht⟩) hS.2.2 dX13_join_229
                        · have hz := rfl (a := 0)
                          have n_161 : v34 = 24 := (iEQ (a := v34) (b := 24) (by omega) (by omega)).mp c_135
                          refine lv_aload_n hx hb dX13_join_206 rfl (lv_at hl 3 rfl) ?_
                          refine lv_bipush (v := 9) hx hb dX13_join_207 (by decide) ?_
                          have hPc := hP.sub (ws' := [(za, (b13_0 0 z1 (nI z2) (nI z3) z4 z5 z6 z7 z8 z9 (nI j_128) z11 z12 z13 z14 z15 (nI z16) z17 z18 z19))]) [0] rfl
                          have hDc := hD.sub (ws' := [(za, (b13_0 0 z1 (nI z2) (nI z3) z4 z5 z6 z7 z8 z9 (nI j_128) z11 z12 z13 z14 z15 (nI z16) z17 z18 z19))]) [0] (by decide) rfl
                          have hKc := hK.sub (tys' := []) [] rfl
                          have hFc := va_free (wc := [(za, (b13_0 0 z1 (nI z2) (nI z3) z4 z5 z6 z7 z8 z9 (nI j_128) z11 z12 z13 z14 z15 (nI z16) z17 z18 z19))]) hD hS hA [0] rfl
                          refine va_calli (va_runV (As := [.int 9]) (rest := []) ⟨hx, hb, hml, hown, hg⟩ (m_refused l D H_132.size za 0 z1 (nI z2) (nI z3) z4 z5 z6 z7 z8 z9 (nI j_128) z11 z12 z13 z14 z15 (nI z16) z17 z18 z19 9) (cwV 1 hg (gV wd_725 wd_726 wd_727 wd_717 wd_728) rfl rfl rfl (by decide +kernel) ⟨(Nat.le_trans (Nat.le_of_ble_eq_true rfl) hRf), (Nat.le_trans (Nat.le_of_ble_eq_true rfl) hRl)⟩) ⟨Pr.blind, va_recv hK hP (ci := 13) (q0 := 0) rfl rfl, fun U hU hW => ⟨rfl, Pr.at hPc hKc hDc hN hU hW⟩⟩ rfl rfl hl.1 rfl (lv_room (Nat.le_of_ble_eq_true rfl)) dX13_join_209 ⟨(Nat.le_trans (Nat.le_of_ble_eq_true rfl) hRc), (Nat.le_trans (Nat.le_of_ble_eq_true rfl) hRs)⟩) hS (fun q _ h => hFc q h) hFc (fun r_163 M_164 t H_162 locs ht hvm hw hB hz1 hk1 hS => ?_)
                          have hp_165 := hw
                          obtain ⟨hP1, hK1, hD1⟩ := hB
                          rw [ht] at hP1
                          obtain ⟨hP, hD⟩ := va_joinQ (X := [(za, (b13_0 0 z1 (nI z2) (nI z3) z4 z5 z6 z7 z8 z9 (nI j_128) z11 z12 z13 z14 z15 (nI z16) z17 z18 z19))]) (cx := [(za, (b13_0 0 z1 (nI z2) (nI z3) z4 z5 z6 z7 z8 z9 (nI j_128) z11 z12 z13 z14 z15 (nI z16) z17 z18 z19))]) (wr := []) (w1 := [(za, (b13_0 0 z1 (nI z2) (nI z3) 9 (-1) z6 z7 z8 z9 (nI j_128) z11 z12 z13 z14 z15 (nI z16) z17 z18 z19))]) (pl := va_pl L M_123) hP hD [0] [] rfl rfl (by decide) (by decide) hk1 hFc hP1 hD1
                          have hP : va_P D vwCl ([(za, (b13_0 0 z1 (nI z2) (nI z3) 9 (-1) z6 z7 z8 z9 (nI j_128) z11 z12 z13 z14 z15 (nI z16) z17 z18 z19))] ++ va_pl L M_123) H_162 := hP
                          have hD : va_D A ([(za, (b13_0 0 z1 (nI z2) (nI z3) 9 (-1) z6 z7 z8 z9 (nI j_128) z11 z12 z13 z14 z15 (nI z16) z17 z18 z19))] ++ va_pl L M_123) := hD
                          have hq := Eq.symm hp_165
                          subst hq
                          have hI_166 : ((v34 : Nat) : Int) ≤ ((v8w67 : Nat) : Int) := ileI (nI_toInt (by omega)) (nI_toInt (by omega)) c_75
                          have hI_167 : ((c_81 : Nat) : Int) = (5 : Int) := ieqI (nI_toInt (by omega)) rfl c_84
                          have hI_168 : ((j_128 : Nat) : Int) ≤ (0 : Int) := ileI (nI_toInt (by omega)) rfl c_133
                          have hI_169 : ((v34 : Nat) : Int) = (24 : Int) := ieqI (nI_toInt (by omega)) rfl c_135
                          have hn91 : ((nI j_26) : Int32).toInt = ((j_26 : Nat) : Int) := nI_toInt (by omega)
                          have hRCn : j_128 = 0 → ¬ RCH (ownS PK PT SX SY) z2 (PT (k3 : Int32).toNatClampNeg).toNatClampNeg ((nI j_26) : Int32).toNatClampNeg := fun q q2 => by have := hRC.mpr q2; omega
                          have hNR : PK (k3 : Int32).toNatClampNeg = 5 → ¬ RCH (ownS PK PT SX SY) z2 (PT (k3 : Int32).toNatClampNeg).toNatClampNeg ((nI j_26) : Int32).toNatClampNeg := fun _ => hRCn (by omega)
                          have hNRr := hRCn (by omega)
                          have hncr : ¬ okCr z2 z3 PK PT SX SY (nI j_26) k2 k3 k4 := fun q9 => by unfold okCr okHS at q9; first | omega | (obtain ⟨⟨_, _, _, _⟩, ⟨_, _⟩, ⟨_, _⟩, _, _, _⟩ := q9; first | omega | contradiction)
                          have hno : ¬ okJo z2 z3 PK PT SX SY (nI j_26) k2 k3 k4 := fun q9 => by unfold okJo okHS at q9; first | omega | (obtain ⟨⟨_, _, _, _⟩, ⟨_, _⟩, ⟨_, _⟩, _, _, _⟩ := q9; first | omega | contradiction)
                          have hA9 : HA (ax M b30 2) (ax M b30 3) := hAT.1
                          have hB9 : HB (fx M b30 16) (fx M b30 14) (ax M b30 3) (ax M b30 43) := hAT.2.1
                          have hC9 : HC (fx M b30 10) (ax M b30 22) (ax M b30 23) := hAT.2.2.1
                          have hD9 : HD (fx M b30 0) (fx M b30 11) (fx M b30 15) (ax M b30 34) (ax M b30 41) := hAT.2.2.2.1
                          have hE9 : HE (fx M b30 0) (fx M b30 1) (fx M b30 12) (fx M b30 13) (ax M b30 37) := hAT.2.2.2.2
                          have hH9 : HI (fx M b30) (ax M b30) := ⟨hA9, hB9, hC9, hD9, hE9⟩
                          have hGI9 : GI K L z1 z2 M_123 := GI.fin hW0 i1 b2 hGI hact hV (hF.at i1 (by decide)) hH9
                          rw [hQ]
                          exact W.iret (v := (-1)) hx hb hr (fun t ht hW9 => ⟨⟨(-1), M_123, rfl, ⟨hW, hF, hG, ⟨hGI9, (by unfold sxJo syJo; rw [if_neg hno, if_neg hno]; have hQ9 := ZSx.fin hW0 i1 b2 hZS hGI.1 hkn hb9 hV (hF.at i1 (by decide)) hZk.1 hZk.2; rw [va_upJ, va_upJ] at hQ9; exact hQ9)⟩, (by unfold anJo; rw [if_neg hno])⟩, ⟨9, j_128, (by omega), (by unfold ZGC caJo; rw [if_neg hncr]; exact fun i => if_neg (by omega)), by rw [ht]; exact hP, hD⟩⟩, hS.F ht⟩) hS.2.2 dX13_join_212
                      · have hz := rfl (a := 0)
                        have n_170 : ¬ (j_128 ≤ 0) := fun q => c_133 ((iLE (a := j_128) (b := 0) (by omega) (by omega)).mpr q)
                        refine lv_aload_n hx hb dX13_join_189 rfl (lv_at hl 3 rfl) ?_
                        refine lv_bipush (v := 8) hx hb dX13_join_190 (by decide) ?_
                        have hPc := hP.sub (ws' := [(za, (b13_0 0 z1 (nI z2) (nI z3) z4 z5 z6 z7 z8 z9 (nI j_128) z11 z12 z13 z14 z15 (nI z16) z17 z18 z19))]) [0] rfl
                        have hDc := hD.sub (ws' := [(za, (b13_0 0 z1 (nI z2) (nI z3) z4 z5 z6 z7 z8 z9 (nI j_128) z11 z12 z13 z14 z15 (nI z16) z17 z18 z19))]) [0] (by decide) rfl
                        have hKc := hK.sub (tys' := []) [] rfl
                        have hFc := va_free (wc := [(za, (b13_0 0 z1 (nI z2) (nI z3) z4 z5 z6 z7 z8 z9 (nI j_128) z11 z12 z13 z14 z15 (nI z16) z17 z18 z19))]) hD hS hA [0] rfl
                        refine va_calli (va_runV (As := [.int 8]) (rest := []) ⟨hx, hb, hml, hown, hg⟩ (m_refused l D H_132.size za 0 z1 (nI z2) (nI z3) z4 z5 z6 z7 z8 z9 (nI j_128) z11 z12 z13 z14 z15 (nI z16) z17 z18 z19 8) (cwV 1 hg (gV wd_725 wd_726 wd_727 wd_717 wd_728) rfl rfl rfl (by decide +kernel) ⟨(Nat.le_trans (Nat.le_of_ble_eq_true rfl) hRf), (Nat.le_trans (Nat.le_of_ble_eq_true rfl) hRl)⟩) ⟨Pr.blind, va_recv hK hP (ci := 13) (q0 := 0) rfl rfl, fun U hU hW => ⟨rfl, Pr.at hPc hKc hDc hN hU hW⟩⟩ rfl rfl hl.1 rfl (lv_room (Nat.le_of_ble_eq_true rfl)) dX13_join_192 ⟨(Nat.le_trans (Nat.le_of_ble_eq_true rfl) hRc), (Nat.le_trans (Nat.le_of_ble_eq_true rfl) hRs)⟩) hS (fun q _ h => hFc q h) hFc (fun r_172 M_173 t H_171 locs ht hvm hw hB hz1 hk1 hS => ?_)
                        have hp_174 := hw
                        obtain ⟨hP1, hK1, hD1⟩ := hB
                        rw [ht] at hP1
                        obtain ⟨hP, hD⟩ := va_joinQ (X := [(za, (b13_0 0 z1 (nI z2) (nI z3) z4 z5 z6 z7 z8 z9 (nI j_128) z11 z12 z13 z14 z15 (nI z16) z17 z18 z19))]) (cx := [(za, (b13_0 0 z1 (nI z2) (nI z3) z4 z5 z6 z7 z8 z9 (nI j_128) z11 z12 z13 z14 z15 (nI z16) z17 z18 z19))]) (wr := []) (w1 := [(za, (b13_0 0 z1 (nI z2) (nI z3) 8 (-1) z6 z7 z8 z9 (nI j_128) z11 z12 z13 z14 z15 (nI z16) z17 z18 z19))]) (pl := va_pl L M_123) hP hD [0] [] rfl rfl (by decide) (by decide) hk1 hFc hP1 hD1
                        have hP : va_P D vwCl ([(za, (b13_0 0 z1 (nI z2) (nI z3) 8 (-1) z6 z7 z8 z9 (nI j_128) z11 z12 z13 z14 z15 (nI z16) z17 z18 z19))] ++ va_pl L M_123) H_171 := hP
                        have hD : va_D A ([(za, (b13_0 0 z1 (nI z2) (nI z3) 8 (-1) z6 z7 z8 z9 (nI j_128) z11 z12 z13 z14 z15 (nI z16) z17 z18 z19))] ++ va_pl L M_123) := hD
                        have hq := Eq.symm hp_174
                        subst hq
                        have hI_175 : ((v34 : Nat) : Int) ≤ ((v8w67 : Nat) : Int) := ileI (nI_toInt (by omega)) (nI_toInt (by omega)) c_75
                        have hI_176 : ((c_81 : Nat) : Int) = (5 : Int) := ieqI (nI_toInt (by omega)) rfl c_84
                        have hI_177 : (0 : Int) < ((j_128 : Nat) : Int) := inleI (nI_toInt (by omega)) rfl c_133
                        have hn91 : ((nI j_26) : Int32).toInt = ((j_26 : Nat) : Int) := nI_toInt (by omega)
                        have hRCn : j_128 = 0 → ¬ RCH (ownS PK PT SX SY) z2 (PT (k3 : Int32).toNatClampNeg).toNatClampNeg ((nI j_26) : Int32).toNatClampNeg := fun q q2 => by have := hRC.mpr q2; omega
                        have hRY := hRC.mp (by omega)
                        have hRCx : ¬ (PK (k3 : Int32).toNatClampNeg = 5 → ¬ RCH (ownS PK PT SX SY) z2 (PT (k3 : Int32).toNatClampNeg).toNatClampNeg ((nI j_26) : Int32).toNatClampNeg) := fun q => q hP5 hRY
                        have hcr : okCr z2 z3 PK PT SX SY (nI j_26) k2 k3 k4 := by unfold okCr okHS; refine ⟨⟨?_, ?_, ?_, ?_⟩, ⟨?_, ?_⟩, ⟨?_, ?_⟩, ?_, ?_, ?_⟩ <;> first | omega | assumption
                        have hno : ¬ okJo z2 z3 PK PT SX SY (nI j_26) k2 k3 k4 := fun q9 => by unfold okJo okHS at q9; first | omega | (obtain ⟨⟨_, _, _, _⟩, ⟨_, _⟩, ⟨_, _⟩, _, _, _⟩ := q9; first | omega | contradiction)
                        have hjd := c_131 (by omega)
                        have hA9 : HA (ax M b30 2) (ax M b30 3) := hAT.1
                        have hB9 : HB (fx M b30 16) (fx M b30 14) (ax M b30 3) (ax M b30 43) := hAT.2.1
                        have hC9 : HC (fx M b30 10) (ax M b30 22) (ax M b30 23) := hAT.2.2.1
                        have hD9 : HD (fx M b30 0) (fx M b30 11) (fx M b30 15) (ax M b30 34) (ax M b30 41) := hAT.2.2.2.1
                        have hE9 : HE (fx M b30 0) (fx M b30 1) (fx M b30 12) (fx M b30 13) (ax M b30 37) := hAT.2.2.2.2
                        have hH9 : HI (fx M b30) (ax M b30) := ⟨hA9, hB9, hC9, hD9, hE9⟩
                        have hGI9 : GI K L z1 z2 M_123 := GI.fin hW0 i1 b2 hGI hact hV (hF.at i1 (by decide)) hH9
                        rw [hQ]
                        exact W.iret (v := (-1)) hx hb hr (fun t ht hW9 => ⟨⟨(-1), M_123, rfl, ⟨hW, hF, hG, ⟨hGI9, (by unfold sxJo syJo; rw [if_neg hno, if_neg hno]; have hQ9 := ZSx.fin hW0 i1 b2 hZS hGI.1 hkn hb9 hV (hF.at i1 (by decide)) hZk.1 hZk.2; rw [va_upJ, va_upJ] at hQ9; exact hQ9)⟩, (by unfold anJo; rw [if_neg hno])⟩, ⟨8, j_128, (by omega), (by unfold ZGC caJo; rw [if_pos hcr]; intro i; rw [← hcg]; unfold cirF; by_cases z9 : i < j_128; rw [if_pos z9, if_pos (by omega)]; exact hWY (c_130.mp (by omega)) i (by omega); rw [if_neg z9, if_neg (by omega)]), by rw [ht]; exact hP, hD⟩⟩, hS.F ht⟩) hS.2.2 dX13_join_195
                  · have hz := rfl (a := 0)
                    have n_178 : ¬ (v34 ≤ v8w67) := fun q => c_75 ((iLE (a := v34) (b := v8w67) (by omega) (by omega)).mpr q)
                    refine lv_iload hx hb dX13_join_91 (lv_at hl 1 rfl) ?_
                    refine lv_if_ne (tgt := 133) hx hb dX13_join_93 (by decide) (fun c_179 => absurd c_179 (by decide)) (fun _ => ?_)
                    refine lv_aload hx hb dX13_join_96 (lv_at hl 2 rfl) ?_
                    obtain ⟨v180, hv180, hc180⟩ : ∃ v : Nat, fs33[20]? = some (.ref v : Value) ∧ isk K L v 31 24 := hl33 20 (by decide)
                    refine pg_getN (D := D) (ci := 12) (v := .ref v180) (C := RX12) (T := TX12) (N := 51) hx hb hg inG12 hown hK hP hb_32.1 hM_74 rfl 20 (by decide) (hN.use (Cond.fieldLinkNest RX13 110 RX12 "where" "[I" RX13) 29 rfl rfl) (fun _ h9 => h9) hv180 dX13_join_98 ?_
                    refine lv_iload hx hb dX13_join_101 (lv_at hl 0 rfl) ?_
                    obtain ⟨f181, hM181, hf181⟩ := hW.open_31 hc180
                    have hi_182 : vp_in (nI v8w67) 24 := (inbN v8w67 24 (by omega) (by omega))
                    refine pg_iald hx hb hK hP hc180.1 0 hM181 rfl hi_182 dX13_join_103 ?_
                    have hp_183 := hf181 _ (vp_lt hi_182)
                    obtain ⟨c_184, hc_185, ec_186⟩ := hp_183
                    rw [ec_186]
                    have hy20 : (ax M b30 20) = f181 := (congrFun hV.2.2.1 20).symm.trans (ax_of hM_74 (by decide) hv180 hM181)
                    have hr20 : SY ((nI j_26) : Int32).toNatClampNeg 20 v8w67 = (nI c_184) := by
                      have h9 := ec_186
                      rw [nI_cl (by omega)] at h9
                      rw [← hZk.2, hy20]
                      exact h9
                    refine lv_iload_n hx hb dX13_join_104 rfl (lv_at hl 5 rfl) ?_
                    refine lv_icmp_ne (tgt := 137) hx hb dX13_join_105 (by decide) (fun c_187 => ?_) (fun c_187 => ?_)
                    · have hz := rfl (a := 0)
                      refine lv_iconst (v := 0) hx hb dX13_join_137 (by decide) ?_
                      have hI_188 : ((v8w67 : Nat) : Int) < ((v34 : Nat) : Int) := inleI (nI_toInt (by omega)) (nI_toInt (by omega)) c_75
                      have hI_189 : ((c_184 : Nat) : Int) ≠ (k2 : Int32).toInt := ineI (nI_toInt (by omega)) rfl c_187
                      refine lv_istore (lv' := [(7, .int 0), (8, .int (nI v8w67)), (6, .ref b30), (0, .ref za), (1, .int (nI j_26)), (2, .int k2), (3, .int k3), (4, .int k4), (5, .int k5)]) hx hb dX13_join_138 hl (by decide) rfl (fun ls hl => ?_)
                      refine lv_iinc (v := (nI (v8w67 + 1))) (lv' := [(8, .int (nI (v8w67 + 1))), (7, .int 0), (6, .ref b30), (0, .ref za), (1, .int (nI j_26)), (2, .int k2), (3, .int k3), (4, .int k4), (5, .int k5)]) hx hb dX13_join_140 hl (k := 1) rfl (nI_1 v8w67) (by decide) rfl (fun ls hl => ?_)
                      refine lv_goto (tgt := 81) hx hb dX13_join_143 (by decide) ?_
                      exact ih_65 0 (v8w67 + 1) M_72 H_73 _ _ (by omega) (Or.inl rfl) hM_74 (by omega) (by omega) (TKL.mis hx_71 (fun q => by have q1 := q.1; rw [hr20] at q1; contradiction)) hW hF hG hV hP hD hS (lv_sub hl [0, 1, 2, 3, 4, 5, 6, 7, 8] rfl)
                    · have hz := rfl (a := 0)
                      refine lv_aload hx hb dX13_join_108 (lv_at hl 2 rfl) ?_
                      obtain ⟨v190, hv190, hc190⟩ : ∃ v : Nat, fs33[22]? = some (.ref v : Value) ∧ isk K L v 41 24 := hl33 22 (by decide)
                      refine pg_getN (D := D) (ci := 12) (v := .ref v190) (C := RX12) (T := TX12) (N := 51) hx hb hg inG12 hown hK hP hb_32.1 hM_74 rfl 22 (by decide) (hN.use (Cond.fieldLinkNest RX13 95 RX12 "ended" "[I" RX13) 31 rfl rfl) (fun _ h9 => h9) hv190 dX13_join_110 ?_
                      refine lv_iload hx hb dX13_join_113 (lv_at hl 0 rfl) ?_
                      obtain ⟨f191, hM191⟩ := hW.open_41 hc190
                      refine pg_iald hx hb hK hP hc190.1 0 hM191 rfl (inbN v8w67 24 (by omega) (by omega)) dX13_join_115 ?_
                      refine lv_topi (fun f_192 ef_192 => ?_)
                      have hy22 : (ax M b30 22) = f191 := (congrFun hV.2.2.1 22).symm.trans (ax_of hM_74 (by decide) hv190 hM191)
                      have hr22 : SY ((nI j_26) : Int32).toNatClampNeg 22 v8w67 = f_192 := by
                        have h9 := ef_192.symm
                        rw [nI_cl (by omega)] at h9
                        rw [← hZk.2, hy22]
                        exact h9
                      have hr22i := congrArg Int32.toInt hr22
                      refine lv_iconst (v := (-1)) hx hb dX13_join_116 (by decide) ?_
                      refine lv_icmp_eq (tgt := 133) hx hb dX13_join_117 (by decide) (fun c_193 => ?_) (fun c_193 => ?_)
                      · have hz := rfl (a := 0)
                        refine lv_iconst (v := 1) hx hb dX13_join_133 (by decide) ?_
                        refine lv_goto (tgt := 138) hx hb dX13_join_134 (by decide) ?_
                        have hI_194 : ((v8w67 : Nat) : Int) < ((v34 : Nat) : Int) := inleI (nI_toInt (by omega)) (nI_toInt (by omega)) c_75
                        have hI_195 : ((c_184 : Nat) : Int) = (k2 : Int32).toInt := ieqI (nI_toInt (by omega)) rfl c_187
                        have hI_196 : (f_192 : Int32).toInt = (-1) := ieqI rfl rfl c_193
                        refine lv_istore (lv' := [(7, .int 1), (8, .int (nI v8w67)), (6, .ref b30), (0, .ref za), (1, .int (nI j_26)), (2, .int k2), (3, .int k3), (4, .int k4), (5, .int k5)]) hx hb dX13_join_138 hl (by decide) rfl (fun ls hl => ?_)
                        refine lv_iinc (v := (nI (v8w67 + 1))) (lv' := [(8, .int (nI (v8w67 + 1))), (7, .int 1), (6, .ref b30), (0, .ref za), (1, .int (nI j_26)), (2, .int k2), (3, .int k3), (4, .int k4), (5, .int k5)]) hx hb dX13_join_140 hl (k := 1) rfl (nI_1 v8w67) (by decide) rfl (fun ls hl => ?_)
                        refine lv_goto (tgt := 81) hx hb dX13_join_143 (by decide) ?_
                        exact ih_65 1 (v8w67 + 1) M_72 H_73 _ _ (by omega) (Or.inr rfl) hM_74 (by omega) (by omega) (TKL.hit (by rw [hr20]; first | assumption | rfl | exact congrArg nI (by omega)) (by rw [hr22]; omega)) hW hF hG hV hP hD hS (lv_sub hl [0, 1, 2, 3, 4, 5, 6, 7, 8] rfl)
                      · have hz := rfl (a := 0)
                        refine lv_aload hx hb dX13_join_120 (lv_at hl 2 rfl) ?_
                        refine pg_getN (D := D) (ci := 12) (v := .ref v190) (C := RX12) (T := TX12) (N := 51) hx hb hg inG12 hown hK hP hb_32.1 hM_74 rfl 22 (by decide) (hN.use (Cond.fieldLinkNest RX13 95 RX12 "ended" "[I" RX13) 31 rfl rfl) (fun _ h9 => h9) hv190 dX13_join_122 ?_
                        refine lv_iload hx hb dX13_join_125 (lv_at hl 0 rfl) ?_
                        refine pg_iald hx hb hK hP hc190.1 0 hM191 rfl (inbN v8w67 24 (by omega) (by omega)) dX13_join_127 ?_
                        refine lv_topi (fun f_197 ef_197 => ?_)
                        have hr22j : (f_197 : Int32).toInt = (f_192 : Int32).toInt := congrArg Int32.toInt (ef_197.trans ef_192.symm)
                        refine lv_iload hx hb dX13_join_128 (lv_at hl 7 rfl) ?_
                        refine lv_icmp_le (tgt := 137) hx hb dX13_join_130 (by decide) (fun c_198 => ?_) (fun c_198 => ?_)
                        · have hz := rfl (a := 0)
                          refine lv_iconst (v := 0) hx hb dX13_join_137 (by decide) ?_
                          have hI_199 : ((v8w67 : Nat) : Int) < ((v34 : Nat) : Int) := inleI (nI_toInt (by omega)) (nI_toInt (by omega)) c_75
                          have hI_200 : ((c_184 : Nat) : Int) = (k2 : Int32).toInt := ieqI (nI_toInt (by omega)) rfl c_187
                          have hI_201 : (f_192 : Int32).toInt ≠ (-1) := ineI rfl rfl c_193
                          have hI_202 : (f_197 : Int32).toInt ≤ (k4 : Int32).toInt := ileI rfl rfl c_198
                          refine lv_istore (lv' := [(7, .int 0), (8, .int (nI v8w67)), (6, .ref b30), (0, .ref za), (1, .int (nI j_26)), (2, .int k2), (3, .int k3), (4, .int k4), (5, .int k5)]) hx hb dX13_join_138 hl (by decide) rfl (fun ls hl => ?_)
                          refine lv_iinc (v := (nI (v8w67 + 1))) (lv' := [(8, .int (nI (v8w67 + 1))), (7, .int 0), (6, .ref b30), (0, .ref za), (1, .int (nI j_26)), (2, .int k2), (3, .int k3), (4, .int k4), (5, .int k5)]) hx hb dX13_join_140 hl (k := 1) rfl (nI_1 v8w67) (by decide) rfl (fun ls hl => ?_)
                          refine lv_goto (tgt := 81) hx hb dX13_join_143 (by decide) ?_
                          exact ih_65 0 (v8w67 + 1) M_72 H_73 _ _ (by omega) (Or.inl rfl) hM_74 (by omega) (by omega) (TKL.mis hx_71 (fun q => by have q1 := q.2; rw [hr22] at q1; omega)) hW hF hG hV hP hD hS (lv_sub hl [0, 1, 2, 3, 4, 5, 6, 7, 8] rfl)
                        · have hz := rfl (a := 0)
                          refine lv_iconst (v := 1) hx hb dX13_join_133 (by decide) ?_
                          refine lv_goto (tgt := 138) hx hb dX13_join_134 (by decide) ?_
                          have hI_203 : ((v8w67 : Nat) : Int) < ((v34 : Nat) : Int) := inleI (nI_toInt (by omega)) (nI_toInt (by omega)) c_75
                          have hI_204 : ((c_184 : Nat) : Int) = (k2 : Int32).toInt := ieqI (nI_toInt (by omega)) rfl c_187
                          have hI_205 : (f_192 : Int32).toInt ≠ (-1) := ineI rfl rfl c_193
                          have hI_206 : (k4 : Int32).toInt < (f_197 : Int32).toInt := inleI rfl rfl c_198
                          refine lv_istore (lv' := [(7, .int 1), (8, .int (nI v8w67)), (6, .ref b30), (0, .ref za), (1, .int (nI j_26)), (2, .int k2), (3, .int k3), (4, .int k4), (5, .int k5)]) hx hb dX13_join_138 hl (by decide) rfl (fun ls hl => ?_)
                          refine lv_iinc (v := (nI (v8w67 + 1))) (lv' := [(8, .int (nI (v8w67 + 1))), (7, .int 1), (6, .ref b30), (0, .ref za), (1, .int (nI j_26)), (2, .int k2), (3, .int k3), (4, .int k4), (5, .int k5)]) hx hb dX13_join_140 hl (k := 1) rfl (nI_1 v8w67) (by decide) rfl (fun ls hl => ?_)
                          refine lv_goto (tgt := 81) hx hb dX13_join_143 (by decide) ?_
                          exact ih_65 1 (v8w67 + 1) M_72 H_73 _ _ (by omega) (Or.inr rfl) hM_74 (by omega) (by omega) (TKL.hit (by rw [hr20]; first | assumption | rfl | exact congrArg nI (by omega)) (by rw [hr22]; omega)) hW hF hG hV hP hD hS (lv_sub hl [0, 1, 2, 3, 4, 5, 6, 7, 8] rfl)
                · have hz := rfl (a := 0)
                  refine lv_iload hx hb dX13_join_81 (lv_at hl 0 rfl) ?_
                  refine lv_aload hx hb dX13_join_83 (lv_at hl 2 rfl) ?_
                  refine pg_getN (D := D) (ci := 12) (v := .int (nI v34)) (C := RX12) (T := TX12) (N := 51) hx hb hg inG12 hown hK hP hb_32.1 hM_74 rfl 10 (by decide) (hN.use (Cond.fieldLinkNest RX13 68 RX12 "tenures" "I" RX13) 19 rfl rfl) (fun _ h9 => h9) hv34 dX13_join_85 ?_
                  refine lv_icmp_ge (tgt := 146) hx hb dX13_join_88 (by decide) (fun c_207 => ?_) (fun c_207 => ?_)
                  · have hz := rfl (a := 0)
                    have n_208 : v34 ≤ v8w67 := (iLE (a := v34) (b := v8w67) (by omega) (by omega)).mp c_207
                    have htk : TKL (SY ((nI j_26) : Int32).toNatClampNeg) k2 k4 v8w67 ↔ _ := TKL.tkn (X := SX ((nI j_26) : Int32).toNatClampNeg) (by omega)
                    have hTK : (SY ((nI j_26) : Int32).toNatClampNeg 9 (k2 : Int32).toNatClampNeg).toInt < 0 ∨ TKN (SX ((nI j_26) : Int32).toNatClampNeg) (SY ((nI j_26) : Int32).toNatClampNeg) k2 k4 := htk.mp (hx_71.mp rfl)
                    refine lv_iload hx hb dX13_join_146 (lv_at hl 1 rfl) ?_
                    refine lv_if_eq (tgt := 157) hx hb dX13_join_148 (by decide) (fun c_209 => absurd c_209 (by decide)) (fun _ => ?_)
                    refine lv_aload_n hx hb dX13_join_151 rfl (lv_at hl 3 rfl) ?_
                    refine lv_iconst (v := 4) hx hb dX13_join_152 (by decide) ?_
                    have hPc := hP.sub (ws' := [(za, (b13_0 0 z1 (nI z2) (nI z3) z4 z5 z6 z7 z8 z9 (nI 0) z11 z12 z13 z14 z15 (nI z16) z17 z18 z19))]) [0] rfl
                    have hDc := hD.sub (ws' := [(za, (b13_0 0 z1 (nI z2) (nI z3) z4 z5 z6 z7 z8 z9 (nI 0) z11 z12 z13 z14 z15 (nI z16) z17 z18 z19))]) [0] (by decide) rfl
                    have hKc := hK.sub (tys' := []) [] rfl
                    have hFc := va_free (wc := [(za, (b13_0 0 z1 (nI z2) (nI z3) z4 z5 z6 z7 z8 z9 (nI 0) z11 z12 z13 z14 z15 (nI z16) z17 z18 z19))]) hD hS hA [0] rfl
                    refine va_calli (va_runV (As := [.int 4]) (rest := []) ⟨hx, hb, hml, hown, hg⟩ (m_refused l D H_73.size za 0 z1 (nI z2) (nI z3) z4 z5 z6 z7 z8 z9 (nI 0) z11 z12 z13 z14 z15 (nI z16) z17 z18 z19 4) (cwV 1 hg (gV wd_725 wd_726 wd_727 wd_717 wd_728) rfl rfl rfl (by decide +kernel) ⟨(Nat.le_trans (Nat.le_of_ble_eq_true rfl) hRf), (Nat.le_trans (Nat.le_of_ble_eq_true rfl) hRl)⟩) ⟨Pr.blind, va_recv hK hP (ci := 13) (q0 := 0) rfl rfl, fun U hU hW => ⟨rfl, Pr.at hPc hKc hDc hN hU hW⟩⟩ rfl rfl hl.1 rfl (lv_room (Nat.le_of_ble_eq_true rfl)) dX13_join_153 ⟨(Nat.le_trans (Nat.le_of_ble_eq_true rfl) hRc), (Nat.le_trans (Nat.le_of_ble_eq_true rfl) hRs)⟩) hS (fun q _ h => hFc q h) hFc (fun r_211 M_212 t H_210 locs ht hvm hw hB hz1 hk1 hS => ?_)
                    have hp_213 := hw
                    obtain ⟨hP1, hK1, hD1⟩ := hB
                    rw [ht] at hP1
                    obtain ⟨hP, hD⟩ := va_joinQ (X := [(za, (b13_0 0 z1 (nI z2) (nI z3) z4 z5 z6 z7 z8 z9 (nI 0) z11 z12 z13 z14 z15 (nI z16) z17 z18 z19))]) (cx := [(za, (b13_0 0 z1 (nI z2) (nI z3) z4 z5 z6 z7 z8 z9 (nI 0) z11 z12 z13 z14 z15 (nI z16) z17 z18 z19))]) (wr := []) (w1 := [(za, (b13_0 0 z1 (nI z2) (nI z3) 4 (-1) z6 z7 z8 z9 (nI 0) z11 z12 z13 z14 z15 (nI z16) z17 z18 z19))]) (pl := va_pl L M_72) hP hD [0] [] rfl rfl (by decide) (by decide) hk1 hFc hP1 hD1
                    have hP : va_P D vwCl ([(za, (b13_0 0 z1 (nI z2) (nI z3) 4 (-1) z6 z7 z8 z9 (nI 0) z11 z12 z13 z14 z15 (nI z16) z17 z18 z19))] ++ va_pl L M_72) H_210 := hP
                    have hD : va_D A ([(za, (b13_0 0 z1 (nI z2) (nI z3) 4 (-1) z6 z7 z8 z9 (nI 0) z11 z12 z13 z14 z15 (nI z16) z17 z18 z19))] ++ va_pl L M_72) := hD
                    have hq := Eq.symm hp_213
                    subst hq
                    have hI_214 : ((v34 : Nat) : Int) ≤ ((v8w67 : Nat) : Int) := ileI (nI_toInt (by omega)) (nI_toInt (by omega)) c_207
                    have hn91 : ((nI j_26) : Int32).toInt = ((j_26 : Nat) : Int) := nI_toInt (by omega)
                    have hTKx : ¬ (0 ≤ (SY ((nI j_26) : Int32).toNatClampNeg 9 (k2 : Int32).toNatClampNeg).toInt ∧ ¬ TKN (SX ((nI j_26) : Int32).toNatClampNeg) (SY ((nI j_26) : Int32).toNatClampNeg) k2 k4) := fun q => hTK.elim (fun q2 => absurd q.1 (Int.not_le.mpr q2)) q.2
                    have hncr : ¬ okCr z2 z3 PK PT SX SY (nI j_26) k2 k3 k4 := fun q9 => by unfold okCr okHS at q9; first | omega | (obtain ⟨⟨_, _, _, _⟩, ⟨_, _⟩, ⟨_, _⟩, _, _, _⟩ := q9; first | omega | contradiction)
                    have hno : ¬ okJo z2 z3 PK PT SX SY (nI j_26) k2 k3 k4 := fun q9 => by unfold okJo okHS at q9; first | omega | (obtain ⟨⟨_, _, _, _⟩, ⟨_, _⟩, ⟨_, _⟩, _, _, _⟩ := q9; first | omega | contradiction)
                    have hA9 : HA (ax M b30 2) (ax M b30 3) := hAT.1
                    have hB9 : HB (fx M b30 16) (fx M b30 14) (ax M b30 3) (ax M b30 43) := hAT.2.1
                    have hC9 : HC (fx M b30 10) (ax M b30 22) (ax M b30 23) := hAT.2.2.1
                    have hD9 : HD (fx M b30 0) (fx M b30 11) (fx M b30 15) (ax M b30 34) (ax M b30 41) := hAT.2.2.2.1
                    have hE9 : HE (fx M b30 0) (fx M b30 1) (fx M b30 12) (fx M b30 13) (ax M b30 37) := hAT.2.2.2.2
                    have hH9 : HI (fx M b30) (ax M b30) := ⟨hA9, hB9, hC9, hD9, hE9⟩
                    have hGI9 : GI K L z1 z2 M_72 := GI.fin hW0 i1 b2 hGI hact hV (hF.at i1 (by decide)) hH9
                    rw [hQ]
                    exact W.iret (v := (-1)) hx hb hr (fun t ht hW9 => ⟨⟨(-1), M_72, rfl, ⟨hW, hF, hG, ⟨hGI9, (by unfold sxJo syJo; rw [if_neg hno, if_neg hno]; have hQ9 := ZSx.fin hW0 i1 b2 hZS hGI.1 hkn hb9 hV (hF.at i1 (by decide)) hZk.1 hZk.2; rw [va_upJ, va_upJ] at hQ9; exact hQ9)⟩, (by unfold anJo; rw [if_neg hno])⟩, ⟨4, 0, (by omega), (by unfold ZGC caJo; rw [if_neg hncr]; exact fun i => if_neg (by omega)), by rw [ht]; exact hP, hD⟩⟩, hS.F ht⟩) hS.2.2 dX13_join_156
                  · have hz := rfl (a := 0)
                    have n_215 : ¬ (v34 ≤ v8w67) := fun q => c_207 ((iLE (a := v34) (b := v8w67) (by omega) (by omega)).mpr q)
                    refine lv_iload hx hb dX13_join_91 (lv_at hl 1 rfl) ?_
                    refine lv_if_ne (tgt := 133) hx hb dX13_join_93 (by decide) (fun _ => ?_) (fun c_216 => absurd c_216 (by decide))
                    refine lv_iconst (v := 1) hx hb dX13_join_133 (by decide) ?_
                    refine lv_goto (tgt := 138) hx hb dX13_join_134 (by decide) ?_
                    have hI_217 : ((v8w67 : Nat) : Int) < ((v34 : Nat) : Int) := inleI (nI_toInt (by omega)) (nI_toInt (by omega)) c_207
                    refine lv_istore (lv' := [(7, .int 1), (8, .int (nI v8w67)), (6, .ref b30), (0, .ref za), (1, .int (nI j_26)), (2, .int k2), (3, .int k3), (4, .int k4), (5, .int k5)]) hx hb dX13_join_138 hl (by decide) rfl (fun ls hl => ?_)
                    refine lv_iinc (v := (nI (v8w67 + 1))) (lv' := [(8, .int (nI (v8w67 + 1))), (7, .int 1), (6, .ref b30), (0, .ref za), (1, .int (nI j_26)), (2, .int k2), (3, .int k3), (4, .int k4), (5, .int k5)]) hx hb dX13_join_140 hl (k := 1) rfl (nI_1 v8w67) (by decide) rfl (fun ls hl => ?_)
                    refine lv_goto (tgt := 81) hx hb dX13_join_143 (by decide) ?_
                    exact ih_65 1 (v8w67 + 1) M_72 H_73 _ _ (by omega) (Or.inr rfl) hM_74 (by omega) (by omega) (TKL.y hx_71) hW hF hG hV hP hD hS (lv_sub hl [0, 1, 2, 3, 4, 5, 6, 7, 8] rfl)
            exact key_64 (24 - 0 + 1) 0 0 M H_35 _ _ (by omega) (Or.inl rfl) hM33 (by omega) (by omega) (TKL.n0 (by omega)) hW hF hG hV hP hD hS (lv_sub hl [0, 1, 2, 3, 4, 5, 6, 7, 8] rfl)
          · have hz := rfl (a := 0)
            refine lv_iconst (v := 1) hx hb dX13_join_71 (by decide) ?_
            refine lv_goto (tgt := 76) hx hb dX13_join_72 (by decide) ?_
            refine lv_istore (lv' := [(7, .int 1), (6, .ref b30), (0, .ref za), (1, .int (nI j_26)), (2, .int k2), (3, .int k3), (4, .int k4), (5, .int k5)]) hx hb dX13_join_76 hl (by decide) rfl (fun ls hl => ?_)
            have hI_218 : (0 : Int) ≤ ((j_26 : Nat) : Int) := inltI (nI_toInt (by omega)) rfl c_8
            have hI_219 : ((j_26 : Nat) : Int) < ((z2 : Nat) : Int) := inleI (nI_toInt (by omega)) (nI_toInt (by omega)) c_9
            have hI_220 : (0 : Int) ≤ (k2 : Int32).toInt := inltI rfl rfl c_10
            have hI_221 : (k2 : Int32).toInt < (6 : Int) := inleI rfl rfl c_11
            have hI_222 : (0 : Int) ≤ (k3 : Int32).toInt := inltI rfl rfl c_14
            have hI_223 : (k3 : Int32).toInt < ((z3 : Nat) : Int) := iltI rfl (nI_toInt (by omega)) c_24
            have hI_224 : (k3 : Int32).toInt < (40 : Int) := inleI rfl rfl n_25
            have hI_225 : (0 : Int) ≤ (k4 : Int32).toInt := inltI rfl rfl c_40
            have hI_226 : (k4 : Int32).toInt < (1000 : Int) := inleI rfl rfl c_41
            have hI_227 : (-1000000) ≤ (f_48 : Int32).toInt := ileI rfl rfl g_49
            have hI_228 : (f_48 : Int32).toInt ≤ (24 : Int) := ileI rfl rfl g_50
            have hI_229 : (f_48 : Int32).toInt < (0 : Int) := inleI rfl rfl c_51
            refine lv_iconst (v := 0) hx hb dX13_join_78 (by decide) ?_
            refine lv_istore (lv' := [(8, .int 0), (7, .int 1), (6, .ref b30), (0, .ref za), (1, .int (nI j_26)), (2, .int k2), (3, .int k3), (4, .int k4), (5, .int k5)]) hx hb dX13_join_79 hl (by decide) rfl (fun ls hl => ?_)
            have key_230 : ∀ (fu_232 : Nat) (v7w233 : Int32) (v8w233 : Nat) (M_238 : Hp) (H_239 : Heap) (locs : List Loc) (ls : Array Slot), 24 - v8w233 < fu_232 → (v7w233 = 0 ∨ v7w233 = 1) → M_238 b30 = .inr (12, fs33) → v8w233 ≤ 24 → ((v8w233 : Nat) : Int) ≤ SX ((nI j_26) : Int32).toNatClampNeg 10 → (v7w233 = 1 ↔ TKL (SY ((nI j_26) : Int32).toNatClampNeg) k2 k4 v8w233) → WOM cy K L M_238 → fr K L [12, 14, 16, 30, 31, 33, 34, 41, 42, 49, 50, 75, 76] M M_238 → fG K L [10] M M_238 → VW K L M M_238 b30 (fx M b30) (ax M b30) → va_P D vwCl ([(za, (b13_0 0 z1 (nI z2) (nI z3) z4 z5 z6 z7 z8 z9 (nI 0) z11 z12 z13 z14 z15 (nI z16) z17 z18 z19))] ++ va_pl L M_238) H_239 → va_D A ([(za, (b13_0 0 z1 (nI z2) (nI z3) z4 z5 z6 z7 z8 z9 (nI 0) z11 z12 z13 z14 z15 (nI z16) z17 z18 z19))] ++ va_pl L M_238) → va_S A s.heap H_239 locs → lv_has ls 9 [(8, .int (nI v8w233)), (7, .int v7w233), (6, .ref b30), (0, .ref za), (1, .int (nI j_26)), (2, .int k2), (3, .int k3), (4, .int k4), (5, .int k5)] → W p l e R s m ([.ref za, .int (nI j_26), .int k2, .int k3, .int k4, .int k5] : List Value).toArray below meth c H_239 locs 0 0 Q (F0 m 81 ls []) := by
              intro fu_232
              induction fu_232 with
              | zero => intro v7w233 v8w233 M_238 H_239 locs ls h; exact absurd h (Nat.not_lt_zero _)
              | succ fu_232 ih_231 =>
                intro v7w233 v8w233 M_238 H_239 locs ls hfu hq_234 hM_240 hx_235 hx_236 hx_237 hW hF hG hV hP hD hS hl
                rcases hq_234 with rfl | rfl
                · have hz := rfl (a := 0)
                  refine lv_iload hx hb dX13_join_81 (lv_at hl 0 rfl) ?_
                  refine lv_aload hx hb dX13_join_83 (lv_at hl 2 rfl) ?_
                  refine pg_getN (D := D) (ci := 12) (v := .int (nI v34)) (C := RX12) (T := TX12) (N := 51) hx hb hg inG12 hown hK hP hb_32.1 hM_240 rfl 10 (by decide) (hN.use (Cond.fieldLinkNest RX13 68 RX12 "tenures" "I" RX13) 19 rfl rfl) (fun _ h9 => h9) hv34 dX13_join_85 ?_
                  refine lv_icmp_ge (tgt := 146) hx hb dX13_join_88 (by decide) (fun c_241 => ?_) (fun c_241 => ?_)
                  · have hz := rfl (a := 0)
                    have n_242 : v34 ≤ v8w233 := (iLE (a := v34) (b := v8w233) (by omega) (by omega)).mp c_241
                    have htk : TKL (SY ((nI j_26) : Int32).toNatClampNeg) k2 k4 v8w233 ↔ _ := TKL.tkn (X := SX ((nI j_26) : Int32).toNatClampNeg) (by omega)
                    have hTK : ¬ ((SY ((nI j_26) : Int32).toNatClampNeg 9 (k2 : Int32).toNatClampNeg).toInt < 0 ∨ TKN (SX ((nI j_26) : Int32).toNatClampNeg) (SY ((nI j_26) : Int32).toNatClampNeg) k2 k4) := fun q => absurd (hx_237.mpr (htk.mpr q)) (by decide)
                    have hTKn : ¬ TKN (SX ((nI j_26) : Int32).toNatClampNeg) (SY ((nI j_26) : Int32).toNatClampNeg) k2 k4 := fun q => hTK (Or.inr q)
                    have hTK0 : 0 ≤ (SY ((nI j_26) : Int32).toNatClampNeg 9 (k2 : Int32).toNatClampNeg).toInt := Int.not_lt.mp (fun q => hTK (Or.inl q))
                    have hTKy := And.intro hTK0 hTKn
                    refine lv_iload hx hb dX13_join_146 (lv_at hl 1 rfl) ?_
                    refine lv_if_eq (tgt := 157) hx hb dX13_join_148 (by decide) (fun _ => ?_) (fun c_243 => absurd c_243 (by decide))
                    refine lv_aload_n hx hb dX13_join_157 rfl (lv_at hl 3 rfl) ?_
                    refine va_get (D := D) (ci := 13) (v := .ref z6) (C := RX13) (T := TX13) (N := 20) hx hb hg inG13 hown hK hP 0 rfl rfl 6 (by decide) (hg _ wd_719) (fun _ h9 => h9) rfl dX13_join_158 ?_
                    refine lv_iload_n hx hb dX13_join_161 rfl (lv_at hl 6 rfl) ?_
                    obtain ⟨f244, hM244, hf244⟩ := hW.open_47 i6
                    have hi_245 : vp_in k3 40 := (inb k3 40 (by omega) c_14 n_25)
                    refine pg_iald hx hb hK hP i6.1 0 hM244 rfl hi_245 dX13_join_162 ?_
                    have hp_246 := hf244 _ (vp_lt hi_245)
                    obtain ⟨c_247, hc_248, ec_249⟩ := hp_246
                    rw [ec_249]
                    have hPk : PK (k3 : Int32).toNatClampNeg = (nI c_247) := by
                      have h9 := ec_249
                      rw [← (ZP.mv hZP i6 i7 hF (by decide) (by decide)).1, show IFc (M_238 z6) = f244 from by rw [hM244]; rfl]
                      exact h9
                    have hPki : (PK (k3 : Int32).toNatClampNeg).toInt = ((c_247 : Nat) : Int) := by rw [hPk]; exact nI_toInt (by omega)
                    refine lv_iconst (v := 5) hx hb dX13_join_163 (by decide) ?_
                    refine lv_icmp_ne (tgt := 196) hx hb dX13_join_164 (by decide) (fun c_250 => ?_) (fun c_250 => ?_)
                    · have hz := rfl (a := 0)
                      have n_251 : ¬ (c_247 = 5) := fun q => c_250 ((iEQ (a := c_247) (b := 5) (by omega) (by omega)).mpr q)
                      refine lv_aload hx hb dX13_join_196 (lv_at hl 2 rfl) ?_
                      refine pg_getN (D := D) (ci := 12) (v := .int (nI v34)) (C := RX12) (T := TX12) (N := 51) hx hb hg inG12 hown hK hP hb_32.1 hM_240 rfl 10 (by decide) (hN.use (Cond.fieldLinkNest RX13 68 RX12 "tenures" "I" RX13) 19 rfl rfl) (fun _ h9 => h9) hv34 dX13_join_198 ?_
                      refine lv_bipush (v := 24) hx hb dX13_join_201 (by decide) ?_
                      refine lv_icmp_ne (tgt := 213) hx hb dX13_join_203 (by decide) (fun c_252 => ?_) (fun c_252 => ?_)
                      · have hz := rfl (a := 0)
                        have n_253 : ¬ (v34 = 24) := fun q => c_252 ((iEQ (a := v34) (b := 24) (by omega) (by omega)).mpr q)
                        refine lv_aload_n hx hb dX13_join_213 rfl (lv_at hl 3 rfl) ?_
                        refine lv_aload_n hx hb dX13_join_214 rfl (lv_at hl 3 rfl) ?_
                        refine lv_aload hx hb dX13_join_215 (lv_at hl 2 rfl) ?_
                        refine lv_iload_n hx hb dX13_join_217 rfl (lv_at hl 5 rfl) ?_
                        refine lv_iload_n hx hb dX13_join_218 rfl (lv_at hl 6 rfl) ?_
                        refine lv_iload hx hb dX13_join_219 (lv_at hl 7 rfl) ?_
                        refine lv_iload hx hb dX13_join_221 (lv_at hl 8 rfl) ?_
                        obtain ⟨j_254, hj_255, rfl⟩ := i32nat 6 (by decide) c_10 c_11
                        obtain ⟨j_256, hj_257, rfl⟩ := i32nat 40 (by decide) c_14 n_25
                        have hPc : va_P D vwCl ([(za, (b13_0 0 z1 (nI z2) (nI z3) z4 z5 z6 z7 z8 z9 (nI 0) z11 z12 z13 z14 z15 (nI z16) z17 z18 z19))] ++ va_pl L M_238) H_239 := hP
                        have hDc : va_D A ([(za, (b13_0 0 z1 (nI z2) (nI z3) z4 z5 z6 z7 z8 z9 (nI 0) z11 z12 z13 z14 z15 (nI z16) z17 z18 z19))] ++ va_pl L M_238) := hD
                        have hFc : ∀ q, va_A ([(za, (b13_0 0 z1 (nI z2) (nI z3) z4 z5 z6 z7 z8 z9 (nI 0) z11 z12 z13 z14 z15 (nI z16) z17 z18 z19))] ++ va_pl L M_238) H_239.size q → A q := pg_free hDc hS hA
                        refine va_calli (va_runV (As := [.ref b30, .int (nI j_254), .int (nI j_256), .int k4, .int k5]) (rest := [.ref za]) ⟨hx, hb, hml, hown, hg⟩ (z_begins l D cy K L M_238 H_239.size za 0 z1 z2 z3 z4 z5 z6 z7 z8 z9 0 z11 z12 z13 z14 z15 z16 z17 z18 z19 b30 j_254 j_256 k4 k5  hW i1 b2 b3 i6 i7 i8 i9 (by omega) i11 i12 i13 i14 i15 b16 i17 i19 hb_32 (by omega) (by omega) zk5 ⟨_, _, hM_240, hv34, by omega⟩ hV.2.2.2) (cwV 5 hg (gV wd_832 wd_833 wd_834 wd_717 wd_835) rfl rfl rfl (by decide +kernel) ⟨(Nat.le_trans (Nat.le_of_ble_eq_true rfl) hRf), (Nat.le_trans (Nat.le_of_ble_eq_true rfl) hRl)⟩) ⟨PG.blind, va_recv hK hP (ci := 13) (q0 := 0) rfl rfl, fun U hU hW => ⟨rfl, PG.at hPc hK hDc hN hU hW⟩⟩ rfl rfl hl.1 rfl (lv_room (Nat.le_of_ble_eq_true rfl)) dX13_join_223 ⟨(Nat.le_trans (Nat.le_of_ble_eq_true rfl) hRc), (Nat.le_trans (Nat.le_of_ble_eq_true rfl) hRs)⟩) hS (fun q _ h => hFc q h) hFc (fun r_259 M_260 t H_258 locs ht hvm hw hB hz1 hk1 hS => ?_)
                        have hWb := hW
                        obtain ⟨hW, hF2, hG2, hVP, hp_261⟩ := hw
                        obtain ⟨hP1, hD1⟩ := hB
                        rw [ht] at hP1
                        have hP : va_P D vwCl ([(za, (b13_0 0 z1 (nI z2) (nI z3) z4 z5 z6 z7 z8 z9 (nI 0) z11 z12 z13 z14 z15 (nI z16) z17 z18 z19))] ++ va_pl L M_260) H_258 := hP1
                        have hD : va_D A ([(za, (b13_0 0 z1 (nI z2) (nI z3) z4 z5 z6 z7 z8 z9 (nI 0) z11 z12 z13 z14 z15 (nI z16) z17 z18 z19))] ++ va_pl L M_260) := hD1.mono hFc
                        obtain ⟨fs262, hM262, hn262, hl262⟩ := hW.open_12 hb_32
                        have hv_263 : fs262[9]? = some (.ref v44 : Value) := (hG2 _ hb_32 _ _ hM_240 hM262 9 (by decide)).trans hv44
                        have hM_264 : M_260 z6 = .inl (cy 14, 40, .inl (f244)) := (hF2.at i6 (by decide)).trans hM244
                        have hF : fr K L [12, 14, 16, 30, 31, 33, 34, 41, 42, 49, 50, 75, 76] M M_260 := hF.tr hF2 (by decide)
                        have hG : fG K L [10] M M_260 := hG.tr hWb hG2 (by decide)
                        have hfb9 : fx M_238 b30 10 = (fx M b30 10) := congrFun hV.2.1 10
                        obtain ⟨n_265, hn9, hlt9, hV2⟩ := hVP
                        rw [hV.2.1] at hn9
                        rw [hV.2.1, hV.2.2.1] at hV2
                        have hn9 : (fx M b30 10) = (n_265 : Int) := hn9
                        have hV : VW K L M M_260 b30 (va_up (fx M b30) 10 ((n_265 + 1 : Nat) : Int)) (va_up (va_up (va_up (va_up (va_up (va_up (va_up (va_up (va_up (ax M b30) 19 (upd (ax M b30 19) (nI n_265).toNatClampNeg (nI j_256))) 20 (upd (ax M b30 20) (nI n_265).toNatClampNeg (nI j_254))) 21 (upd (ax M b30 21) (nI n_265).toNatClampNeg k4)) 22 (upd (ax M b30 22) (nI n_265).toNatClampNeg (-1))) 23 (upd (ax M b30 23) (nI n_265).toNatClampNeg 0)) 24 (upd (ax M b30 24) (nI n_265).toNatClampNeg 0)) 25 (upd (ax M b30 25) (nI n_265).toNatClampNeg (-1))) 26 (upd (ax M b30 26) (nI n_265).toNatClampNeg k5)) 9 (upd (ax M b30 9) (nI j_254).toNatClampNeg (nI (n_265 + 1)))) := hV.tr hV2
                        obtain ⟨j_266, rfl, c_267, c_268⟩ := hp_261
                        have hPc := hP.sub (ws' := [(za, (b13_0 0 z1 (nI z2) (nI z3) z4 z5 z6 z7 z8 z9 (nI 0) z11 z12 z13 z14 z15 (nI z16) z17 z18 z19))]) [0] rfl
                        have hDc := hD.sub (ws' := [(za, (b13_0 0 z1 (nI z2) (nI z3) z4 z5 z6 z7 z8 z9 (nI 0) z11 z12 z13 z14 z15 (nI z16) z17 z18 z19))]) [0] (by decide) rfl
                        have hKc := hK.sub (tys' := []) [] rfl
                        have hFc := va_free (wc := [(za, (b13_0 0 z1 (nI z2) (nI z3) z4 z5 z6 z7 z8 z9 (nI 0) z11 z12 z13 z14 z15 (nI z16) z17 z18 z19))]) hD hS hA [0] rfl
                        refine va_calli (va_runV (As := [.int (nI j_266)]) (rest := []) ⟨hx, hb, hml, hown, hg⟩ (m_done l D H_258.size za 0 z1 (nI z2) (nI z3) z4 z5 z6 z7 z8 z9 (nI 0) z11 z12 z13 z14 z15 (nI z16) z17 z18 z19 (nI j_266)) (cwV 1 hg (gV wd_730 wd_731 wd_732 wd_717 wd_733) rfl rfl rfl (by decide +kernel) ⟨(Nat.le_trans (Nat.le_of_ble_eq_true rfl) hRf), (Nat.le_trans (Nat.le_of_ble_eq_true rfl) hRl)⟩) ⟨Pr.blind, va_recv hK hP (ci := 13) (q0 := 0) rfl rfl, fun U hU hW => ⟨rfl, Pr.at hPc hKc hDc hN hU hW⟩⟩ rfl rfl hl.1 rfl (lv_room (Nat.le_of_ble_eq_true rfl)) dX13_join_226 ⟨(Nat.le_trans (Nat.le_of_ble_eq_true rfl) hRc), (Nat.le_trans (Nat.le_of_ble_eq_true rfl) hRs)⟩) hS (fun q _ h => hFc q h) hFc (fun r_270 M_271 t H_269 locs ht hvm hw hB hz1 hk1 hS => ?_)
                        have hp_272 := hw
                        obtain ⟨hP1, hK1, hD1⟩ := hB
                        rw [ht] at hP1
                        obtain ⟨hP, hD⟩ := va_joinQ (X := [(za, (b13_0 0 z1 (nI z2) (nI z3) z4 z5 z6 z7 z8 z9 (nI 0) z11 z12 z13 z14 z15 (nI z16) z17 z18 z19))]) (cx := [(za, (b13_0 0 z1 (nI z2) (nI z3) z4 z5 z6 z7 z8 z9 (nI 0) z11 z12 z13 z14 z15 (nI z16) z17 z18 z19))]) (wr := []) (w1 := [(za, (b13_0 0 z1 (nI z2) (nI z3) 0 (-1) z6 z7 z8 z9 (nI 0) z11 z12 z13 z14 z15 (nI z16) z17 z18 z19))]) (pl := va_pl L M_260) hP hD [0] [] rfl rfl (by decide) (by decide) hk1 hFc hP1 hD1
                        have hP : va_P D vwCl ([(za, (b13_0 0 z1 (nI z2) (nI z3) 0 (-1) z6 z7 z8 z9 (nI 0) z11 z12 z13 z14 z15 (nI z16) z17 z18 z19))] ++ va_pl L M_260) H_269 := hP
                        have hD : va_D A ([(za, (b13_0 0 z1 (nI z2) (nI z3) 0 (-1) z6 z7 z8 z9 (nI 0) z11 z12 z13 z14 z15 (nI z16) z17 z18 z19))] ++ va_pl L M_260) := hD
                        have hq := Eq.symm hp_272
                        subst hq
                        have hI_273 : ((v34 : Nat) : Int) ≤ ((v8w233 : Nat) : Int) := ileI (nI_toInt (by omega)) (nI_toInt (by omega)) c_241
                        have hI_274 : ((c_247 : Nat) : Int) ≠ (5 : Int) := ineI (nI_toInt (by omega)) rfl c_250
                        have hI_275 : ((v34 : Nat) : Int) ≠ (24 : Int) := ineI (nI_toInt (by omega)) rfl c_252
                        have hn91 : ((nI j_26) : Int32).toInt = ((j_26 : Nat) : Int) := nI_toInt (by omega)
                        have hn92 : ((nI j_254) : Int32).toInt = ((j_254 : Nat) : Int) := nI_toInt (by omega)
                        have hn93 : ((nI j_256) : Int32).toInt = ((j_256 : Nat) : Int) := nI_toInt (by omega)
                        have hNR : PK ((nI j_256) : Int32).toNatClampNeg = 5 → ¬ RCH (ownS PK PT SX SY) z2 (PT ((nI j_256) : Int32).toNatClampNeg).toNatClampNeg ((nI j_26) : Int32).toNatClampNeg := fun q => by rw [q, show (5 : Int32).toInt = 5 from rfl] at hPki; omega
                        have hPn5 : ¬ PK ((nI j_256) : Int32).toNatClampNeg = 5 := fun q => by rw [q, show (5 : Int32).toInt = 5 from rfl] at hPki; omega
                        have hncr : ¬ okCr z2 z3 PK PT SX SY (nI j_26) (nI j_254) (nI j_256) k4 := fun q9 => by unfold okCr okHS at q9; first | omega | (obtain ⟨⟨_, _, _, _⟩, ⟨_, _⟩, ⟨_, _⟩, _, _, _⟩ := q9; first | omega | contradiction)
                        have hyes : okJo z2 z3 PK PT SX SY (nI j_26) (nI j_254) (nI j_256) k4 := by unfold okJo okHS; refine ⟨⟨?_, ?_, ?_, ?_⟩, ⟨?_, ?_⟩, ⟨?_, ?_⟩, ?_, ?_, ?_⟩ <;> first | omega | assumption
                        have hA9 : HA (ax M b30 2) (ax M b30 3) := hAT.1
                        have hB9 : HB (fx M b30 16) (fx M b30 14) (ax M b30 3) (ax M b30 43) := hAT.2.1
                        have hC9 : HC ((n_265 + 1 : Nat) : Int) (upd (ax M b30 22) (nI n_265).toNatClampNeg (-1)) (upd (ax M b30 23) (nI n_265).toNatClampNeg 0) := HC.beg hAT.2.2.1 hn9 (by omega) (nI_cl (by omega))
                        have hD9 : HD (fx M b30 0) (fx M b30 11) (fx M b30 15) (ax M b30 34) (ax M b30 41) := hAT.2.2.2.1
                        have hE9 : HE (fx M b30 0) (fx M b30 1) (fx M b30 12) (fx M b30 13) (ax M b30 37) := hAT.2.2.2.2
                        have hH9 : HI (va_up (fx M b30) 10 ((n_265 + 1 : Nat) : Int)) (va_up (va_up (va_up (va_up (va_up (va_up (va_up (va_up (va_up (ax M b30) 19 (upd (ax M b30 19) (nI n_265).toNatClampNeg (nI j_256))) 20 (upd (ax M b30 20) (nI n_265).toNatClampNeg (nI j_254))) 21 (upd (ax M b30 21) (nI n_265).toNatClampNeg k4)) 22 (upd (ax M b30 22) (nI n_265).toNatClampNeg (-1))) 23 (upd (ax M b30 23) (nI n_265).toNatClampNeg 0)) 24 (upd (ax M b30 24) (nI n_265).toNatClampNeg 0)) 25 (upd (ax M b30 25) (nI n_265).toNatClampNeg (-1))) 26 (upd (ax M b30 26) (nI n_265).toNatClampNeg k5)) 9 (upd (ax M b30 9) (nI j_254).toNatClampNeg (nI (n_265 + 1)))) := ⟨hA9, hB9, hC9, hD9, hE9⟩
                        have hGI9 : GI K L z1 z2 M_260 := GI.fin hW0 i1 b2 hGI hact hV (hF.at i1 (by decide)) hH9
                        rw [hQ]
                        exact W.iret (v := (nI j_266)) hx hb hr (fun t ht hW9 => ⟨⟨(nI j_266), M_260, rfl, ⟨hW, hF, hG, ⟨hGI9, (by unfold sxJo syJo; rw [if_pos hyes, if_pos hyes]; exact ZSx.fin hW0 i1 b2 hZS hGI.1 hkn hb9 hV (hF.at i1 (by decide)) ((by rw [hZk.1, show ((n_265 + 1 : Nat) : Int) = SX ((nI j_26) : Int32).toNatClampNeg 10 + 1 by omega])) ((by unfold begY; rw [hZk.2, nI_cl (t := n_265) (by omega), show n_265 = (SX ((nI j_26) : Int32).toNatClampNeg 10).toNat by omega])))⟩, (by unfold anJo; rw [if_pos hyes]; exact congrArg nI (by omega))⟩, ⟨0, 0, (by omega), (by unfold ZGC caJo; rw [if_neg hncr]; exact fun i => if_neg (by omega)), by rw [ht]; exact hP, hD⟩⟩, hS.F ht⟩) hS.2.2 dX13_join_229
                      · have hz := rfl (a := 0)
                        have n_276 : v34 = 24 := (iEQ (a := v34) (b := 24) (by omega) (by omega)).mp c_252
                        refine lv_aload_n hx hb dX13_join_206 rfl (lv_at hl 3 rfl) ?_
                        refine lv_bipush (v := 9) hx hb dX13_join_207 (by decide) ?_
                        have hPc := hP.sub (ws' := [(za, (b13_0 0 z1 (nI z2) (nI z3) z4 z5 z6 z7 z8 z9 (nI 0) z11 z12 z13 z14 z15 (nI z16) z17 z18 z19))]) [0] rfl
                        have hDc := hD.sub (ws' := [(za, (b13_0 0 z1 (nI z2) (nI z3) z4 z5 z6 z7 z8 z9 (nI 0) z11 z12 z13 z14 z15 (nI z16) z17 z18 z19))]) [0] (by decide) rfl
                        have hKc := hK.sub (tys' := []) [] rfl
                        have hFc := va_free (wc := [(za, (b13_0 0 z1 (nI z2) (nI z3) z4 z5 z6 z7 z8 z9 (nI 0) z11 z12 z13 z14 z15 (nI z16) z17 z18 z19))]) hD hS hA [0] rfl
                        refine va_calli (va_runV (As := [.int 9]) (rest := []) ⟨hx, hb, hml, hown, hg⟩ (m_refused l D H_239.size za 0 z1 (nI z2) (nI z3) z4 z5 z6 z7 z8 z9 (nI 0) z11 z12 z13 z14 z15 (nI z16) z17 z18 z19 9) (cwV 1 hg (gV wd_725 wd_726 wd_727 wd_717 wd_728) rfl rfl rfl (by decide +kernel) ⟨(Nat.le_trans (Nat.le_of_ble_eq_true rfl) hRf), (Nat.le_trans (Nat.le_of_ble_eq_true rfl) hRl)⟩) ⟨Pr.blind, va_recv hK hP (ci := 13) (q0 := 0) rfl rfl, fun U hU hW => ⟨rfl, Pr.at hPc hKc hDc hN hU hW⟩⟩ rfl rfl hl.1 rfl (lv_room (Nat.le_of_ble_eq_true rfl)) dX13_join_209 ⟨(Nat.le_trans (Nat.le_of_ble_eq_true rfl) hRc), (Nat.le_trans (Nat.le_of_ble_eq_true rfl) hRs)⟩) hS (fun q _ h => hFc q h) hFc (fun r_278 M_279 t H_277 locs ht hvm hw hB hz1 hk1 hS => ?_)
                        have hp_280 := hw
                        obtain ⟨hP1, hK1, hD1⟩ := hB
                        rw [ht] at hP1
                        obtain ⟨hP, hD⟩ := va_joinQ (X := [(za, (b13_0 0 z1 (nI z2) (nI z3) z4 z5 z6 z7 z8 z9 (nI 0) z11 z12 z13 z14 z15 (nI z16) z17 z18 z19))]) (cx := [(za, (b13_0 0 z1 (nI z2) (nI z3) z4 z5 z6 z7 z8 z9 (nI 0) z11 z12 z13 z14 z15 (nI z16) z17 z18 z19))]) (wr := []) (w1 := [(za, (b13_0 0 z1 (nI z2) (nI z3) 9 (-1) z6 z7 z8 z9 (nI 0) z11 z12 z13 z14 z15 (nI z16) z17 z18 z19))]) (pl := va_pl L M_238) hP hD [0] [] rfl rfl (by decide) (by decide) hk1 hFc hP1 hD1
                        have hP : va_P D vwCl ([(za, (b13_0 0 z1 (nI z2) (nI z3) 9 (-1) z6 z7 z8 z9 (nI 0) z11 z12 z13 z14 z15 (nI z16) z17 z18 z19))] ++ va_pl L M_238) H_277 := hP
                        have hD : va_D A ([(za, (b13_0 0 z1 (nI z2) (nI z3) 9 (-1) z6 z7 z8 z9 (nI 0) z11 z12 z13 z14 z15 (nI z16) z17 z18 z19))] ++ va_pl L M_238) := hD
                        have hq := Eq.symm hp_280
                        subst hq
                        have hI_281 : ((v34 : Nat) : Int) ≤ ((v8w233 : Nat) : Int) := ileI (nI_toInt (by omega)) (nI_toInt (by omega)) c_241
                        have hI_282 : ((c_247 : Nat) : Int) ≠ (5 : Int) := ineI (nI_toInt (by omega)) rfl c_250
                        have hI_283 : ((v34 : Nat) : Int) = (24 : Int) := ieqI (nI_toInt (by omega)) rfl c_252
                        have hn91 : ((nI j_26) : Int32).toInt = ((j_26 : Nat) : Int) := nI_toInt (by omega)
                        have hPn5 : ¬ PK (k3 : Int32).toNatClampNeg = 5 := fun q => by rw [q, show (5 : Int32).toInt = 5 from rfl] at hPki; omega
                        have hncr : ¬ okCr z2 z3 PK PT SX SY (nI j_26) k2 k3 k4 := fun q9 => by unfold okCr okHS at q9; first | omega | (obtain ⟨⟨_, _, _, _⟩, ⟨_, _⟩, ⟨_, _⟩, _, _, _⟩ := q9; first | omega | contradiction)
                        have hno : ¬ okJo z2 z3 PK PT SX SY (nI j_26) k2 k3 k4 := fun q9 => by unfold okJo okHS at q9; first | omega | (obtain ⟨⟨_, _, _, _⟩, ⟨_, _⟩, ⟨_, _⟩, _, _, _⟩ := q9; first | omega | contradiction)
                        have hA9 : HA (ax M b30 2) (ax M b30 3) := hAT.1
                        have hB9 : HB (fx M b30 16) (fx M b30 14) (ax M b30 3) (ax M b30 43) := hAT.2.1
                        have hC9 : HC (fx M b30 10) (ax M b30 22) (ax M b30 23) := hAT.2.2.1
                        have hD9 : HD (fx M b30 0) (fx M b30 11) (fx M b30 15) (ax M b30 34) (ax M b30 41) := hAT.2.2.2.1
                        have hE9 : HE (fx M b30 0) (fx M b30 1) (fx M b30 12) (fx M b30 13) (ax M b30 37) := hAT.2.2.2.2
                        have hH9 : HI (fx M b30) (ax M b30) := ⟨hA9, hB9, hC9, hD9, hE9⟩
                        have hGI9 : GI K L z1 z2 M_238 := GI.fin hW0 i1 b2 hGI hact hV (hF.at i1 (by decide)) hH9
                        rw [hQ]
                        exact W.iret (v := (-1)) hx hb hr (fun t ht hW9 => ⟨⟨(-1), M_238, rfl, ⟨hW, hF, hG, ⟨hGI9, (by unfold sxJo syJo; rw [if_neg hno, if_neg hno]; have hQ9 := ZSx.fin hW0 i1 b2 hZS hGI.1 hkn hb9 hV (hF.at i1 (by decide)) hZk.1 hZk.2; rw [va_upJ, va_upJ] at hQ9; exact hQ9)⟩, (by unfold anJo; rw [if_neg hno])⟩, ⟨9, 0, (by omega), (by unfold ZGC caJo; rw [if_neg hncr]; exact fun i => if_neg (by omega)), by rw [ht]; exact hP, hD⟩⟩, hS.F ht⟩) hS.2.2 dX13_join_212
                    · have hz := rfl (a := 0)
                      have n_284 : c_247 = 5 := (iEQ (a := c_247) (b := 5) (by omega) (by omega)).mp c_250
                      refine lv_aload_n hx hb dX13_join_167 rfl (lv_at hl 3 rfl) ?_
                      refine lv_aload_n hx hb dX13_join_168 rfl (lv_at hl 3 rfl) ?_
                      refine lv_iload_n hx hb dX13_join_169 rfl (lv_at hl 4 rfl) ?_
                      refine lv_aload_n hx hb dX13_join_170 rfl (lv_at hl 3 rfl) ?_
                      refine va_get (D := D) (ci := 13) (v := .ref z7) (C := RX13) (T := TX13) (N := 20) hx hb hg inG13 hown hK hP 0 rfl rfl 7 (by decide) (hg _ wd_760) (fun _ h9 => h9) rfl dX13_join_171 ?_
                      refine lv_iload_n hx hb dX13_join_174 rfl (lv_at hl 6 rfl) ?_
                      obtain ⟨f285, hM285⟩ := hW.open_48 i7
                      refine pg_iald hx hb hK hP i7.1 0 hM285 rfl (inb k3 40 (by omega) c_14 n_25) dX13_join_175 ?_
                      refine lv_topi (fun f_286 ef_286 => ?_)
                      have hPt : PT (k3 : Int32).toNatClampNeg = f_286 := by
                        have h9 := ef_286.symm
                        rw [← (ZP.mv hZP i6 i7 hF (by decide) (by decide)).2, show IFc (M_238 z7) = f285 from by rw [hM285]; rfl]
                        exact h9
                      have hP5 : PK (k3 : Int32).toNatClampNeg = 5 := Int32.toInt.inj (by rw [hPki]; show _ = (5 : Int); omega)
                      have hcp3 : ((k3 : Int32).toNatClampNeg : Int) = (k3 : Int32).toInt := clT (by omega)
                      obtain ⟨j9, hj9, ej9⟩ := hR5 (k3 : Int32).toNatClampNeg (by omega) (by rw [hZP.1]; exact hP5)
                      rw [hZP.2, hPt] at ej9
                      have hf8 : 0 ≤ (f_286 : Int32).toInt ∧ (f_286 : Int32).toInt < 8 := by rw [ej9, nI_toInt (by omega)]; omega
                      have hZSw := ZSx.fin hW0 i1 b2 hZS hGI.1 hkn hb9 hV (hF.at i1 (by decide)) hZk.1 hZk.2
                      rw [va_upJ, va_upJ] at hZSw
                      have hZPw := ZP.mv hZP i6 i7 hF (by decide) (by decide)
                      have hWw := hW
                      have hPc : va_P D vwCl ([(za, (b13_0 0 z1 (nI z2) (nI z3) z4 z5 z6 z7 z8 z9 (nI 0) z11 z12 z13 z14 z15 (nI z16) z17 z18 z19))] ++ va_pl L M_238) H_239 := hP
                      have hDc : va_D A ([(za, (b13_0 0 z1 (nI z2) (nI z3) z4 z5 z6 z7 z8 z9 (nI 0) z11 z12 z13 z14 z15 (nI z16) z17 z18 z19))] ++ va_pl L M_238) := hD
                      have hFc : ∀ q, va_A ([(za, (b13_0 0 z1 (nI z2) (nI z3) z4 z5 z6 z7 z8 z9 (nI 0) z11 z12 z13 z14 z15 (nI z16) z17 z18 z19))] ++ va_pl L M_238) H_239.size q → A q := pg_free hDc hS hA
                      refine va_calli (va_runV (As := [.int (nI j_26), .int f_286]) (rest := [.ref za]) ⟨hx, hb, hml, hown, hg⟩ (z_way l D cy K L M_238 H_239.size za 0 z1 z2 z3 z4 z5 z6 z7 z8 z9 0 z11 z12 z13 z14 z15 z16 z17 z18 z19 j_26 f_286  hW i1 b2 b3 i6 i7 i8 i9 (by omega) i11 i12 i13 i14 i15 b16 i17 i19 (by omega) (by omega)) (cwV 2 hg (gV wd_891 wd_892 wd_893 wd_717 wd_894) rfl rfl rfl (by decide +kernel) ⟨(Nat.le_trans (Nat.le_of_ble_eq_true rfl) hRf), (Nat.le_trans (Nat.le_of_ble_eq_true rfl) hRl)⟩) ⟨PG.blind, va_recv hK hP (ci := 13) (q0 := 0) rfl rfl, fun U hU hW => ⟨rfl, PG.at hPc hK hDc hN hU hW⟩⟩ rfl rfl hl.1 rfl (lv_room (Nat.le_of_ble_eq_true rfl)) dX13_join_176 ⟨(Nat.le_trans (Nat.le_of_ble_eq_true rfl) hRc), (Nat.le_trans (Nat.le_of_ble_eq_true rfl) hRs)⟩) hS (fun q _ h => hFc q h) hFc (fun r_288 M_289 t H_287 locs ht hvm hw hB hz1 hk1 hS => ?_)
                      have hWb := hW
                      obtain ⟨hW, hF2, hVP, hp_290⟩ := hw
                      obtain ⟨hP1, hD1⟩ := hB
                      rw [ht] at hP1
                      have hP : va_P D vwCl ([(za, (b13_0 0 z1 (nI z2) (nI z3) z4 z5 z6 z7 z8 z9 (nI 0) z11 z12 z13 z14 z15 (nI z16) z17 z18 z19))] ++ va_pl L M_289) H_287 := hP1
                      have hD : va_D A ([(za, (b13_0 0 z1 (nI z2) (nI z3) z4 z5 z6 z7 z8 z9 (nI 0) z11 z12 z13 z14 z15 (nI z16) z17 z18 z19))] ++ va_pl L M_289) := hD1.mono hFc
                      have hM_291 : M_289 b30 = .inr (12, fs33) := (hF2.at hb_32 (by decide)).trans hM_240
                      have hM_292 : M_289 z6 = .inl (cy 14, 40, .inl (f244)) := (hF2.at i6 (by decide)).trans hM244
                      have hM_293 : M_289 z7 = .inl (cy 14, 40, .inl (f285)) := (hF2.at i7 (by decide)).trans hM285
                      have hF : fr K L [12, 14, 16, 30, 31, 33, 34, 41, 42, 49, 50, 75, 76] M M_289 := hF.tr hF2 (by decide)
                      have hG : fG K L [10] M M_289 := hG.frR hF2 (by decide)
                      have hV : VW K L M M_289 b30 (fx M b30) (ax M b30) := hV.cal hWb hW hF2 ((fG.rf (js := [])).frR hF2 (by decide)) (by decide) (by decide) hb_32
                      obtain ⟨j_294, rfl, c_295, c_296, c_297⟩ := hp_290
                      have hRC : 1 ≤ j_294 ↔ RCH (ownS PK PT SX SY) z2 (PT (k3 : Int32).toNatClampNeg).toNatClampNeg ((nI j_26) : Int32).toNatClampNeg := by rw [hPt, nI_cl (t := j_26) (by omega)]; exact c_296.trans (RCH.cg (fun x y hx hy => owW_S hWw i1 b2 hZSw hZPw (by omega) hy))
                      have hWY := hVP
                      have hcg : cirF (owW M_238 z1 z6 z7) z2 (f_286 : Int32).toNatClampNeg j_26 = cirF (ownS PK PT SX SY) z2 (PT (k3 : Int32).toNatClampNeg).toNatClampNeg ((nI j_26) : Int32).toNatClampNeg := by rw [hPt, nI_cl (t := j_26) (by omega)]; exact cirCg (fun x y hx hy => owW_S hWw i1 b2 hZSw hZPw (by omega) hy)
                      refine va_put (D := D) (ci := 13) (v := .int (nI j_294)) (ty := .int) (C := RX13) (T := TX13) (N := 20) hx hb hg inG13 tyX13 tyX13_ok nmX13 hown hK hP hD hS 0 rfl rfl 10 (by decide) (hg _ wd_723) (fun _ h9 => h9) rfl (by decide +kernel) rfl rfl (Nat.le_of_ble_eq_true rfl) dX13_join_179 (fun H_298 locs hP hD hS => ?_)
                      have hP : va_P D vwCl ([(za, (b13_0 0 z1 (nI z2) (nI z3) z4 z5 z6 z7 z8 z9 (nI j_294) z11 z12 z13 z14 z15 (nI z16) z17 z18 z19))] ++ va_pl L M_289) H_298 := hP
                      have hD : va_D A ([(za, (b13_0 0 z1 (nI z2) (nI z3) z4 z5 z6 z7 z8 z9 (nI j_294) z11 z12 z13 z14 z15 (nI z16) z17 z18 z19))] ++ va_pl L M_289) := hD
                      refine lv_aload_n hx hb dX13_join_182 rfl (lv_at hl 3 rfl) ?_
                      refine va_get (D := D) (ci := 13) (v := .int (nI j_294)) (C := RX13) (T := TX13) (N := 20) hx hb hg inG13 hown hK hP 0 rfl rfl 10 (by decide) (hg _ wd_723) (fun _ h9 => h9) rfl dX13_join_183 ?_
                      refine lv_if_le (tgt := 196) hx hb dX13_join_186 (by decide) (fun c_299 => ?_) (fun c_299 => ?_)
                      · have hz := rfl (a := 0)
                        have n_300 : j_294 ≤ 0 := (iLE (a := j_294) (b := 0) (by omega) (by omega)).mp c_299
                        refine lv_aload hx hb dX13_join_196 (lv_at hl 2 rfl) ?_
                        refine pg_getN (D := D) (ci := 12) (v := .int (nI v34)) (C := RX12) (T := TX12) (N := 51) hx hb hg inG12 hown hK hP hb_32.1 hM_291 rfl 10 (by decide) (hN.use (Cond.fieldLinkNest RX13 68 RX12 "tenures" "I" RX13) 19 rfl rfl) (fun _ h9 => h9) hv34 dX13_join_198 ?_
                        refine lv_bipush (v := 24) hx hb dX13_join_201 (by decide) ?_
                        refine lv_icmp_ne (tgt := 213) hx hb dX13_join_203 (by decide) (fun c_301 => ?_) (fun c_301 => ?_)
                        · have hz := rfl (a := 0)
                          have n_302 : ¬ (v34 = 24) := fun q => c_301 ((iEQ (a := v34) (b := 24) (by omega) (by omega)).mpr q)
                          refine lv_aload_n hx hb dX13_join_213 rfl (lv_at hl 3 rfl) ?_
                          refine lv_aload_n hx hb dX13_join_214 rfl (lv_at hl 3 rfl) ?_
                          refine lv_aload hx hb dX13_join_215 (lv_at hl 2 rfl) ?_
                          refine lv_iload_n hx hb dX13_join_217 rfl (lv_at hl 5 rfl) ?_
                          refine lv_iload_n hx hb dX13_join_218 rfl (lv_at hl 6 rfl) ?_
                          refine lv_iload hx hb dX13_join_219 (lv_at hl 7 rfl) ?_
                          refine lv_iload hx hb dX13_join_221 (lv_at hl 8 rfl) ?_
                          obtain ⟨j_303, hj_304, rfl⟩ := i32nat 6 (by decide) c_10 c_11
                          obtain ⟨j_305, hj_306, rfl⟩ := i32nat 40 (by decide) c_14 n_25
                          have hPc : va_P D vwCl ([(za, (b13_0 0 z1 (nI z2) (nI z3) z4 z5 z6 z7 z8 z9 (nI j_294) z11 z12 z13 z14 z15 (nI z16) z17 z18 z19))] ++ va_pl L M_289) H_298 := hP
                          have hDc : va_D A ([(za, (b13_0 0 z1 (nI z2) (nI z3) z4 z5 z6 z7 z8 z9 (nI j_294) z11 z12 z13 z14 z15 (nI z16) z17 z18 z19))] ++ va_pl L M_289) := hD
                          have hFc : ∀ q, va_A ([(za, (b13_0 0 z1 (nI z2) (nI z3) z4 z5 z6 z7 z8 z9 (nI j_294) z11 z12 z13 z14 z15 (nI z16) z17 z18 z19))] ++ va_pl L M_289) H_298.size q → A q := pg_free hDc hS hA
                          refine va_calli (va_runV (As := [.ref b30, .int (nI j_303), .int (nI j_305), .int k4, .int k5]) (rest := [.ref za]) ⟨hx, hb, hml, hown, hg⟩ (z_begins l D cy K L M_289 H_298.size za 0 z1 z2 z3 z4 z5 z6 z7 z8 z9 j_294 z11 z12 z13 z14 z15 z16 z17 z18 z19 b30 j_303 j_305 k4 k5  hW i1 b2 b3 i6 i7 i8 i9 c_295 i11 i12 i13 i14 i15 b16 i17 i19 hb_32 (by omega) (by omega) zk5 ⟨_, _, hM_291, hv34, by omega⟩ hV.2.2.2) (cwV 5 hg (gV wd_832 wd_833 wd_834 wd_717 wd_835) rfl rfl rfl (by decide +kernel) ⟨(Nat.le_trans (Nat.le_of_ble_eq_true rfl) hRf), (Nat.le_trans (Nat.le_of_ble_eq_true rfl) hRl)⟩) ⟨PG.blind, va_recv hK hP (ci := 13) (q0 := 0) rfl rfl, fun U hU hW => ⟨rfl, PG.at hPc hK hDc hN hU hW⟩⟩ rfl rfl hl.1 rfl (lv_room (Nat.le_of_ble_eq_true rfl)) dX13_join_223 ⟨(Nat.le_trans (Nat.le_of_ble_eq_true rfl) hRc), (Nat.le_trans (Nat.le_of_ble_eq_true rfl) hRs)⟩) hS (fun q _ h => hFc q h) hFc (fun r_308 M_309 t H_307 locs ht hvm hw hB hz1 hk1 hS => ?_)
                          have hWb := hW
                          obtain ⟨hW, hF2, hG2, hVP, hp_310⟩ := hw
                          obtain ⟨hP1, hD1⟩ := hB
                          rw [ht] at hP1
                          have hP : va_P D vwCl ([(za, (b13_0 0 z1 (nI z2) (nI z3) z4 z5 z6 z7 z8 z9 (nI j_294) z11 z12 z13 z14 z15 (nI z16) z17 z18 z19))] ++ va_pl L M_309) H_307 := hP1
                          have hD : va_D A ([(za, (b13_0 0 z1 (nI z2) (nI z3) z4 z5 z6 z7 z8 z9 (nI j_294) z11 z12 z13 z14 z15 (nI z16) z17 z18 z19))] ++ va_pl L M_309) := hD1.mono hFc
                          obtain ⟨fs311, hM311, hn311, hl311⟩ := hW.open_12 hb_32
                          have hv_312 : fs311[9]? = some (.ref v44 : Value) := (hG2 _ hb_32 _ _ hM_291 hM311 9 (by decide)).trans hv44
                          have hM_313 : M_309 z6 = .inl (cy 14, 40, .inl (f244)) := (hF2.at i6 (by decide)).trans hM_292
                          have hM_314 : M_309 z7 = .inl (cy 14, 40, .inl (f285)) := (hF2.at i7 (by decide)).trans hM_293
                          have hF : fr K L [12, 14, 16, 30, 31, 33, 34, 41, 42, 49, 50, 75, 76] M M_309 := hF.tr hF2 (by decide)
                          have hG : fG K L [10] M M_309 := hG.tr hWb hG2 (by decide)
                          have hfb9 : fx M_289 b30 10 = (fx M b30 10) := congrFun hV.2.1 10
                          obtain ⟨n_315, hn9, hlt9, hV2⟩ := hVP
                          rw [hV.2.1] at hn9
                          rw [hV.2.1, hV.2.2.1] at hV2
                          have hn9 : (fx M b30 10) = (n_315 : Int) := hn9
                          have hV : VW K L M M_309 b30 (va_up (fx M b30) 10 ((n_315 + 1 : Nat) : Int)) (va_up (va_up (va_up (va_up (va_up (va_up (va_up (va_up (va_up (ax M b30) 19 (upd (ax M b30 19) (nI n_315).toNatClampNeg (nI j_305))) 20 (upd (ax M b30 20) (nI n_315).toNatClampNeg (nI j_303))) 21 (upd (ax M b30 21) (nI n_315).toNatClampNeg k4)) 22 (upd (ax M b30 22) (nI n_315).toNatClampNeg (-1))) 23 (upd (ax M b30 23) (nI n_315).toNatClampNeg 0)) 24 (upd (ax M b30 24) (nI n_315).toNatClampNeg 0)) 25 (upd (ax M b30 25) (nI n_315).toNatClampNeg (-1))) 26 (upd (ax M b30 26) (nI n_315).toNatClampNeg k5)) 9 (upd (ax M b30 9) (nI j_303).toNatClampNeg (nI (n_315 + 1)))) := hV.tr hV2
                          obtain ⟨j_316, rfl, c_317, c_318⟩ := hp_310
                          have hPc := hP.sub (ws' := [(za, (b13_0 0 z1 (nI z2) (nI z3) z4 z5 z6 z7 z8 z9 (nI j_294) z11 z12 z13 z14 z15 (nI z16) z17 z18 z19))]) [0] rfl
                          have hDc := hD.sub (ws' := [(za, (b13_0 0 z1 (nI z2) (nI z3) z4 z5 z6 z7 z8 z9 (nI j_294) z11 z12 z13 z14 z15 (nI z16) z17 z18 z19))]) [0] (by decide) rfl
                          have hKc := hK.sub (tys' := []) [] rfl
                          have hFc := va_free (wc := [(za, (b13_0 0 z1 (nI z2) (nI z3) z4 z5 z6 z7 z8 z9 (nI j_294) z11 z12 z13 z14 z15 (nI z16) z17 z18 z19))]) hD hS hA [0] rfl
                          refine va_calli (va_runV (As := [.int (nI j_316)]) (rest := []) ⟨hx, hb, hml, hown, hg⟩ (m_done l D H_307.size za 0 z1 (nI z2) (nI z3) z4 z5 z6 z7 z8 z9 (nI j_294) z11 z12 z13 z14 z15 (nI z16) z17 z18 z19 (nI j_316)) (cwV 1 hg (gV wd_730 wd_731 wd_732 wd_717 wd_733) rfl rfl rfl (by decide +kernel) ⟨(Nat.le_trans (Nat.le_of_ble_eq_true rfl) hRf), (Nat.le_trans (Nat.le_of_ble_eq_true rfl) hRl)⟩) ⟨Pr.blind, va_recv hK hP (ci := 13) (q0 := 0) rfl rfl, fun U hU hW => ⟨rfl, Pr.at hPc hKc hDc hN hU hW⟩⟩ rfl rfl hl.1 rfl (lv_room (Nat.le_of_ble_eq_true rfl)) dX13_join_226 ⟨(Nat.le_trans (Nat.le_of_ble_eq_true rfl) hRc), (Nat.le_trans (Nat.le_of_ble_eq_true rfl) hRs)⟩) hS (fun q _ h => hFc q h) hFc (fun r_320 M_321 t H_319 locs ht hvm hw hB hz1 hk1 hS => ?_)
                          have hp_322 := hw
                          obtain ⟨hP1, hK1, hD1⟩ := hB
                          rw [ht] at hP1
                          obtain ⟨hP, hD⟩ := va_joinQ (X := [(za, (b13_0 0 z1 (nI z2) (nI z3) z4 z5 z6 z7 z8 z9 (nI j_294) z11 z12 z13 z14 z15 (nI z16) z17 z18 z19))]) (cx := [(za, (b13_0 0 z1 (nI z2) (nI z3) z4 z5 z6 z7 z8 z9 (nI j_294) z11 z12 z13 z14 z15 (nI z16) z17 z18 z19))]) (wr := []) (w1 := [(za, (b13_0 0 z1 (nI z2) (nI z3) 0 (-1) z6 z7 z8 z9 (nI j_294) z11 z12 z13 z14 z15 (nI z16) z17 z18 z19))]) (pl := va_pl L M_309) hP hD [0] [] rfl rfl (by decide) (by decide) hk1 hFc hP1 hD1
                          have hP : va_P D vwCl ([(za, (b13_0 0 z1 (nI z2) (nI z3) 0 (-1) z6 z7 z8 z9 (nI j_294) z11 z12 z13 z14 z15 (nI z16) z17 z18 z19))] ++ va_pl L M_309) H_319 := hP
                          have hD : va_D A ([(za, (b13_0 0 z1 (nI z2) (nI z3) 0 (-1) z6 z7 z8 z9 (nI j_294) z11 z12 z13 z14 z15 (nI z16) z17 z18 z19))] ++ va_pl L M_309) := hD
                          have hq := Eq.symm hp_322
                          subst hq
                          have hI_323 : ((v34 : Nat) : Int) ≤ ((v8w233 : Nat) : Int) := ileI (nI_toInt (by omega)) (nI_toInt (by omega)) c_241
                          have hI_324 : ((c_247 : Nat) : Int) = (5 : Int) := ieqI (nI_toInt (by omega)) rfl c_250
                          have hI_325 : ((j_294 : Nat) : Int) ≤ (0 : Int) := ileI (nI_toInt (by omega)) rfl c_299
                          have hI_326 : ((v34 : Nat) : Int) ≠ (24 : Int) := ineI (nI_toInt (by omega)) rfl c_301
                          have hn91 : ((nI j_26) : Int32).toInt = ((j_26 : Nat) : Int) := nI_toInt (by omega)
                          have hn92 : ((nI j_303) : Int32).toInt = ((j_303 : Nat) : Int) := nI_toInt (by omega)
                          have hn93 : ((nI j_305) : Int32).toInt = ((j_305 : Nat) : Int) := nI_toInt (by omega)
                          have hRCn : j_294 = 0 → ¬ RCH (ownS PK PT SX SY) z2 (PT ((nI j_305) : Int32).toNatClampNeg).toNatClampNeg ((nI j_26) : Int32).toNatClampNeg := fun q q2 => by have := hRC.mpr q2; omega
                          have hNR : PK ((nI j_305) : Int32).toNatClampNeg = 5 → ¬ RCH (ownS PK PT SX SY) z2 (PT ((nI j_305) : Int32).toNatClampNeg).toNatClampNeg ((nI j_26) : Int32).toNatClampNeg := fun _ => hRCn (by omega)
                          have hNRr := hRCn (by omega)
                          have hncr : ¬ okCr z2 z3 PK PT SX SY (nI j_26) (nI j_303) (nI j_305) k4 := fun q9 => by unfold okCr okHS at q9; first | omega | (obtain ⟨⟨_, _, _, _⟩, ⟨_, _⟩, ⟨_, _⟩, _, _, _⟩ := q9; first | omega | contradiction)
                          have hyes : okJo z2 z3 PK PT SX SY (nI j_26) (nI j_303) (nI j_305) k4 := by unfold okJo okHS; refine ⟨⟨?_, ?_, ?_, ?_⟩, ⟨?_, ?_⟩, ⟨?_, ?_⟩, ?_, ?_, ?_⟩ <;> first | omega | assumption
                          have hA9 : HA (ax M b30 2) (ax M b30 3) := hAT.1
                          have hB9 : HB (fx M b30 16) (fx M b30 14) (ax M b30 3) (ax M b30 43) := hAT.2.1
                          have hC9 : HC ((n_315 + 1 : Nat) : Int) (upd (ax M b30 22) (nI n_315).toNatClampNeg (-1)) (upd (ax M b30 23) (nI n_315).toNatClampNeg 0) := HC.beg hAT.2.2.1 hn9 (by omega) (nI_cl (by omega))
                          have hD9 : HD (fx M b30 0) (fx M b30 11) (fx M b30 15) (ax M b30 34) (ax M b30 41) := hAT.2.2.2.1
                          have hE9 : HE (fx M b30 0) (fx M b30 1) (fx M b30 12) (fx M b30 13) (ax M b30 37) := hAT.2.2.2.2
                          have hH9 : HI (va_up (fx M b30) 10 ((n_315 + 1 : Nat) : Int)) (va_up (va_up (va_up (va_up (va_up (va_up (va_up (va_up (va_up (ax M b30) 19 (upd (ax M b30 19) (nI n_315).toNatClampNeg (nI j_305))) 20 (upd (ax M b30 20) (nI n_315).toNatClampNeg (nI j_303))) 21 (upd (ax M b30 21) (nI n_315).toNatClampNeg k4)) 22 (upd (ax M b30 22) (nI n_315).toNatClampNeg (-1))) 23 (upd (ax M b30 23) (nI n_315).toNatClampNeg 0)) 24 (upd (ax M b30 24) (nI n_315).toNatClampNeg 0)) 25 (upd (ax M b30 25) (nI n_315).toNatClampNeg (-1))) 26 (upd (ax M b30 26) (nI n_315).toNatClampNeg k5)) 9 (upd (ax M b30 9) (nI j_303).toNatClampNeg (nI (n_315 + 1)))) := ⟨hA9, hB9, hC9, hD9, hE9⟩
                          have hGI9 : GI K L z1 z2 M_309 := GI.fin hW0 i1 b2 hGI hact hV (hF.at i1 (by decide)) hH9
                          rw [hQ]
                          exact W.iret (v := (nI j_316)) hx hb hr (fun t ht hW9 => ⟨⟨(nI j_316), M_309, rfl, ⟨hW, hF, hG, ⟨hGI9, (by unfold sxJo syJo; rw [if_pos hyes, if_pos hyes]; exact ZSx.fin hW0 i1 b2 hZS hGI.1 hkn hb9 hV (hF.at i1 (by decide)) ((by rw [hZk.1, show ((n_315 + 1 : Nat) : Int) = SX ((nI j_26) : Int32).toNatClampNeg 10 + 1 by omega])) ((by unfold begY; rw [hZk.2, nI_cl (t := n_315) (by omega), show n_315 = (SX ((nI j_26) : Int32).toNatClampNeg 10).toNat by omega])))⟩, (by unfold anJo; rw [if_pos hyes]; exact congrArg nI (by omega))⟩, ⟨0, j_294, (by omega), (by unfold ZGC caJo; rw [if_neg hncr]; exact fun i => if_neg (by omega)), by rw [ht]; exact hP, hD⟩⟩, hS.F ht⟩) hS.2.2 dX13_join_229
                        · have hz := rfl (a := 0)
                          have n_327 : v34 = 24 := (iEQ (a := v34) (b := 24) (by omega) (by omega)).mp c_301
                          refine lv_aload_n hx hb dX13_join_206 rfl (lv_at hl 3 rfl) ?_
                          refine lv_bipush (v := 9) hx hb dX13_join_207 (by decide) ?_
                          have hPc := hP.sub (ws' := [(za, (b13_0 0 z1 (nI z2) (nI z3) z4 z5 z6 z7 z8 z9 (nI j_294) z11 z12 z13 z14 z15 (nI z16) z17 z18 z19))]) [0] rfl
                          have hDc := hD.sub (ws' := [(za, (b13_0 0 z1 (nI z2) (nI z3) z4 z5 z6 z7 z8 z9 (nI j_294) z11 z12 z13 z14 z15 (nI z16) z17 z18 z19))]) [0] (by decide) rfl
                          have hKc := hK.sub (tys' := []) [] rfl
                          have hFc := va_free (wc := [(za, (b13_0 0 z1 (nI z2) (nI z3) z4 z5 z6 z7 z8 z9 (nI j_294) z11 z12 z13 z14 z15 (nI z16) z17 z18 z19))]) hD hS hA [0] rfl
                          refine va_calli (va_runV (As := [.int 9]) (rest := []) ⟨hx, hb, hml, hown, hg⟩ (m_refused l D H_298.size za 0 z1 (nI z2) (nI z3) z4 z5 z6 z7 z8 z9 (nI j_294) z11 z12 z13 z14 z15 (nI z16) z17 z18 z19 9) (cwV 1 hg (gV wd_725 wd_726 wd_727 wd_717 wd_728) rfl rfl rfl (by decide +kernel) ⟨(Nat.le_trans (Nat.le_of_ble_eq_true rfl) hRf), (Nat.le_trans (Nat.le_of_ble_eq_true rfl) hRl)⟩) ⟨Pr.blind, va_recv hK hP (ci := 13) (q0 := 0) rfl rfl, fun U hU hW => ⟨rfl, Pr.at hPc hKc hDc hN hU hW⟩⟩ rfl rfl hl.1 rfl (lv_room (Nat.le_of_ble_eq_true rfl)) dX13_join_209 ⟨(Nat.le_trans (Nat.le_of_ble_eq_true rfl) hRc), (Nat.le_trans (Nat.le_of_ble_eq_true rfl) hRs)⟩) hS (fun q _ h => hFc q h) hFc (fun r_329 M_330 t H_328 locs ht hvm hw hB hz1 hk1 hS => ?_)
                          have hp_331 := hw
                          obtain ⟨hP1, hK1, hD1⟩ := hB
                          rw [ht] at hP1
                          obtain ⟨hP, hD⟩ := va_joinQ (X := [(za, (b13_0 0 z1 (nI z2) (nI z3) z4 z5 z6 z7 z8 z9 (nI j_294) z11 z12 z13 z14 z15 (nI z16) z17 z18 z19))]) (cx := [(za, (b13_0 0 z1 (nI z2) (nI z3) z4 z5 z6 z7 z8 z9 (nI j_294) z11 z12 z13 z14 z15 (nI z16) z17 z18 z19))]) (wr := []) (w1 := [(za, (b13_0 0 z1 (nI z2) (nI z3) 9 (-1) z6 z7 z8 z9 (nI j_294) z11 z12 z13 z14 z15 (nI z16) z17 z18 z19))]) (pl := va_pl L M_289) hP hD [0] [] rfl rfl (by decide) (by decide) hk1 hFc hP1 hD1
                          have hP : va_P D vwCl ([(za, (b13_0 0 z1 (nI z2) (nI z3) 9 (-1) z6 z7 z8 z9 (nI j_294) z11 z12 z13 z14 z15 (nI z16) z17 z18 z19))] ++ va_pl L M_289) H_328 := hP
                          have hD : va_D A ([(za, (b13_0 0 z1 (nI z2) (nI z3) 9 (-1) z6 z7 z8 z9 (nI j_294) z11 z12 z13 z14 z15 (nI z16) z17 z18 z19))] ++ va_pl L M_289) := hD
                          have hq := Eq.symm hp_331
                          subst hq
                          have hI_332 : ((v34 : Nat) : Int) ≤ ((v8w233 : Nat) : Int) := ileI (nI_toInt (by omega)) (nI_toInt (by omega)) c_241
                          have hI_333 : ((c_247 : Nat) : Int) = (5 : Int) := ieqI (nI_toInt (by omega)) rfl c_250
                          have hI_334 : ((j_294 : Nat) : Int) ≤ (0 : Int) := ileI (nI_toInt (by omega)) rfl c_299
                          have hI_335 : ((v34 : Nat) : Int) = (24 : Int) := ieqI (nI_toInt (by omega)) rfl c_301
                          have hn91 : ((nI j_26) : Int32).toInt = ((j_26 : Nat) : Int) := nI_toInt (by omega)
                          have hRCn : j_294 = 0 → ¬ RCH (ownS PK PT SX SY) z2 (PT (k3 : Int32).toNatClampNeg).toNatClampNeg ((nI j_26) : Int32).toNatClampNeg := fun q q2 => by have := hRC.mpr q2; omega
                          have hNR : PK (k3 : Int32).toNatClampNeg = 5 → ¬ RCH (ownS PK PT SX SY) z2 (PT (k3 : Int32).toNatClampNeg).toNatClampNeg ((nI j_26) : Int32).toNatClampNeg := fun _ => hRCn (by omega)
                          have hNRr := hRCn (by omega)
                          have hncr : ¬ okCr z2 z3 PK PT SX SY (nI j_26) k2 k3 k4 := fun q9 => by unfold okCr okHS at q9; first | omega | (obtain ⟨⟨_, _, _, _⟩, ⟨_, _⟩, ⟨_, _⟩, _, _, _⟩ := q9; first | omega | contradiction)
                          have hno : ¬ okJo z2 z3 PK PT SX SY (nI j_26) k2 k3 k4 := fun q9 => by unfold okJo okHS at q9; first | omega | (obtain ⟨⟨_, _, _, _⟩, ⟨_, _⟩, ⟨_, _⟩, _, _, _⟩ := q9; first | omega | contradiction)
                          have hA9 : HA (ax M b30 2) (ax M b30 3) := hAT.1
                          have hB9 : HB (fx M b30 16) (fx M b30 14) (ax M b30 3) (ax M b30 43) := hAT.2.1
                          have hC9 : HC (fx M b30 10) (ax M b30 22) (ax M b30 23) := hAT.2.2.1
                          have hD9 : HD (fx M b30 0) (fx M b30 11) (fx M b30 15) (ax M b30 34) (ax M b30 41) := hAT.2.2.2.1
                          have hE9 : HE (fx M b30 0) (fx M b30 1) (fx M b30 12) (fx M b30 13) (ax M b30 37) := hAT.2.2.2.2
                          have hH9 : HI (fx M b30) (ax M b30) := ⟨hA9, hB9, hC9, hD9, hE9⟩
                          have hGI9 : GI K L z1 z2 M_289 := GI.fin hW0 i1 b2 hGI hact hV (hF.at i1 (by decide)) hH9
                          rw [hQ]
                          exact W.iret (v := (-1)) hx hb hr (fun t ht hW9 => ⟨⟨(-1), M_289, rfl, ⟨hW, hF, hG, ⟨hGI9, (by unfold sxJo syJo; rw [if_neg hno, if_neg hno]; have hQ9 := ZSx.fin hW0 i1 b2 hZS hGI.1 hkn hb9 hV (hF.at i1 (by decide)) hZk.1 hZk.2; rw [va_upJ, va_upJ] at hQ9; exact hQ9)⟩, (by unfold anJo; rw [if_neg hno])⟩, ⟨9, j_294, (by omega), (by unfold ZGC caJo; rw [if_neg hncr]; exact fun i => if_neg (by omega)), by rw [ht]; exact hP, hD⟩⟩, hS.F ht⟩) hS.2.2 dX13_join_212
                      · have hz := rfl (a := 0)
                        have n_336 : ¬ (j_294 ≤ 0) := fun q => c_299 ((iLE (a := j_294) (b := 0) (by omega) (by omega)).mpr q)
                        refine lv_aload_n hx hb dX13_join_189 rfl (lv_at hl 3 rfl) ?_
                        refine lv_bipush (v := 8) hx hb dX13_join_190 (by decide) ?_
                        have hPc := hP.sub (ws' := [(za, (b13_0 0 z1 (nI z2) (nI z3) z4 z5 z6 z7 z8 z9 (nI j_294) z11 z12 z13 z14 z15 (nI z16) z17 z18 z19))]) [0] rfl
                        have hDc := hD.sub (ws' := [(za, (b13_0 0 z1 (nI z2) (nI z3) z4 z5 z6 z7 z8 z9 (nI j_294) z11 z12 z13 z14 z15 (nI z16) z17 z18 z19))]) [0] (by decide) rfl
                        have hKc := hK.sub (tys' := []) [] rfl
                        have hFc := va_free (wc := [(za, (b13_0 0 z1 (nI z2) (nI z3) z4 z5 z6 z7 z8 z9 (nI j_294) z11 z12 z13 z14 z15 (nI z16) z17 z18 z19))]) hD hS hA [0] rfl
                        refine va_calli (va_runV (As := [.int 8]) (rest := []) ⟨hx, hb, hml, hown, hg⟩ (m_refused l D H_298.size za 0 z1 (nI z2) (nI z3) z4 z5 z6 z7 z8 z9 (nI j_294) z11 z12 z13 z14 z15 (nI z16) z17 z18 z19 8) (cwV 1 hg (gV wd_725 wd_726 wd_727 wd_717 wd_728) rfl rfl rfl (by decide +kernel) ⟨(Nat.le_trans (Nat.le_of_ble_eq_true rfl) hRf), (Nat.le_trans (Nat.le_of_ble_eq_true rfl) hRl)⟩) ⟨Pr.blind, va_recv hK hP (ci := 13) (q0 := 0) rfl rfl, fun U hU hW => ⟨rfl, Pr.at hPc hKc hDc hN hU hW⟩⟩ rfl rfl hl.1 rfl (lv_room (Nat.le_of_ble_eq_true rfl)) dX13_join_192 ⟨(Nat.le_trans (Nat.le_of_ble_eq_true rfl) hRc), (Nat.le_trans (Nat.le_of_ble_eq_true rfl) hRs)⟩) hS (fun q _ h => hFc q h) hFc (fun r_338 M_339 t H_337 locs ht hvm hw hB hz1 hk1 hS => ?_)
                        have hp_340 := hw
                        obtain ⟨hP1, hK1, hD1⟩ := hB
                        rw [ht] at hP1
                        obtain ⟨hP, hD⟩ := va_joinQ (X := [(za, (b13_0 0 z1 (nI z2) (nI z3) z4 z5 z6 z7 z8 z9 (nI j_294) z11 z12 z13 z14 z15 (nI z16) z17 z18 z19))]) (cx := [(za, (b13_0 0 z1 (nI z2) (nI z3) z4 z5 z6 z7 z8 z9 (nI j_294) z11 z12 z13 z14 z15 (nI z16) z17 z18 z19))]) (wr := []) (w1 := [(za, (b13_0 0 z1 (nI z2) (nI z3) 8 (-1) z6 z7 z8 z9 (nI j_294) z11 z12 z13 z14 z15 (nI z16) z17 z18 z19))]) (pl := va_pl L M_289) hP hD [0] [] rfl rfl (by decide) (by decide) hk1 hFc hP1 hD1
                        have hP : va_P D vwCl ([(za, (b13_0 0 z1 (nI z2) (nI z3) 8 (-1) z6 z7 z8 z9 (nI j_294) z11 z12 z13 z14 z15 (nI z16) z17 z18 z19))] ++ va_pl L M_289) H_337 := hP
                        have hD : va_D A ([(za, (b13_0 0 z1 (nI z2) (nI z3) 8 (-1) z6 z7 z8 z9 (nI j_294) z11 z12 z13 z14 z15 (nI z16) z17 z18 z19))] ++ va_pl L M_289) := hD
                        have hq := Eq.symm hp_340
                        subst hq
                        have hI_341 : ((v34 : Nat) : Int) ≤ ((v8w233 : Nat) : Int) := ileI (nI_toInt (by omega)) (nI_toInt (by omega)) c_241
                        have hI_342 : ((c_247 : Nat) : Int) = (5 : Int) := ieqI (nI_toInt (by omega)) rfl c_250
                        have hI_343 : (0 : Int) < ((j_294 : Nat) : Int) := inleI (nI_toInt (by omega)) rfl c_299
                        have hn91 : ((nI j_26) : Int32).toInt = ((j_26 : Nat) : Int) := nI_toInt (by omega)
                        have hRCn : j_294 = 0 → ¬ RCH (ownS PK PT SX SY) z2 (PT (k3 : Int32).toNatClampNeg).toNatClampNeg ((nI j_26) : Int32).toNatClampNeg := fun q q2 => by have := hRC.mpr q2; omega
                        have hRY := hRC.mp (by omega)
                        have hRCx : ¬ (PK (k3 : Int32).toNatClampNeg = 5 → ¬ RCH (ownS PK PT SX SY) z2 (PT (k3 : Int32).toNatClampNeg).toNatClampNeg ((nI j_26) : Int32).toNatClampNeg) := fun q => q hP5 hRY
                        have hcr : okCr z2 z3 PK PT SX SY (nI j_26) k2 k3 k4 := by unfold okCr okHS; refine ⟨⟨?_, ?_, ?_, ?_⟩, ⟨?_, ?_⟩, ⟨?_, ?_⟩, ?_, ?_, ?_⟩ <;> first | omega | assumption
                        have hno : ¬ okJo z2 z3 PK PT SX SY (nI j_26) k2 k3 k4 := fun q9 => by unfold okJo okHS at q9; first | omega | (obtain ⟨⟨_, _, _, _⟩, ⟨_, _⟩, ⟨_, _⟩, _, _, _⟩ := q9; first | omega | contradiction)
                        have hjd := c_297 (by omega)
                        have hA9 : HA (ax M b30 2) (ax M b30 3) := hAT.1
                        have hB9 : HB (fx M b30 16) (fx M b30 14) (ax M b30 3) (ax M b30 43) := hAT.2.1
                        have hC9 : HC (fx M b30 10) (ax M b30 22) (ax M b30 23) := hAT.2.2.1
                        have hD9 : HD (fx M b30 0) (fx M b30 11) (fx M b30 15) (ax M b30 34) (ax M b30 41) := hAT.2.2.2.1
                        have hE9 : HE (fx M b30 0) (fx M b30 1) (fx M b30 12) (fx M b30 13) (ax M b30 37) := hAT.2.2.2.2
                        have hH9 : HI (fx M b30) (ax M b30) := ⟨hA9, hB9, hC9, hD9, hE9⟩
                        have hGI9 : GI K L z1 z2 M_289 := GI.fin hW0 i1 b2 hGI hact hV (hF.at i1 (by decide)) hH9
                        rw [hQ]
                        exact W.iret (v := (-1)) hx hb hr (fun t ht hW9 => ⟨⟨(-1), M_289, rfl, ⟨hW, hF, hG, ⟨hGI9, (by unfold sxJo syJo; rw [if_neg hno, if_neg hno]; have hQ9 := ZSx.fin hW0 i1 b2 hZS hGI.1 hkn hb9 hV (hF.at i1 (by decide)) hZk.1 hZk.2; rw [va_upJ, va_upJ] at hQ9; exact hQ9)⟩, (by unfold anJo; rw [if_neg hno])⟩, ⟨8, j_294, (by omega), (by unfold ZGC caJo; rw [if_pos hcr]; intro i; rw [← hcg]; unfold cirF; by_cases z9 : i < j_294; rw [if_pos z9, if_pos (by omega)]; exact hWY (c_296.mp (by omega)) i (by omega); rw [if_neg z9, if_neg (by omega)]), by rw [ht]; exact hP, hD⟩⟩, hS.F ht⟩) hS.2.2 dX13_join_195
                  · have hz := rfl (a := 0)
                    have n_344 : ¬ (v34 ≤ v8w233) := fun q => c_241 ((iLE (a := v34) (b := v8w233) (by omega) (by omega)).mpr q)
                    refine lv_iload hx hb dX13_join_91 (lv_at hl 1 rfl) ?_
                    refine lv_if_ne (tgt := 133) hx hb dX13_join_93 (by decide) (fun c_345 => absurd c_345 (by decide)) (fun _ => ?_)
                    refine lv_aload hx hb dX13_join_96 (lv_at hl 2 rfl) ?_
                    obtain ⟨v346, hv346, hc346⟩ : ∃ v : Nat, fs33[20]? = some (.ref v : Value) ∧ isk K L v 31 24 := hl33 20 (by decide)
                    refine pg_getN (D := D) (ci := 12) (v := .ref v346) (C := RX12) (T := TX12) (N := 51) hx hb hg inG12 hown hK hP hb_32.1 hM_240 rfl 20 (by decide) (hN.use (Cond.fieldLinkNest RX13 110 RX12 "where" "[I" RX13) 29 rfl rfl) (fun _ h9 => h9) hv346 dX13_join_98 ?_
                    refine lv_iload hx hb dX13_join_101 (lv_at hl 0 rfl) ?_
                    obtain ⟨f347, hM347, hf347⟩ := hW.open_31 hc346
                    have hi_348 : vp_in (nI v8w233) 24 := (inbN v8w233 24 (by omega) (by omega))
                    refine pg_iald hx hb hK hP hc346.1 0 hM347 rfl hi_348 dX13_join_103 ?_
                    have hp_349 := hf347 _ (vp_lt hi_348)
                    obtain ⟨c_350, hc_351, ec_352⟩ := hp_349
                    rw [ec_352]
                    have hy20 : (ax M b30 20) = f347 := (congrFun hV.2.2.1 20).symm.trans (ax_of hM_240 (by decide) hv346 hM347)
                    have hr20 : SY ((nI j_26) : Int32).toNatClampNeg 20 v8w233 = (nI c_350) := by
                      have h9 := ec_352
                      rw [nI_cl (by omega)] at h9
                      rw [← hZk.2, hy20]
                      exact h9
                    refine lv_iload_n hx hb dX13_join_104 rfl (lv_at hl 5 rfl) ?_
                    refine lv_icmp_ne (tgt := 137) hx hb dX13_join_105 (by decide) (fun c_353 => ?_) (fun c_353 => ?_)
                    · have hz := rfl (a := 0)
                      refine lv_iconst (v := 0) hx hb dX13_join_137 (by decide) ?_
                      have hI_354 : ((v8w233 : Nat) : Int) < ((v34 : Nat) : Int) := inleI (nI_toInt (by omega)) (nI_toInt (by omega)) c_241
                      have hI_355 : ((c_350 : Nat) : Int) ≠ (k2 : Int32).toInt := ineI (nI_toInt (by omega)) rfl c_353
                      refine lv_istore (lv' := [(7, .int 0), (8, .int (nI v8w233)), (6, .ref b30), (0, .ref za), (1, .int (nI j_26)), (2, .int k2), (3, .int k3), (4, .int k4), (5, .int k5)]) hx hb dX13_join_138 hl (by decide) rfl (fun ls hl => ?_)
                      refine lv_iinc (v := (nI (v8w233 + 1))) (lv' := [(8, .int (nI (v8w233 + 1))), (7, .int 0), (6, .ref b30), (0, .ref za), (1, .int (nI j_26)), (2, .int k2), (3, .int k3), (4, .int k4), (5, .int k5)]) hx hb dX13_join_140 hl (k := 1) rfl (nI_1 v8w233) (by decide) rfl (fun ls hl => ?_)
                      refine lv_goto (tgt := 81) hx hb dX13_join_143 (by decide) ?_
                      exact ih_231 0 (v8w233 + 1) M_238 H_239 _ _ (by omega) (Or.inl rfl) hM_240 (by omega) (by omega) (TKL.mis hx_237 (fun q => by have q1 := q.1; rw [hr20] at q1; contradiction)) hW hF hG hV hP hD hS (lv_sub hl [0, 1, 2, 3, 4, 5, 6, 7, 8] rfl)
                    · have hz := rfl (a := 0)
                      refine lv_aload hx hb dX13_join_108 (lv_at hl 2 rfl) ?_
                      obtain ⟨v356, hv356, hc356⟩ : ∃ v : Nat, fs33[22]? = some (.ref v : Value) ∧ isk K L v 41 24 := hl33 22 (by decide)
                      refine pg_getN (D := D) (ci := 12) (v := .ref v356) (C := RX12) (T := TX12) (N := 51) hx hb hg inG12 hown hK hP hb_32.1 hM_240 rfl 22 (by decide) (hN.use (Cond.fieldLinkNest RX13 95 RX12 "ended" "[I" RX13) 31 rfl rfl) (fun _ h9 => h9) hv356 dX13_join_110 ?_
                      refine lv_iload hx hb dX13_join_113 (lv_at hl 0 rfl) ?_
                      obtain ⟨f357, hM357⟩ := hW.open_41 hc356
                      refine pg_iald hx hb hK hP hc356.1 0 hM357 rfl (inbN v8w233 24 (by omega) (by omega)) dX13_join_115 ?_
                      refine lv_topi (fun f_358 ef_358 => ?_)
                      have hy22 : (ax M b30 22) = f357 := (congrFun hV.2.2.1 22).symm.trans (ax_of hM_240 (by decide) hv356 hM357)
                      have hr22 : SY ((nI j_26) : Int32).toNatClampNeg 22 v8w233 = f_358 := by
                        have h9 := ef_358.symm
                        rw [nI_cl (by omega)] at h9
                        rw [← hZk.2, hy22]
                        exact h9
                      have hr22i := congrArg Int32.toInt hr22
                      refine lv_iconst (v := (-1)) hx hb dX13_join_116 (by decide) ?_
                      refine lv_icmp_eq (tgt := 133) hx hb dX13_join_117 (by decide) (fun c_359 => ?_) (fun c_359 => ?_)
                      · have hz := rfl (a := 0)
                        refine lv_iconst (v := 1) hx hb dX13_join_133 (by decide) ?_
                        refine lv_goto (tgt := 138) hx hb dX13_join_134 (by decide) ?_
                        have hI_360 : ((v8w233 : Nat) : Int) < ((v34 : Nat) : Int) := inleI (nI_toInt (by omega)) (nI_toInt (by omega)) c_241
                        have hI_361 : ((c_350 : Nat) : Int) = (k2 : Int32).toInt := ieqI (nI_toInt (by omega)) rfl c_353
                        have hI_362 : (f_358 : Int32).toInt = (-1) := ieqI rfl rfl c_359
                        refine lv_istore (lv' := [(7, .int 1), (8, .int (nI v8w233)), (6, .ref b30), (0, .ref za), (1, .int (nI j_26)), (2, .int k2), (3, .int k3), (4, .int k4), (5, .int k5)]) hx hb dX13_join_138 hl (by decide) rfl (fun ls hl => ?_)
                        refine lv_iinc (v := (nI (v8w233 + 1))) (lv' := [(8, .int (nI (v8w233 + 1))), (7, .int 1), (6, .ref b30), (0, .ref za), (1, .int (nI j_26)), (2, .int k2), (3, .int k3), (4, .int k4), (5, .int k5)]) hx hb dX13_join_140 hl (k := 1) rfl (nI_1 v8w233) (by decide) rfl (fun ls hl => ?_)
                        refine lv_goto (tgt := 81) hx hb dX13_join_143 (by decide) ?_
                        exact ih_231 1 (v8w233 + 1) M_238 H_239 _ _ (by omega) (Or.inr rfl) hM_240 (by omega) (by omega) (TKL.hit (by rw [hr20]; first | assumption | rfl | exact congrArg nI (by omega)) (by rw [hr22]; omega)) hW hF hG hV hP hD hS (lv_sub hl [0, 1, 2, 3, 4, 5, 6, 7, 8] rfl)
                      · have hz := rfl (a := 0)
                        refine lv_aload hx hb dX13_join_120 (lv_at hl 2 rfl) ?_
                        refine pg_getN (D := D) (ci := 12) (v := .ref v356) (C := RX12) (T := TX12) (N := 51) hx hb hg inG12 hown hK hP hb_32.1 hM_240 rfl 22 (by decide) (hN.use (Cond.fieldLinkNest RX13 95 RX12 "ended" "[I" RX13) 31 rfl rfl) (fun _ h9 => h9) hv356 dX13_join_122 ?_
                        refine lv_iload hx hb dX13_join_125 (lv_at hl 0 rfl) ?_
                        refine pg_iald hx hb hK hP hc356.1 0 hM357 rfl (inbN v8w233 24 (by omega) (by omega)) dX13_join_127 ?_
                        refine lv_topi (fun f_363 ef_363 => ?_)
                        have hr22j : (f_363 : Int32).toInt = (f_358 : Int32).toInt := congrArg Int32.toInt (ef_363.trans ef_358.symm)
                        refine lv_iload hx hb dX13_join_128 (lv_at hl 7 rfl) ?_
                        refine lv_icmp_le (tgt := 137) hx hb dX13_join_130 (by decide) (fun c_364 => ?_) (fun c_364 => ?_)
                        · have hz := rfl (a := 0)
                          refine lv_iconst (v := 0) hx hb dX13_join_137 (by decide) ?_
                          have hI_365 : ((v8w233 : Nat) : Int) < ((v34 : Nat) : Int) := inleI (nI_toInt (by omega)) (nI_toInt (by omega)) c_241
                          have hI_366 : ((c_350 : Nat) : Int) = (k2 : Int32).toInt := ieqI (nI_toInt (by omega)) rfl c_353
                          have hI_367 : (f_358 : Int32).toInt ≠ (-1) := ineI rfl rfl c_359
                          have hI_368 : (f_363 : Int32).toInt ≤ (k4 : Int32).toInt := ileI rfl rfl c_364
                          refine lv_istore (lv' := [(7, .int 0), (8, .int (nI v8w233)), (6, .ref b30), (0, .ref za), (1, .int (nI j_26)), (2, .int k2), (3, .int k3), (4, .int k4), (5, .int k5)]) hx hb dX13_join_138 hl (by decide) rfl (fun ls hl => ?_)
                          refine lv_iinc (v := (nI (v8w233 + 1))) (lv' := [(8, .int (nI (v8w233 + 1))), (7, .int 0), (6, .ref b30), (0, .ref za), (1, .int (nI j_26)), (2, .int k2), (3, .int k3), (4, .int k4), (5, .int k5)]) hx hb dX13_join_140 hl (k := 1) rfl (nI_1 v8w233) (by decide) rfl (fun ls hl => ?_)
                          refine lv_goto (tgt := 81) hx hb dX13_join_143 (by decide) ?_
                          exact ih_231 0 (v8w233 + 1) M_238 H_239 _ _ (by omega) (Or.inl rfl) hM_240 (by omega) (by omega) (TKL.mis hx_237 (fun q => by have q1 := q.2; rw [hr22] at q1; omega)) hW hF hG hV hP hD hS (lv_sub hl [0, 1, 2, 3, 4, 5, 6, 7, 8] rfl)
                        · have hz := rfl (a := 0)
                          refine lv_iconst (v := 1) hx hb dX13_join_133 (by decide) ?_
                          refine lv_goto (tgt := 138) hx hb dX13_join_134 (by decide) ?_
                          have hI_369 : ((v8w233 : Nat) : Int) < ((v34 : Nat) : Int) := inleI (nI_toInt (by omega)) (nI_toInt (by omega)) c_241
                          have hI_370 : ((c_350 : Nat) : Int) = (k2 : Int32).toInt := ieqI (nI_toInt (by omega)) rfl c_353
                          have hI_371 : (f_358 : Int32).toInt ≠ (-1) := ineI rfl rfl c_359
                          have hI_372 : (k4 : Int32).toInt < (f_363 : Int32).toInt := inleI rfl rfl c_364
                          refine lv_istore (lv' := [(7, .int 1), (8, .int (nI v8w233)), (6, .ref b30), (0, .ref za), (1, .int (nI j_26)), (2, .int k2), (3, .int k3), (4, .int k4), (5, .int k5)]) hx hb dX13_join_138 hl (by decide) rfl (fun ls hl => ?_)
                          refine lv_iinc (v := (nI (v8w233 + 1))) (lv' := [(8, .int (nI (v8w233 + 1))), (7, .int 1), (6, .ref b30), (0, .ref za), (1, .int (nI j_26)), (2, .int k2), (3, .int k3), (4, .int k4), (5, .int k5)]) hx hb dX13_join_140 hl (k := 1) rfl (nI_1 v8w233) (by decide) rfl (fun ls hl => ?_)
                          refine lv_goto (tgt := 81) hx hb dX13_join_143 (by decide) ?_
                          exact ih_231 1 (v8w233 + 1) M_238 H_239 _ _ (by omega) (Or.inr rfl) hM_240 (by omega) (by omega) (TKL.hit (by rw [hr20]; first | assumption | rfl | exact congrArg nI (by omega)) (by rw [hr22]; omega)) hW hF hG hV hP hD hS (lv_sub hl [0, 1, 2, 3, 4, 5, 6, 7, 8] rfl)
                · have hz := rfl (a := 0)
                  refine lv_iload hx hb dX13_join_81 (lv_at hl 0 rfl) ?_
                  refine lv_aload hx hb dX13_join_83 (lv_at hl 2 rfl) ?_
                  refine pg_getN (D := D) (ci := 12) (v := .int (nI v34)) (C := RX12) (T := TX12) (N := 51) hx hb hg inG12 hown hK hP hb_32.1 hM_240 rfl 10 (by decide) (hN.use (Cond.fieldLinkNest RX13 68 RX12 "tenures" "I" RX13) 19 rfl rfl) (fun _ h9 => h9) hv34 dX13_join_85 ?_
                  refine lv_icmp_ge (tgt := 146) hx hb dX13_join_88 (by decide) (fun c_373 => ?_) (fun c_373 => ?_)
                  · have hz := rfl (a := 0)
                    have n_374 : v34 ≤ v8w233 := (iLE (a := v34) (b := v8w233) (by omega) (by omega)).mp c_373
                    have htk : TKL (SY ((nI j_26) : Int32).toNatClampNeg) k2 k4 v8w233 ↔ _ := TKL.tkn (X := SX ((nI j_26) : Int32).toNatClampNeg) (by omega)
                    have hTK : (SY ((nI j_26) : Int32).toNatClampNeg 9 (k2 : Int32).toNatClampNeg).toInt < 0 ∨ TKN (SX ((nI j_26) : Int32).toNatClampNeg) (SY ((nI j_26) : Int32).toNatClampNeg) k2 k4 := htk.mp (hx_237.mp rfl)
                    refine lv_iload hx hb dX13_join_146 (lv_at hl 1 rfl) ?_
                    refine lv_if_eq (tgt := 157) hx hb dX13_join_148 (by decide) (fun c_375 => absurd c_375 (by decide)) (fun _ => ?_)
                    refine lv_aload_n hx hb dX13_join_151 rfl (lv_at hl 3 rfl) ?_
                    refine lv_iconst (v := 4) hx hb dX13_join_152 (by decide) ?_
                    have hPc := hP.sub (ws' := [(za, (b13_0 0 z1 (nI z2) (nI z3) z4 z5 z6 z7 z8 z9 (nI 0) z11 z12 z13 z14 z15 (nI z16) z17 z18 z19))]) [0] rfl
                    have hDc := hD.sub (ws' := [(za, (b13_0 0 z1 (nI z2) (nI z3) z4 z5 z6 z7 z8 z9 (nI 0) z11 z12 z13 z14 z15 (nI z16) z17 z18 z19))]) [0] (by decide) rfl
                    have hKc := hK.sub (tys' := []) [] rfl
                    have hFc := va_free (wc := [(za, (b13_0 0 z1 (nI z2) (nI z3) z4 z5 z6 z7 z8 z9 (nI 0) z11 z12 z13 z14 z15 (nI z16) z17 z18 z19))]) hD hS hA [0] rfl
                    refine va_calli (va_runV (As := [.int 4]) (rest := []) ⟨hx, hb, hml, hown, hg⟩ (m_refused l D H_239.size za 0 z1 (nI z2) (nI z3) z4 z5 z6 z7 z8 z9 (nI 0) z11 z12 z13 z14 z15 (nI z16) z17 z18 z19 4) (cwV 1 hg (gV wd_725 wd_726 wd_727 wd_717 wd_728) rfl rfl rfl (by decide +kernel) ⟨(Nat.le_trans (Nat.le_of_ble_eq_true rfl) hRf), (Nat.le_trans (Nat.le_of_ble_eq_true rfl) hRl)⟩) ⟨Pr.blind, va_recv hK hP (ci := 13) (q0 := 0) rfl rfl, fun U hU hW => ⟨rfl, Pr.at hPc hKc hDc hN hU hW⟩⟩ rfl rfl hl.1 rfl (lv_room (Nat.le_of_ble_eq_true rfl)) dX13_join_153 ⟨(Nat.le_trans (Nat.le_of_ble_eq_true rfl) hRc), (Nat.le_trans (Nat.le_of_ble_eq_true rfl) hRs)⟩) hS (fun q _ h => hFc q h) hFc (fun r_377 M_378 t H_376 locs ht hvm hw hB hz1 hk1 hS => ?_)
                    have hp_379 := hw
                    obtain ⟨hP1, hK1, hD1⟩ := hB
                    rw [ht] at hP1
                    obtain ⟨hP, hD⟩ := va_joinQ (X := [(za, (b13_0 0 z1 (nI z2) (nI z3) z4 z5 z6 z7 z8 z9 (nI 0) z11 z12 z13 z14 z15 (nI z16) z17 z18 z19))]) (cx := [(za, (b13_0 0 z1 (nI z2) (nI z3) z4 z5 z6 z7 z8 z9 (nI 0) z11 z12 z13 z14 z15 (nI z16) z17 z18 z19))]) (wr := []) (w1 := [(za, (b13_0 0 z1 (nI z2) (nI z3) 4 (-1) z6 z7 z8 z9 (nI 0) z11 z12 z13 z14 z15 (nI z16) z17 z18 z19))]) (pl := va_pl L M_238) hP hD [0] [] rfl rfl (by decide) (by decide) hk1 hFc hP1 hD1
                    have hP : va_P D vwCl ([(za, (b13_0 0 z1 (nI z2) (nI z3) 4 (-1) z6 z7 z8 z9 (nI 0) z11 z12 z13 z14 z15 (nI z16) z17 z18 z19))] ++ va_pl L M_238) H_376 := hP
                    have hD : va_D A ([(za, (b13_0 0 z1 (nI z2) (nI z3) 4 (-1) z6 z7 z8 z9 (nI 0) z11 z12 z13 z14 z15 (nI z16) z17 z18 z19))] ++ va_pl L M_238) := hD
                    have hq := Eq.symm hp_379
                    subst hq
                    have hI_380 : ((v34 : Nat) : Int) ≤ ((v8w233 : Nat) : Int) := ileI (nI_toInt (by omega)) (nI_toInt (by omega)) c_373
                    have hn91 : ((nI j_26) : Int32).toInt = ((j_26 : Nat) : Int) := nI_toInt (by omega)
                    have hTKx : ¬ (0 ≤ (SY ((nI j_26) : Int32).toNatClampNeg 9 (k2 : Int32).toNatClampNeg).toInt ∧ ¬ TKN (SX ((nI j_26) : Int32).toNatClampNeg) (SY ((nI j_26) : Int32).toNatClampNeg) k2 k4) := fun q => hTK.elim (fun q2 => absurd q.1 (Int.not_le.mpr q2)) q.2
                    have hncr : ¬ okCr z2 z3 PK PT SX SY (nI j_26) k2 k3 k4 := fun q9 => by unfold okCr okHS at q9; first | omega | (obtain ⟨⟨_, _, _, _⟩, ⟨_, _⟩, ⟨_, _⟩, _, _, _⟩ := q9; first | omega | contradiction)
                    have hno : ¬ okJo z2 z3 PK PT SX SY (nI j_26) k2 k3 k4 := fun q9 => by unfold okJo okHS at q9; first | omega | (obtain ⟨⟨_, _, _, _⟩, ⟨_, _⟩, ⟨_, _⟩, _, _, _⟩ := q9; first | omega | contradiction)
                    have hA9 : HA (ax M b30 2) (ax M b30 3) := hAT.1
                    have hB9 : HB (fx M b30 16) (fx M b30 14) (ax M b30 3) (ax M b30 43) := hAT.2.1
                    have hC9 : HC (fx M b30 10) (ax M b30 22) (ax M b30 23) := hAT.2.2.1
                    have hD9 : HD (fx M b30 0) (fx M b30 11) (fx M b30 15) (ax M b30 34) (ax M b30 41) := hAT.2.2.2.1
                    have hE9 : HE (fx M b30 0) (fx M b30 1) (fx M b30 12) (fx M b30 13) (ax M b30 37) := hAT.2.2.2.2
                    have hH9 : HI (fx M b30) (ax M b30) := ⟨hA9, hB9, hC9, hD9, hE9⟩
                    have hGI9 : GI K L z1 z2 M_238 := GI.fin hW0 i1 b2 hGI hact hV (hF.at i1 (by decide)) hH9
                    rw [hQ]
                    exact W.iret (v := (-1)) hx hb hr (fun t ht hW9 => ⟨⟨(-1), M_238, rfl, ⟨hW, hF, hG, ⟨hGI9, (by unfold sxJo syJo; rw [if_neg hno, if_neg hno]; have hQ9 := ZSx.fin hW0 i1 b2 hZS hGI.1 hkn hb9 hV (hF.at i1 (by decide)) hZk.1 hZk.2; rw [va_upJ, va_upJ] at hQ9; exact hQ9)⟩, (by unfold anJo; rw [if_neg hno])⟩, ⟨4, 0, (by omega), (by unfold ZGC caJo; rw [if_neg hncr]; exact fun i => if_neg (by omega)), by rw [ht]; exact hP, hD⟩⟩, hS.F ht⟩) hS.2.2 dX13_join_156
                  · have hz := rfl (a := 0)
                    have n_381 : ¬ (v34 ≤ v8w233) := fun q => c_373 ((iLE (a := v34) (b := v8w233) (by omega) (by omega)).mpr q)
                    refine lv_iload hx hb dX13_join_91 (lv_at hl 1 rfl) ?_
                    refine lv_if_ne (tgt := 133) hx hb dX13_join_93 (by decide) (fun _ => ?_) (fun c_382 => absurd c_382 (by decide))
                    refine lv_iconst (v := 1) hx hb dX13_join_133 (by decide) ?_
                    refine lv_goto (tgt := 138) hx hb dX13_join_134 (by decide) ?_
                    have hI_383 : ((v8w233 : Nat) : Int) < ((v34 : Nat) : Int) := inleI (nI_toInt (by omega)) (nI_toInt (by omega)) c_373
                    refine lv_istore (lv' := [(7, .int 1), (8, .int (nI v8w233)), (6, .ref b30), (0, .ref za), (1, .int (nI j_26)), (2, .int k2), (3, .int k3), (4, .int k4), (5, .int k5)]) hx hb dX13_join_138 hl (by decide) rfl (fun ls hl => ?_)
                    refine lv_iinc (v := (nI (v8w233 + 1))) (lv' := [(8, .int (nI (v8w233 + 1))), (7, .int 1), (6, .ref b30), (0, .ref za), (1, .int (nI j_26)), (2, .int k2), (3, .int k3), (4, .int k4), (5, .int k5)]) hx hb dX13_join_140 hl (k := 1) rfl (nI_1 v8w233) (by decide) rfl (fun ls hl => ?_)
                    refine lv_goto (tgt := 81) hx hb dX13_join_143 (by decide) ?_
                    exact ih_231 1 (v8w233 + 1) M_238 H_239 _ _ (by omega) (Or.inr rfl) hM_240 (by omega) (by omega) (TKL.y hx_237) hW hF hG hV hP hD hS (lv_sub hl [0, 1, 2, 3, 4, 5, 6, 7, 8] rfl)
            exact key_230 (24 - 0 + 1) 1 0 M H_35 _ _ (by omega) (Or.inr rfl) hM33 (by omega) (by omega) (TKL.y0 (by omega)) hW hF hG hV hP hD hS (lv_sub hl [0, 1, 2, 3, 4, 5, 6, 7, 8] rfl)
        · have hz := rfl (a := 0)
          refine lv_if_ne (tgt := 61) hx hb dX13_join_52 (by decide) (fun c_384 => absurd c_384 (by decide)) (fun _ => ?_)
          refine lv_aload_n hx hb dX13_join_55 rfl (lv_at hl 1 rfl) ?_
          refine lv_iconst (v := 3) hx hb dX13_join_56 (by decide) ?_
          have hPc := hP.sub (ws' := [(za, (b13_0 0 z1 (nI z2) (nI z3) z4 z5 z6 z7 z8 z9 (nI 0) z11 z12 z13 z14 z15 (nI z16) z17 z18 z19))]) [0] rfl
          have hDc := hD.sub (ws' := [(za, (b13_0 0 z1 (nI z2) (nI z3) z4 z5 z6 z7 z8 z9 (nI 0) z11 z12 z13 z14 z15 (nI z16) z17 z18 z19))]) [0] (by decide) rfl
          have hKc := hK.sub (tys' := []) [] rfl
          have hFc := va_free (wc := [(za, (b13_0 0 z1 (nI z2) (nI z3) z4 z5 z6 z7 z8 z9 (nI 0) z11 z12 z13 z14 z15 (nI z16) z17 z18 z19))]) hD hS hA [0] rfl
          refine va_calli (va_runV (As := [.int 3]) (rest := []) ⟨hx, hb, hml, hown, hg⟩ (m_refused l D H_35.size za 0 z1 (nI z2) (nI z3) z4 z5 z6 z7 z8 z9 (nI 0) z11 z12 z13 z14 z15 (nI z16) z17 z18 z19 3) (cwV 1 hg (gV wd_725 wd_726 wd_727 wd_717 wd_728) rfl rfl rfl (by decide +kernel) ⟨(Nat.le_trans (Nat.le_of_ble_eq_true rfl) hRf), (Nat.le_trans (Nat.le_of_ble_eq_true rfl) hRl)⟩) ⟨Pr.blind, va_recv hK hP (ci := 13) (q0 := 0) rfl rfl, fun U hU hW => ⟨rfl, Pr.at hPc hKc hDc hN hU hW⟩⟩ rfl rfl hl.1 rfl (lv_room (Nat.le_of_ble_eq_true rfl)) dX13_join_57 ⟨(Nat.le_trans (Nat.le_of_ble_eq_true rfl) hRc), (Nat.le_trans (Nat.le_of_ble_eq_true rfl) hRs)⟩) hS (fun q _ h => hFc q h) hFc (fun r_386 M_387 t H_385 locs ht hvm hw hB hz1 hk1 hS => ?_)
          have hp_388 := hw
          obtain ⟨hP1, hK1, hD1⟩ := hB
          rw [ht] at hP1
          obtain ⟨hP, hD⟩ := va_joinQ (X := [(za, (b13_0 0 z1 (nI z2) (nI z3) z4 z5 z6 z7 z8 z9 (nI 0) z11 z12 z13 z14 z15 (nI z16) z17 z18 z19))]) (cx := [(za, (b13_0 0 z1 (nI z2) (nI z3) z4 z5 z6 z7 z8 z9 (nI 0) z11 z12 z13 z14 z15 (nI z16) z17 z18 z19))]) (wr := []) (w1 := [(za, (b13_0 0 z1 (nI z2) (nI z3) 3 (-1) z6 z7 z8 z9 (nI 0) z11 z12 z13 z14 z15 (nI z16) z17 z18 z19))]) (pl := va_pl L M) hP hD [0] [] rfl rfl (by decide) (by decide) hk1 hFc hP1 hD1
          have hP : va_P D vwCl ([(za, (b13_0 0 z1 (nI z2) (nI z3) 3 (-1) z6 z7 z8 z9 (nI 0) z11 z12 z13 z14 z15 (nI z16) z17 z18 z19))] ++ va_pl L M) H_385 := hP
          have hD : va_D A ([(za, (b13_0 0 z1 (nI z2) (nI z3) 3 (-1) z6 z7 z8 z9 (nI 0) z11 z12 z13 z14 z15 (nI z16) z17 z18 z19))] ++ va_pl L M) := hD
          have hq := Eq.symm hp_388
          subst hq
          have hI_389 : (0 : Int) ≤ ((j_26 : Nat) : Int) := inltI (nI_toInt (by omega)) rfl c_8
          have hI_390 : ((j_26 : Nat) : Int) < ((z2 : Nat) : Int) := inleI (nI_toInt (by omega)) (nI_toInt (by omega)) c_9
          have hI_391 : (0 : Int) ≤ (k2 : Int32).toInt := inltI rfl rfl c_10
          have hI_392 : (k2 : Int32).toInt < (6 : Int) := inleI rfl rfl c_11
          have hI_393 : (0 : Int) ≤ (k3 : Int32).toInt := inltI rfl rfl c_14
          have hI_394 : (k3 : Int32).toInt < ((z3 : Nat) : Int) := iltI rfl (nI_toInt (by omega)) c_24
          have hI_395 : (k3 : Int32).toInt < (40 : Int) := inleI rfl rfl n_25
          have hn91 : ((nI j_26) : Int32).toInt = ((j_26 : Nat) : Int) := nI_toInt (by omega)
          have hncr : ¬ okCr z2 z3 PK PT SX SY (nI j_26) k2 k3 k4 := fun q9 => by unfold okCr okHS at q9; first | omega | (obtain ⟨⟨_, _, _, _⟩, ⟨_, _⟩, ⟨_, _⟩, _, _, _⟩ := q9; first | omega | contradiction)
          have hno : ¬ okJo z2 z3 PK PT SX SY (nI j_26) k2 k3 k4 := fun q9 => by unfold okJo okHS at q9; first | omega | (obtain ⟨⟨_, _, _, _⟩, ⟨_, _⟩, ⟨_, _⟩, _, _, _⟩ := q9; first | omega | contradiction)
          rw [hQ]
          exact W.iret (v := (-1)) hx hb hr (fun t ht hW9 => ⟨⟨(-1), M, rfl, ⟨hW, hF, hG, ⟨hGI, (by unfold sxJo syJo; rw [if_neg hno, if_neg hno]; exact hZS)⟩, (by unfold anJo; rw [if_neg hno])⟩, ⟨3, 0, (by omega), (by unfold ZGC caJo; rw [if_neg hncr]; exact fun i => if_neg (by omega)), by rw [ht]; exact hP, hD⟩⟩, hS.F ht⟩) hS.2.2 dX13_join_60
      · have hz := rfl (a := 0)
        refine lv_aload_n hx hb dX13_join_31 rfl (lv_at hl 0 rfl) ?_
        refine lv_iconst (v := 1) hx hb dX13_join_32 (by decide) ?_
        have hPc := hP.sub (ws' := [(za, (b13_0 0 z1 (nI z2) (nI z3) z4 z5 z6 z7 z8 z9 (nI 0) z11 z12 z13 z14 z15 (nI z16) z17 z18 z19))]) [0] rfl
        have hDc := hD.sub (ws' := [(za, (b13_0 0 z1 (nI z2) (nI z3) z4 z5 z6 z7 z8 z9 (nI 0) z11 z12 z13 z14 z15 (nI z16) z17 z18 z19))]) [0] (by decide) rfl
        have hKc := hK.sub (tys' := []) [] rfl
        have hFc := va_free (wc := [(za, (b13_0 0 z1 (nI z2) (nI z3) z4 z5 z6 z7 z8 z9 (nI 0) z11 z12 z13 z14 z15 (nI z16) z17 z18 z19))]) hD hS hA [0] rfl
        refine va_calli (va_runV (As := [.int 1]) (rest := []) ⟨hx, hb, hml, hown, hg⟩ (m_refused l D H_3.size za 0 z1 (nI z2) (nI z3) z4 z5 z6 z7 z8 z9 (nI 0) z11 z12 z13 z14 z15 (nI z16) z17 z18 z19 1) (cwV 1 hg (gV wd_725 wd_726 wd_727 wd_717 wd_728) rfl rfl rfl (by decide +kernel) ⟨(Nat.le_trans (Nat.le_of_ble_eq_true rfl) hRf), (Nat.le_trans (Nat.le_of_ble_eq_true rfl) hRl)⟩) ⟨Pr.blind, va_recv hK hP (ci := 13) (q0 := 0) rfl rfl, fun U hU hW => ⟨rfl, Pr.at hPc hKc hDc hN hU hW⟩⟩ rfl rfl hl.1 rfl (lv_room (Nat.le_of_ble_eq_true rfl)) dX13_join_33 ⟨(Nat.le_trans (Nat.le_of_ble_eq_true rfl) hRc), (Nat.le_trans (Nat.le_of_ble_eq_true rfl) hRs)⟩) hS (fun q _ h => hFc q h) hFc (fun r_397 M_398 t H_396 locs ht hvm hw hB hz1 hk1 hS => ?_)
        have hp_399 := hw
        obtain ⟨hP1, hK1, hD1⟩ := hB
        rw [ht] at hP1
        obtain ⟨hP, hD⟩ := va_joinQ (X := [(za, (b13_0 0 z1 (nI z2) (nI z3) z4 z5 z6 z7 z8 z9 (nI 0) z11 z12 z13 z14 z15 (nI z16) z17 z18 z19))]) (cx := [(za, (b13_0 0 z1 (nI z2) (nI z3) z4 z5 z6 z7 z8 z9 (nI 0) z11 z12 z13 z14 z15 (nI z16) z17 z18 z19))]) (wr := []) (w1 := [(za, (b13_0 0 z1 (nI z2) (nI z3) 1 (-1) z6 z7 z8 z9 (nI 0) z11 z12 z13 z14 z15 (nI z16) z17 z18 z19))]) (pl := va_pl L M) hP hD [0] [] rfl rfl (by decide) (by decide) hk1 hFc hP1 hD1
        have hP : va_P D vwCl ([(za, (b13_0 0 z1 (nI z2) (nI z3) 1 (-1) z6 z7 z8 z9 (nI 0) z11 z12 z13 z14 z15 (nI z16) z17 z18 z19))] ++ va_pl L M) H_396 := hP
        have hD : va_D A ([(za, (b13_0 0 z1 (nI z2) (nI z3) 1 (-1) z6 z7 z8 z9 (nI 0) z11 z12 z13 z14 z15 (nI z16) z17 z18 z19))] ++ va_pl L M) := hD
        have hq := Eq.symm hp_399
        subst hq
        have hI_400 : (0 : Int) ≤ (k1 : Int32).toInt := inltI rfl rfl c_8
        have hI_401 : (k1 : Int32).toInt < ((z2 : Nat) : Int) := inleI (nI_toInt (by omega)) rfl c_9
        have hI_402 : (0 : Int) ≤ (k2 : Int32).toInt := inltI rfl rfl c_10
        have hI_403 : (k2 : Int32).toInt < (6 : Int) := inleI rfl rfl c_11
        have hI_404 : (0 : Int) ≤ (k3 : Int32).toInt := inltI rfl rfl c_14
        have hI_405 : ((z3 : Nat) : Int) ≤ (k3 : Int32).toInt := inltI rfl (nI_toInt (by omega)) c_24
        have hncr : ¬ okCr z2 z3 PK PT SX SY k1 k2 k3 k4 := fun q9 => by unfold okCr okHS at q9; first | omega | (obtain ⟨⟨_, _, _, _⟩, ⟨_, _⟩, ⟨_, _⟩, _, _, _⟩ := q9; first | omega | contradiction)
        have hno : ¬ okJo z2 z3 PK PT SX SY k1 k2 k3 k4 := fun q9 => by unfold okJo okHS at q9; first | omega | (obtain ⟨⟨_, _, _, _⟩, ⟨_, _⟩, ⟨_, _⟩, _, _, _⟩ := q9; first | omega | contradiction)
        rw [hQ]
        exact W.iret (v := (-1)) hx hb hr (fun t ht hW9 => ⟨⟨(-1), M, rfl, ⟨hW, hF, hG, ⟨hGI, (by unfold sxJo syJo; rw [if_neg hno, if_neg hno]; exact hZS)⟩, (by unfold anJo; rw [if_neg hno])⟩, ⟨1, 0, (by omega), (by unfold ZGC caJo; rw [if_neg hncr]; exact fun i => if_neg (by omega)), by rw [ht]; exact hP, hD⟩⟩, hS.F ht⟩) hS.2.2 dX13_join_36
  · have hz := rfl (a := 0)
    refine lv_if_eq (tgt := 31) hx hb dX13_join_16 (by decide) (fun _ => ?_) (fun c_406 => absurd c_406 (by decide))
    refine lv_aload_n hx hb dX13_join_31 rfl (lv_at hl 0 rfl) ?_
    refine lv_iconst (v := 1) hx hb dX13_join_32 (by decide) ?_
    have hPc := hP.sub (ws' := [(za, (b13_0 0 z1 (nI z2) (nI z3) z4 z5 z6 z7 z8 z9 (nI 0) z11 z12 z13 z14 z15 (nI z16) z17 z18 z19))]) [0] rfl
    have hDc := hD.sub (ws' := [(za, (b13_0 0 z1 (nI z2) (nI z3) z4 z5 z6 z7 z8 z9 (nI 0) z11 z12 z13 z14 z15 (nI z16) z17 z18 z19))]) [0] (by decide) rfl
    have hKc := hK.sub (tys' := []) [] rfl
    have hFc := va_free (wc := [(za, (b13_0 0 z1 (nI z2) (nI z3) z4 z5 z6 z7 z8 z9 (nI 0) z11 z12 z13 z14 z15 (nI z16) z17 z18 z19))]) hD hS hA [0] rfl
    refine va_calli (va_runV (As := [.int 1]) (rest := []) ⟨hx, hb, hml, hown, hg⟩ (m_refused l D H_3.size za 0 z1 (nI z2) (nI z3) z4 z5 z6 z7 z8 z9 (nI 0) z11 z12 z13 z14 z15 (nI z16) z17 z18 z19 1) (cwV 1 hg (gV wd_725 wd_726 wd_727 wd_717 wd_728) rfl rfl rfl (by decide +kernel) ⟨(Nat.le_trans (Nat.le_of_ble_eq_true rfl) hRf), (Nat.le_trans (Nat.le_of_ble_eq_true rfl) hRl)⟩) ⟨Pr.blind, va_recv hK hP (ci := 13) (q0 := 0) rfl rfl, fun U hU hW => ⟨rfl, Pr.at hPc hKc hDc hN hU hW⟩⟩ rfl rfl hl.1 rfl (lv_room (Nat.le_of_ble_eq_true rfl)) dX13_join_33 ⟨(Nat.le_trans (Nat.le_of_ble_eq_true rfl) hRc), (Nat.le_trans (Nat.le_of_ble_eq_true rfl) hRs)⟩) hS (fun q _ h => hFc q h) hFc (fun r_408 M_409 t H_407 locs ht hvm hw hB hz1 hk1 hS => ?_)
    have hp_410 := hw
    obtain ⟨hP1, hK1, hD1⟩ := hB
    rw [ht] at hP1
    obtain ⟨hP, hD⟩ := va_joinQ (X := [(za, (b13_0 0 z1 (nI z2) (nI z3) z4 z5 z6 z7 z8 z9 (nI 0) z11 z12 z13 z14 z15 (nI z16) z17 z18 z19))]) (cx := [(za, (b13_0 0 z1 (nI z2) (nI z3) z4 z5 z6 z7 z8 z9 (nI 0) z11 z12 z13 z14 z15 (nI z16) z17 z18 z19))]) (wr := []) (w1 := [(za, (b13_0 0 z1 (nI z2) (nI z3) 1 (-1) z6 z7 z8 z9 (nI 0) z11 z12 z13 z14 z15 (nI z16) z17 z18 z19))]) (pl := va_pl L M) hP hD [0] [] rfl rfl (by decide) (by decide) hk1 hFc hP1 hD1
    have hP : va_P D vwCl ([(za, (b13_0 0 z1 (nI z2) (nI z3) 1 (-1) z6 z7 z8 z9 (nI 0) z11 z12 z13 z14 z15 (nI z16) z17 z18 z19))] ++ va_pl L M) H_407 := hP
    have hD : va_D A ([(za, (b13_0 0 z1 (nI z2) (nI z3) 1 (-1) z6 z7 z8 z9 (nI 0) z11 z12 z13 z14 z15 (nI z16) z17 z18 z19))] ++ va_pl L M) := hD
    have hq := Eq.symm hp_410
    subst hq
    have hncr : ¬ okCr z2 z3 PK PT SX SY k1 k2 k3 k4 := fun q9 => by unfold okCr okHS at q9; first | omega | (obtain ⟨⟨_, _, _, _⟩, ⟨_, _⟩, ⟨_, _⟩, _, _, _⟩ := q9; first | omega | contradiction)
    have hno : ¬ okJo z2 z3 PK PT SX SY k1 k2 k3 k4 := fun q9 => by unfold okJo okHS at q9; first | omega | (obtain ⟨⟨_, _, _, _⟩, ⟨_, _⟩, ⟨_, _⟩, _, _, _⟩ := q9; first | omega | contradiction)
    rw [hQ]
    exact W.iret (v := (-1)) hx hb hr (fun t ht hW9 => ⟨⟨(-1), M, rfl, ⟨hW, hF, hG, ⟨hGI, (by unfold sxJo syJo; rw [if_neg hno, if_neg hno]; exact hZS)⟩, (by unfold anJo; rw [if_neg hno])⟩, ⟨1, 0, (by omega), (by unfold ZGC caJo; rw [if_neg hncr]; exact fun i => if_neg (by omega)), by rw [ht]; exact hP, hD⟩⟩, hS.F ht⟩) hS.2.2 dX13_join_36
