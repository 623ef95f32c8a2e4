/-- from which day on the next year may end -/
def frS (X : Nat → Int) (Y : Nat → Nat → Int32) : Int := if X 12 = 0 then X 0 else (Y 37 (X 12 - 1).toNat).toInt + 1
def okEd (n : Nat) (SX : Nat → Nat → Int) (SY : Nat → Nat → Nat → Int32) (h d : Int32) : Prop := okH n h ∧ 0 ≤ d.toInt ∧ d.toInt < 1000 ∧ frS (SX h.toNatClampNeg) (SY h.toNatClampNeg) ≤ d.toInt ∧ d.toInt ≤ frS (SX h.toNatClampNeg) (SY h.toNatClampNeg) + 99 ∧ SX h.toNatClampNeg 12 < 12
noncomputable def anEd (n : Nat) (SX : Nat → Nat → Int) (SY : Nat → Nat → Nat → Int32) (h d : Int32) : Int32 := (@ite _ (okEd n SX SY h d) (Classical.propDecidable _) (nI (SX h.toNatClampNeg 12 + 1).toNat) (-1))
noncomputable def sxEd (n : Nat) (SX : Nat → Nat → Int) (SY : Nat → Nat → Nat → Int32) (h d : Int32) : Nat → Nat → Int := (@ite _ (okEd n SX SY h d) (Classical.propDecidable _) (va_up SX h.toNatClampNeg (va_up (SX h.toNatClampNeg) 12 (SX h.toNatClampNeg 12 + 1))) (SX))
noncomputable def syEd (n : Nat) (SX : Nat → Nat → Int) (SY : Nat → Nat → Nat → Int32) (h d : Int32) : Nat → Nat → Nat → Int32 := (@ite _ (okEd n SX SY h d) (Classical.propDecidable _) (va_up SY h.toNatClampNeg (va_up (SY h.toNatClampNeg) 37 (upd (SY h.toNatClampNeg 37) (SX h.toNatClampNeg 12).toNat d))) (SY))
theorem SIM.sitS {k : Nat} {T : Int} {np : Nat} {PK PT : Nat → Int32} {x : Nat → Int} {y : Nat → Nat → Int32} {X : Nat → Int} {Y : Nat → Nat → Int32} {s i : Nat} (h : SIM k T np PK PT x y X Y) (hs : s < 6) (h51 : (y 51 s).toInt = (i : Int)) : (y 50 s).toInt = 0 := by
  have g := h.se s hs
  by_cases q : y 50 s = 0
  · rw [q]; rfl
  · rw [g.2.2.2.2.2 q, show (-1 : Int32).toInt = -1 from rfl] at h51
    omega
theorem SIM.sitN {k : Nat} {T : Int} {np : Nat} {PK PT : Nat → Int32} {x : Nat → Int} {y : Nat → Nat → Int32} {X : Nat → Int} {Y : Nat → Nat → Int32} {s : Nat} (h : SIM k T np PK PT x y X Y) (hs : s < 6) (h51 : (y 51 s).toInt = -1) : ¬ hold Y s := by
  by_cases q : (y 50 s).toInt = 0
  · exact (h.hold0 hs q h51).2
  · intro w
    have := (h.letd hs q).2
    have := w.1
    omega
set_option maxHeartbeats 4000000 in
set_option maxRecDepth 100000 in
theorem e_fny (l : Launch) (D : va_G) (cy : Nat → ClassId) (K : Kp) (L : List Nat) (M : Hp) (sz : Nat) (oa : Nat) (hW : WOK cy K L M) (ia : isk K L oa 2 0) : Met l yX2_firstOfNextYear (wsM yX2_firstOfNextYear cX2_firstOfNextYear 1 (some .int)) ({ frames := 0, cells := 0, slots := 0, locals := 0 }) (va_Pc [.ref oa] (PG D cy [] L M sz)) (va_Qi (fun (r : Int32) (_ : Unit) => (∃ (yf : Int32), r = (yf + 1) ∧ (1 ≤ (cV 2 M oa 4).toInt) ∧ (cax M oa 37 ((cV 2 M oa 4).toInt - 1).toNat = yf)) ∨ (r = (cV 2 M oa 1) ∧ ((cV 2 M oa 4).toInt = 0))) (fun _ t => PQ D [] L M (va_A ([] ++ va_pl L M) sz) t) (va_A ([] ++ va_pl L M) sz)) 0 0 (va_A ([] ++ va_pl L M) sz) := by
  refine Met.ofW (cc := cX2_firstOfNextYear) (maxL := 1) (ret := (some .int)) (by decide) rfl ?_
  intro p e s m args below meth c s₁ B hml hv
  obtain ⟨rfl, hsz, hP, hK, hD0, hN⟩ := hv
  have hx := B.exec
  have hb := B.bytes
  have hr := B.returns
  have hts := atoms_spec (ws := (wsM yX2_firstOfNextYear cX2_firstOfNextYear 1 (some .int))) B.pre
  have hg : ∀ w ∈ lw_good, w.before _ s = true := fun w h => hts w (List.mem_cons_of_mem _ h)
  have hown : s.vm.findClass RX2 = some m.cls := findClass_of_methodNamed B.named
  have hlocks := B.notSynchronized
  subst hsz
  have hD := hD0.self (sz := s.heap.size)
  generalize hAe : va_A ([] ++ va_pl L M) s.heap.size = A at hD ⊢
  have hA : ∀ q : Nat, s.heap.size ≤ q → A q := fun q h => by rw [← hAe]; exact Or.inr h
  have hS : va_S A s.heap s.heap [] := va_S.rf
  have hl := lv_entry ([.ref oa]) (n := 1) (Nat.le_of_ble_eq_true rfl)
  rw [lg_entry_eq]
  generalize (lg_sl ([.ref oa]) ++ List.replicate (1 - (lg_sl ([.ref oa])).length) Slot.unset).toArray = ls at hl ⊢
  refine W.nameQ (fun Q hQ => ?_)
  refine W.nameR (fun R hR => ?_)
  have hRf : 0 ≤ R.frames := by rw [hR]; exact Nat.le_of_ble_eq_true rfl
  have hRl : 0 ≤ R.locals := by rw [hR]; exact Nat.le_of_ble_eq_true rfl
  have hRc : 0 ≤ R.cells := by rw [hR]; exact Nat.le_of_ble_eq_true rfl
  have hRs : 0 ≤ R.slots := by rw [hR]; exact Nat.le_of_ble_eq_true rfl
  have hl : lv_has ls 1 [(0, .ref oa)] := hl
  refine lv_aload_n hx hb dX2_firstOfNextYear_0 rfl (lv_at hl 0 rfl) ?_
  obtain ⟨v1_0, v1_1, v1_2, v1_3, v1_4, v1_5, v1_6, v1_7, v1_8, v1_9, v1_10, v1_11, v1_12, v1_13, v1_14, v1_15, v1_16, v1_17, v1_18, v1_19, hM1, h1_3, h1_4, h1_5, h1_6, h1_7, h1_8, h1_9, h1_10, h1_11, h1_12, h1_13, h1_16, h1_17, h1_18, h1_19⟩ := hW.open_2 ia
  refine pg_get (D := D) (ci := 2) (v := .int (nI v1_4)) (C := RX2) (T := TX2) (N := 20) hx hb hg inG2 hown hK hP ia.1 hM1 rfl 4 (by decide) (hg _ wd_82) (fun _ h9 => h9) rfl dX2_firstOfNextYear_1 ?_
  refine lv_if_le (tgt := 32) hx hb dX2_firstOfNextYear_4 (by decide) (fun c_2 => ?_) (fun c_2 => ?_)
  · have hz := rfl (a := 0)
    have n_3 : v1_4 ≤ 0 := (iLE (a := v1_4) (b := 0) (by omega) (by omega)).mp c_2
    refine lv_aload_n hx hb dX2_firstOfNextYear_32 rfl (lv_at hl 0 rfl) ?_
    refine pg_get (D := D) (ci := 2) (v := .int v1_1) (C := RX2) (T := TX2) (N := 20) hx hb hg inG2 hown hK hP ia.1 hM1 rfl 1 (by decide) (hg _ wd_83) (fun _ h9 => h9) rfl dX2_firstOfNextYear_33 ?_
    have hI_4 : ((v1_4 : Nat) : Int) ≤ (0 : Int) := ileI (nI_toInt (by omega)) rfl c_2
    have hA_5 : (cV 2 M oa 0).toInt = (v1_0 : Int32).toInt := by rw [cV_of hM1 rfl]
    have hA_6 : (cV 2 M oa 1).toInt = (v1_1 : Int32).toInt := by rw [cV_of hM1 rfl]
    have hA_7 : (cV 2 M oa 2).toInt = (v1_2 : Int32).toInt := by rw [cV_of hM1 rfl]
    have hA_8 : (cV 2 M oa 4).toInt = ((v1_4 : Nat) : Int) := by rw [cV_of hM1 rfl]; exact nI_toInt (by omega)
    have hA_9 : (cV 2 M oa 5).toInt = ((v1_5 : Nat) : Int) := by rw [cV_of hM1 rfl]; exact nI_toInt (by omega)
    have hA_10 : (cV 2 M oa 9).toInt = ((v1_9 : Nat) : Int) := by rw [cV_of hM1 rfl]; exact nI_toInt (by omega)
    have hA_11 : (cV 2 M oa 11).toInt = ((v1_11 : Nat) : Int) := by rw [cV_of hM1 rfl]; exact nI_toInt (by omega)
    have hA_12 : (cV 2 M oa 15).toInt = (v1_15 : Int32).toInt := by rw [cV_of hM1 rfl]
    rw [hQ]
    exact W.iret (v := v1_1) hx hb hr (fun t ht hW9 => ⟨⟨v1_1, (), rfl, (Or.inr ⟨(cV_of (j := 1) hM1 rfl).symm, by omega⟩), ⟨by rw [ht]; exact hP, hD⟩⟩, hS.F ht⟩) hS.2.2 dX2_firstOfNextYear_36
  · have hz := rfl (a := 0)
    have n_13 : ¬ (v1_4 ≤ 0) := fun q => c_2 ((iLE (a := v1_4) (b := 0) (by omega) (by omega)).mpr q)
    refine lv_aload_n hx hb dX2_firstOfNextYear_7 rfl (lv_at hl 0 rfl) ?_
    refine pg_get (D := D) (ci := 2) (v := .int (nI v1_4)) (C := RX2) (T := TX2) (N := 20) hx hb hg inG2 hown hK hP ia.1 hM1 rfl 4 (by decide) (hg _ wd_82) (fun _ h9 => h9) rfl dX2_firstOfNextYear_8 ?_
    refine lv_bipush (v := 12) hx hb dX2_firstOfNextYear_11 (by decide) ?_
    refine lv_icmp_gt (tgt := 32) hx hb dX2_firstOfNextYear_13 (by decide) (fun c_14 => ?_) (fun c_14 => ?_)
    · have hz := rfl (a := 0)
      have n_15 : 12 < v1_4 := (iLT (a := 12) (b := v1_4) (by omega) (by omega)).mp c_14
      refine lv_aload_n hx hb dX2_firstOfNextYear_32 rfl (lv_at hl 0 rfl) ?_
      refine pg_get (D := D) (ci := 2) (v := .int v1_1) (C := RX2) (T := TX2) (N := 20) hx hb hg inG2 hown hK hP ia.1 hM1 rfl 1 (by decide) (hg _ wd_83) (fun _ h9 => h9) rfl dX2_firstOfNextYear_33 ?_
      have hI_16 : (0 : Int) < ((v1_4 : Nat) : Int) := inleI (nI_toInt (by omega)) rfl c_2
      have hI_17 : (12 : Int) < ((v1_4 : Nat) : Int) := iltI rfl (nI_toInt (by omega)) c_14
      have hA_18 : (cV 2 M oa 0).toInt = (v1_0 : Int32).toInt := by rw [cV_of hM1 rfl]
      have hA_19 : (cV 2 M oa 1).toInt = (v1_1 : Int32).toInt := by rw [cV_of hM1 rfl]
      have hA_20 : (cV 2 M oa 2).toInt = (v1_2 : Int32).toInt := by rw [cV_of hM1 rfl]
      have hA_21 : (cV 2 M oa 4).toInt = ((v1_4 : Nat) : Int) := by rw [cV_of hM1 rfl]; exact nI_toInt (by omega)
      have hA_22 : (cV 2 M oa 5).toInt = ((v1_5 : Nat) : Int) := by rw [cV_of hM1 rfl]; exact nI_toInt (by omega)
      have hA_23 : (cV 2 M oa 9).toInt = ((v1_9 : Nat) : Int) := by rw [cV_of hM1 rfl]; exact nI_toInt (by omega)
      have hA_24 : (cV 2 M oa 11).toInt = ((v1_11 : Nat) : Int) := by rw [cV_of hM1 rfl]; exact nI_toInt (by omega)
      have hA_25 : (cV 2 M oa 15).toInt = (v1_15 : Int32).toInt := by rw [cV_of hM1 rfl]
      rw [hQ]
      exact W.iret (v := v1_1) hx hb hr (fun t ht hW9 => ⟨⟨v1_1, (), rfl, (Or.inr ⟨(cV_of (j := 1) hM1 rfl).symm, by omega⟩), ⟨by rw [ht]; exact hP, hD⟩⟩, hS.F ht⟩) hS.2.2 dX2_firstOfNextYear_36
    · have hz := rfl (a := 0)
      have n_26 : ¬ (12 < v1_4) := fun q => c_14 ((iLT (a := 12) (b := v1_4) (by omega) (by omega)).mpr q)
      refine lv_aload_n hx hb dX2_firstOfNextYear_16 rfl (lv_at hl 0 rfl) ?_
      refine pg_get (D := D) (ci := 2) (v := .ref v1_3) (C := RX2) (T := TX2) (N := 20) hx hb hg inG2 hown hK hP ia.1 hM1 rfl 3 (by decide) (hg _ wd_84) (fun _ h9 => h9) rfl dX2_firstOfNextYear_17 ?_
      refine lv_aload_n hx hb dX2_firstOfNextYear_20 rfl (lv_at hl 0 rfl) ?_
      refine pg_get (D := D) (ci := 2) (v := .int (nI v1_4)) (C := RX2) (T := TX2) (N := 20) hx hb hg inG2 hown hK hP ia.1 hM1 rfl 4 (by decide) (hg _ wd_82) (fun _ h9 => h9) rfl dX2_firstOfNextYear_21 ?_
      refine lv_iconst (v := 1) hx hb dX2_firstOfNextYear_24 (by decide) ?_
      refine lv_isub hx hb dX2_firstOfNextYear_25 ?_
      refine lv_topi (fun f_27 ef_27 => ?_)
      obtain rfl : f_27 = (nI (v1_4 - 1)) := ef_27.trans (nI_prd (by omega))
      obtain ⟨f28, hM28⟩ := hW.open_51 h1_3
      refine pg_iald hx hb hK hP h1_3.1 0 hM28 rfl (inbN (v1_4 - 1) 12 (by omega) (by omega)) dX2_firstOfNextYear_26 ?_
      refine lv_topi (fun f_29 ef_29 => ?_)
      refine lv_iconst (v := 1) hx hb dX2_firstOfNextYear_27 (by decide) ?_
      refine lv_iadd hx hb dX2_firstOfNextYear_28 ?_
      refine lv_topi (fun f_30 ef_30 => ?_)
      refine lv_goto (tgt := 36) hx hb dX2_firstOfNextYear_29 (by decide) ?_
      have hI_31 : (0 : Int) < ((v1_4 : Nat) : Int) := inleI (nI_toInt (by omega)) rfl c_2
      have hI_32 : ((v1_4 : Nat) : Int) ≤ (12 : Int) := inltI rfl (nI_toInt (by omega)) c_14
      have hA_33 : (cV 2 M oa 0).toInt = (v1_0 : Int32).toInt := by rw [cV_of hM1 rfl]
      have hA_34 : (cV 2 M oa 1).toInt = (v1_1 : Int32).toInt := by rw [cV_of hM1 rfl]
      have hA_35 : (cV 2 M oa 2).toInt = (v1_2 : Int32).toInt := by rw [cV_of hM1 rfl]
      have hA_36 : (cV 2 M oa 4).toInt = ((v1_4 : Nat) : Int) := by rw [cV_of hM1 rfl]; exact nI_toInt (by omega)
      have hA_37 : (cV 2 M oa 5).toInt = ((v1_5 : Nat) : Int) := by rw [cV_of hM1 rfl]; exact nI_toInt (by omega)
      have hA_38 : (cV 2 M oa 9).toInt = ((v1_9 : Nat) : Int) := by rw [cV_of hM1 rfl]; exact nI_toInt (by omega)
      have hA_39 : (cV 2 M oa 11).toInt = ((v1_11 : Nat) : Int) := by rw [cV_of hM1 rfl]; exact nI_toInt (by omega)
      have hA_40 : (cV 2 M oa 15).toInt = (v1_15 : Int32).toInt := by rw [cV_of hM1 rfl]
      rw [hQ]
      exact W.iret (v := f_30) hx hb hr (fun t ht hW9 => ⟨⟨f_30, (), rfl, (Or.inl ⟨f_29, ef_30, by omega, by show vEn M oa _ = _; unfold vEn; rw [rA_of (j := 3) hM1 rfl, IFc_of hM28, ef_29, nI_cl (by omega)]; congr 1; omega⟩), ⟨by rw [ht]; exact hP, hD⟩⟩, hS.F ht⟩) hS.2.2 dX2_firstOfNextYear_36
set_option maxHeartbeats 4000000 in
set_option maxRecDepth 100000 in
theorem x_end (l : Launch) (D : va_G) (cy : Nat → ClassId) (K : Kp) (L : List Nat) (M : Hp) (sz : Nat) (xa : Nat) (x0 : Nat) (x1 : Nat) (x2 : Nat) (x3 : Nat) (x4 : Nat) (x5 : Nat) (x6 : Nat) (x7 : Int32) (x8 : Nat) (x9 : Int32) (x10 : Int32) (k1 : Int32) (k2 : Int32) (Bo : Nat → Nat × Nat) (T : Int) (PK : Nat → Int32) (PT : Nat → Int32) (SX : Nat → Nat → Int) (SY : Nat → Nat → Nat → Int32) (hW : WOK cy K L M) (i0 : isk K L x0 17 8) (b1 : x1 ≤ 8) (i2 : isk K L x2 19 40) (b3 : x3 ≤ 40) (i4 : isk K L x4 7 0) (i5 : isk K L x5 5 0) (i6 : isk K L x6 60 24) (i8 : isk K L x8 73 25) (hC : CX Bo K L x0 x1 T x3 PK PT SX SY M) (hSV : ∀ k, k < x1 → SV (SX k) (SY k)) (hHI : ∀ k, k < x1 → HI (SX k) (SY k)) (hT : (0 ≤ T ∧ T ≤ 900000)) : Met l yX11_end (wsM yX11_end cX11_end 5 (some .int)) ({ frames := 2, cells := 0, slots := 0, locals := 43 }) (va_Pc [.ref xa, .int k1, .int k2] (PG D cy [(xa, (b11_1 x0 (nI x1) x2 (nI x3) x4 x5 x6 x7 x8 x9 x10))] L M sz)) (va_Qi (fun (r : Int32) (M9 : Hp) => WOK cy K L M9 ∧ fr K L [2, 51] M M9 ∧ fT 2 K L [4] M M9 ∧ (CX Bo K L x0 x1 (T + 1) x3 PK PT (sxEd x1 SX SY k1 k2) (syEd x1 SX SY k1 k2) M9) ∧ ((r = anEd x1 SX SY k1 k2))) (fun M9 t => ∃ (w9 : Int32), PQ D [(xa, (b11_1 x0 (nI x1) x2 (nI x3) x4 x5 x6 x7 x8 w9 (-1)))] L M9 (va_A ([(xa, (b11_1 x0 (nI x1) x2 (nI x3) x4 x5 x6 x7 x8 x9 x10))] ++ va_pl L M) sz) t) (va_A ([(xa, (b11_1 x0 (nI x1) x2 (nI x3) x4 x5 x6 x7 x8 x9 x10))] ++ va_pl L M) sz)) 0 0 (va_A ([(xa, (b11_1 x0 (nI x1) x2 (nI x3) x4 x5 x6 x7 x8 x9 x10))] ++ va_pl L M) sz) := by
  refine Met.ofW (cc := cX11_end) (maxL := 5) (ret := (some .int)) (by decide) rfl ?_
  intro p e s m args below meth c s₁ B hml hv
  obtain ⟨rfl, hsz, hP, hK, hD0, hN⟩ := hv
  have hx := B.exec
  have hb := B.bytes
  have hr := B.returns
  have hts := atoms_spec (ws := (wsM yX11_end cX11_end 5 (some .int))) B.pre
  have hg : ∀ w ∈ lw_good, w.before _ s = true := fun w h => hts w (List.mem_cons_of_mem _ h)
  have hown : s.vm.findClass RX11 = some m.cls := findClass_of_methodNamed B.named
  have hlocks := B.notSynchronized
  subst hsz
  have hD := hD0.self (sz := s.heap.size)
  generalize hAe : va_A ([(xa, (b11_1 x0 (nI x1) x2 (nI x3) x4 x5 x6 x7 x8 x9 x10))] ++ va_pl L M) s.heap.size = A at hD ⊢
  have hA : ∀ q : Nat, s.heap.size ≤ q → A q := fun q h => by rw [← hAe]; exact Or.inr h
  have hS : va_S A s.heap s.heap [] := va_S.rf
  have hl := lv_entry ([.ref xa, .int k1, .int k2]) (n := 5) (Nat.le_of_ble_eq_true rfl)
  rw [lg_entry_eq]
  generalize (lg_sl ([.ref xa, .int k1, .int k2]) ++ List.replicate (5 - (lg_sl ([.ref xa, .int k1, .int k2])).length) Slot.unset).toArray = ls at hl ⊢
  refine W.nameQ (fun Q hQ => ?_)
  refine W.nameR (fun R hR => ?_)
  have hRf : 2 ≤ R.frames := by rw [hR]; exact Nat.le_of_ble_eq_true rfl
  have hRl : 43 ≤ R.locals := by rw [hR]; exact Nat.le_of_ble_eq_true rfl
  have hRc : 0 ≤ R.cells := by rw [hR]; exact Nat.le_of_ble_eq_true rfl
  have hRs : 0 ≤ R.slots := by rw [hR]; exact Nat.le_of_ble_eq_true rfl
  have hF : fr K L [2, 51] M M := fr.rf
  have hT2 : fT 2 K L [4] M M := fT.rf
  have hl : lv_has ls 5 [(0, .ref xa), (1, .int k1), (2, .int k2)] := hl
  have hW0 := hW
  refine lv_aload_n hx hb dX11_end_0 rfl (lv_at hl 0 rfl) ?_
  refine lv_iload_n hx hb dX11_end_1 rfl (lv_at hl 1 rfl) ?_
  have hPc : va_P D vwCl ([(xa, (b11_1 x0 (nI x1) x2 (nI x3) x4 x5 x6 x7 x8 x9 x10))] ++ va_pl L M) s.heap := hP
  have hDc : va_D A ([(xa, (b11_1 x0 (nI x1) x2 (nI x3) x4 x5 x6 x7 x8 x9 x10))] ++ va_pl L M) := hD
  have hFc : ∀ q, va_A ([(xa, (b11_1 x0 (nI x1) x2 (nI x3) x4 x5 x6 x7 x8 x9 x10))] ++ va_pl L M) s.heap.size q → A q := pg_free hDc hS hA
  refine va_callq (va_runV (As := [.int k1]) (rest := []) ⟨hx, hb, hml, hown, hg⟩ (e_houseAt l D cy K L M s.heap.size xa x0 x1 x2 x3 x4 x5 x6 x7 x8 x9 x10 k1 Bo T PK PT SX SY  hW i0 b1 i2 b3 i4 i5 i6 i8 hC) (cwV 1 hg (gV wd_340 wd_341 wd_342 wd_3 wd_343) rfl rfl rfl (by decide +kernel) ⟨(Nat.le_trans (Nat.le_of_ble_eq_true rfl) hRf), (Nat.le_trans (Nat.le_of_ble_eq_true rfl) hRl)⟩) ⟨PG.blind, va_recv hK hP (ci := 11) (q0 := 0) rfl rfl, fun U hU hW => ⟨rfl, PG.at hPc hK hDc hN hU hW⟩⟩ rfl rfl hl.1 rfl (lv_room (Nat.le_of_ble_eq_true rfl)) dX11_end_2 ⟨(Nat.le_trans (Nat.le_of_ble_eq_true rfl) hRc), (Nat.le_trans (Nat.le_of_ble_eq_true rfl) hRs)⟩) hS (fun q _ h => hFc q h) hFc (fun r_2 M_3 t H_1 locs ht hvm hw hB hz1 hk1 hS => ?_)
  have hp_4 := hw
  obtain ⟨hP1, hD1⟩ := hB
  rw [ht] at hP1
  have hP : va_P D vwCl ([(xa, (b11_1 x0 (nI x1) x2 (nI x3) x4 x5 x6 x7 x8 x9 x10))] ++ va_pl L M) H_1 := hP1
  have hD : va_D A ([(xa, (b11_1 x0 (nI x1) x2 (nI x3) x4 x5 x6 x7 x8 x9 x10))] ++ va_pl L M) := hD1.mono hFc
  obtain ⟨hp_4, hqx⟩ := hp_4
  rcases r_2 with _ | b_5
  · have hz := rfl (a := 0)
    refine lv_astore_nN (lv' := [(3, .null), (0, .ref xa), (1, .int k1), (2, .int k2)]) hx hb dX11_end_5 rfl hl (by decide) rfl (fun ls hl => ?_)
    refine lv_aload_nN hx hb dX11_end_6 rfl (lv_at hl 0 rfl) ?_
    refine lv_ifnonnullN hx hb dX11_end_7 ?_
    refine lv_aload_n hx hb dX11_end_10 rfl (lv_at hl 1 rfl) ?_
    refine lv_iconst (v := 1) hx hb dX11_end_11 (by decide) ?_
    have hPc := hP.sub (ws' := [(xa, (b11_1 x0 (nI x1) x2 (nI x3) x4 x5 x6 x7 x8 x9 x10))]) [0] rfl
    have hDc := hD.sub (ws' := [(xa, (b11_1 x0 (nI x1) x2 (nI x3) x4 x5 x6 x7 x8 x9 x10))]) [0] (by decide) rfl
    have hKc := hK.sub (tys' := []) [] rfl
    have hFc := va_free (wc := [(xa, (b11_1 x0 (nI x1) x2 (nI x3) x4 x5 x6 x7 x8 x9 x10))]) hD hS hA [0] rfl
    refine va_calli (va_runV (As := [.int 1]) (rest := []) ⟨hx, hb, hml, hown, hg⟩ (k_refuse l D H_1.size xa x0 (nI x1) x2 (nI x3) x4 x5 x6 x7 x8 x9 x10 1) (cwV 1 hg (gV wd_344 wd_345 wd_346 wd_3 wd_347) rfl rfl rfl (by decide +kernel) ⟨(Nat.le_trans (Nat.le_of_ble_eq_true rfl) hRf), (Nat.le_trans (Nat.le_of_ble_eq_true rfl) hRl)⟩) ⟨Pr.blind, va_recv hK hP (ci := 11) (q0 := 0) rfl rfl, fun U hU hW => ⟨rfl, Pr.at hPc hKc hDc hN hU hW⟩⟩ rfl rfl hl.1 rfl (lv_room (Nat.le_of_ble_eq_true rfl)) dX11_end_12 ⟨(Nat.le_trans (Nat.le_of_ble_eq_true rfl) hRc), (Nat.le_trans (Nat.le_of_ble_eq_true rfl) hRs)⟩) hS (fun q _ h => hFc q h) hFc (fun r_7 M_8 t H_6 locs ht hvm hw hB hz1 hk1 hS => ?_)
    have hp_9 := hw
    obtain ⟨hP1, hK1, hD1⟩ := hB
    rw [ht] at hP1
    obtain ⟨hP, hD⟩ := va_joinQ (X := [(xa, (b11_1 x0 (nI x1) x2 (nI x3) x4 x5 x6 x7 x8 x9 x10))]) (cx := [(xa, (b11_1 x0 (nI x1) x2 (nI x3) x4 x5 x6 x7 x8 x9 x10))]) (wr := []) (w1 := [(xa, (b11_1 x0 (nI x1) x2 (nI x3) x4 x5 x6 x7 x8 1 (-1)))]) (pl := va_pl L M) hP hD [0] [] rfl rfl (by decide) (by decide) hk1 hFc hP1 hD1
    have hP : va_P D vwCl ([(xa, (b11_1 x0 (nI x1) x2 (nI x3) x4 x5 x6 x7 x8 1 (-1)))] ++ va_pl L M) H_6 := hP
    have hD : va_D A ([(xa, (b11_1 x0 (nI x1) x2 (nI x3) x4 x5 x6 x7 x8 1 (-1)))] ++ va_pl L M) := hD
    have hq := Eq.symm hp_9
    subst hq
    have hnh := hqx.2 rfl
    have hno : ¬ okEd x1 SX SY k1 k2 := fun q9 => by unfold okEd okH at q9; first | omega | (obtain ⟨⟨_, _⟩, _, _, _, _, _⟩ := q9; first | omega | contradiction)
    rw [hQ]
    exact W.iret (v := (-1)) hx hb hr (fun t ht hW9 => ⟨⟨(-1), M, rfl, ⟨hW, hF, hT2, (by unfold sxEd syEd; rw [if_neg hno, if_neg hno]; exact hC.mono), (by unfold anEd; rw [if_neg hno])⟩, ⟨1, by rw [ht]; exact hP, hD⟩⟩, hS.F ht⟩) hS.2.2 dX11_end_15
  · have hb_10 := hp_4 b_5 rfl
    refine lv_astore_n (lv' := [(3, .ref b_5), (0, .ref xa), (1, .int k1), (2, .int k2)]) hx hb dX11_end_5 rfl hl (by decide) rfl (fun ls hl => ?_)
    obtain ⟨hr9, hb9⟩ := hqx.1 b_5 rfl
    have hck : ((k1 : Int32).toNatClampNeg : Int) = (k1 : Int32).toInt := clT (by omega)
    have hkn : (k1 : Int32).toNatClampNeg < x1 := by omega
    have hSM := hC.at hkn hb9
    have hSVk := hSV (k1 : Int32).toNatClampNeg hkn
    have hHIk := hHI (k1 : Int32).toNatClampNeg hkn
    have hV : VC Bo K L M M b_5 (cfx M b_5) (cax M b_5) := VC.rf b_5 hC.oc
    obtain ⟨v11_0, v11_1, v11_2, v11_3, v11_4, v11_5, v11_6, v11_7, v11_8, v11_9, v11_10, v11_11, v11_12, v11_13, v11_14, v11_15, v11_16, v11_17, v11_18, v11_19, hM11, h11_3, h11_4, h11_5, h11_6, h11_7, h11_8, h11_9, h11_10, h11_11, h11_12, h11_13, h11_16, h11_17, h11_18, h11_19⟩ := hW.open_2 hb_10
    have hA_12 : (cV 2 M b_5 0).toInt = (v11_0 : Int32).toInt := by rw [cV_of hM11 rfl]
    have hA_13 : (cV 2 M b_5 1).toInt = (v11_1 : Int32).toInt := by rw [cV_of hM11 rfl]
    have hA_14 : (cV 2 M b_5 2).toInt = (v11_2 : Int32).toInt := by rw [cV_of hM11 rfl]
    have hA_15 : (cV 2 M b_5 4).toInt = ((v11_4 : Nat) : Int) := by rw [cV_of hM11 rfl]; exact nI_toInt (by omega)
    have hA_16 : (cV 2 M b_5 5).toInt = ((v11_5 : Nat) : Int) := by rw [cV_of hM11 rfl]; exact nI_toInt (by omega)
    have hA_17 : (cV 2 M b_5 9).toInt = ((v11_9 : Nat) : Int) := by rw [cV_of hM11 rfl]; exact nI_toInt (by omega)
    have hA_18 : (cV 2 M b_5 11).toInt = ((v11_11 : Nat) : Int) := by rw [cV_of hM11 rfl]; exact nI_toInt (by omega)
    have hA_19 : (cV 2 M b_5 15).toInt = (v11_15 : Int32).toInt := by rw [cV_of hM11 rfl]
    have hq0 : (cV 2 M b_5 1).toInt = SX (k1 : Int32).toNatClampNeg 0 := hSM.x0
    have hq1 : (cV 2 M b_5 2).toInt = SX (k1 : Int32).toNatClampNeg 1 := hSM.x1
    have hq10 : (cV 2 M b_5 9).toInt = SX (k1 : Int32).toNatClampNeg 10 := hSM.x10
    have hq11 : (cV 2 M b_5 11).toInt = SX (k1 : Int32).toNatClampNeg 11 := hSM.x11
    have hq12 : (cV 2 M b_5 4).toInt = SX (k1 : Int32).toNatClampNeg 12 := hSM.x12
    have hq13 : (cV 2 M b_5 5).toInt = SX (k1 : Int32).toNatClampNeg 13 := hSM.x13
    have hq14 : (cV 1 M v11_16 3).toInt = SX (k1 : Int32).toNatClampNeg 14 := by have h9 := hSM.x14; rw [← h9]; show _ = (cV 1 M (rA 2 M b_5 16) 3).toInt; rw [rA_of (j := 16) hM11 rfl]
    have hq15 : (cV 1 M v11_17 3).toInt = SX (k1 : Int32).toNatClampNeg 15 := by have h9 := hSM.x15; rw [← h9]; show _ = (cV 1 M (rA 2 M b_5 17) 3).toInt; rw [rA_of (j := 17) hM11 rfl]
    have hq16 : (cV 10 M v11_18 2).toInt = SX (k1 : Int32).toNatClampNeg 16 := by have h9 := hSM.x16; rw [← h9]; show _ = (cV 10 M (rA 2 M b_5 18) 2).toInt; rw [rA_of (j := 18) hM11 rfl]
    have hq19 : (cV 10 M v11_18 1).toInt = cfx M b_5 19 := by show _ = (cV 10 M (rA 2 M b_5 18) 1).toInt; rw [rA_of (j := 18) hM11 rfl]
    have hun := hSM.un
    have hl16 : (ALc (M (rA 1 M v11_16 1)) : Int) = 120 := by have h9 := hC.oc.l16 hW hb_10; rw [rA_of (j := 16) hM11 rfl] at h9; omega
    have hl17 : (ALc (M (rA 1 M v11_17 1)) : Int) = 20 := by have h9 := hC.oc.l17 hW hb_10; rw [rA_of (j := 17) hM11 rfl] at h9; omega
    have hbd0 := hSVk.b0
    have hbd1 := hSVk.b1
    have hbd10 := hSVk.b10
    have hbd11 := hSVk.b11
    have hbd12 := hSVk.b12
    have hbd13 := hSVk.b13
    have hbd14 := hSVk.b14
    have hbd15 := hSVk.b15
    have hbd16 := hSVk.b16
    have hqx14 : cfx M b_5 14 = SX (k1 : Int32).toNatClampNeg 14 := hSM.x14
    have hqx15 : cfx M b_5 15 = SX (k1 : Int32).toNatClampNeg 15 := hSM.x15
    have hqx16 : cfx M b_5 16 = SX (k1 : Int32).toNatClampNeg 16 := hSM.x16
    refine lv_aload_n hx hb dX11_end_6 rfl (lv_at hl 0 rfl) ?_
    refine lv_ifnonnull (tgt := 16) hx hb dX11_end_7 (by decide) ?_
    refine lv_aload_n hx hb dX11_end_16 rfl (lv_at hl 0 rfl) ?_
    have hPc : va_P D vwCl ([] ++ va_pl L M) H_1 := hP.part (cx := []) [] rfl
    have hDc : va_D A ([] ++ va_pl L M) := hD.part (cx := []) [] (by decide) rfl
    have hFc : ∀ q, va_A ([] ++ va_pl L M) H_1.size q → A q := pg_free hDc hS hA
    refine va_calli (va_runV (As := []) (rest := []) ⟨hx, hb, hml, hown, hg⟩ (e_fny l D cy K L M H_1.size b_5  hW hb_10) (cwV 0 hg (gV wd_433 wd_434 wd_435 wd_57 wd_436) rfl rfl rfl (by decide +kernel) ⟨(Nat.le_trans (Nat.le_of_ble_eq_true rfl) hRf), (Nat.le_trans (Nat.le_of_ble_eq_true rfl) hRl)⟩) ⟨PG.blind, pg_recv hK hP hb_10.1 hM11 rfl, fun U hU hW => ⟨rfl, PG.at hPc hK hDc hN hU hW⟩⟩ rfl rfl hl.1 rfl (lv_room (Nat.le_of_ble_eq_true rfl)) dX11_end_17 ⟨(Nat.le_trans (Nat.le_of_ble_eq_true rfl) hRc), (Nat.le_trans (Nat.le_of_ble_eq_true rfl) hRs)⟩) hS (fun q _ h => hFc q h) hFc (fun r_21 M_22 t H_20 locs ht hvm hw hB hz1 hk1 hS => ?_)
    have hp_23 := hw
    obtain ⟨hP1, hD1⟩ := hB
    rw [ht] at hP1
    obtain ⟨hP, hD⟩ := va_joinP (X := [(xa, (b11_1 x0 (nI x1) x2 (nI x3) x4 x5 x6 x7 x8 x9 x10))]) (cx := []) (wr := [(xa, (b11_1 x0 (nI x1) x2 (nI x3) x4 x5 x6 x7 x8 x9 x10))]) (rx := []) (pl := va_pl L M) (pl1 := va_pl L M) hP hD [] [0] rfl rfl (by decide) (by decide) hk1 hFc hP1 hD1
    have hP : va_P D vwCl ([(xa, (b11_1 x0 (nI x1) x2 (nI x3) x4 x5 x6 x7 x8 x9 x10))] ++ va_pl L M) H_20 := hP
    have hD : va_D A ([(xa, (b11_1 x0 (nI x1) x2 (nI x3) x4 x5 x6 x7 x8 x9 x10))] ++ va_pl L M) := hD
    rcases hp_23 with ⟨yf_24, rfl, c_25, c_26⟩ | ⟨rfl, c_27⟩
    · have hz := rfl (a := 0)
      have hyf : yf_24 = SY k1.toNatClampNeg 37 (SX k1.toNatClampNeg 12 - 1).toNat := by rw [← hSM.en (SX k1.toNatClampNeg 12 - 1).toNat (by omega), ← hq12]; exact c_26.symm
      have hyb := hSVk.r37 (SX k1.toNatClampNeg 12 - 1).toNat (by omega)
      rw [← hyf] at hyb
      have hya : (yf_24 + 1).toInt = yf_24.toInt + 1 := iaddI rfl rfl rfl (by show -2147483648 ≤ yf_24.toInt + 1; omega) (by show yf_24.toInt + 1 < 2147483648; omega)
      have hfr : (yf_24 + 1).toInt = frS (SX k1.toNatClampNeg) (SY k1.toNatClampNeg) := by unfold frS; rw [if_neg (by omega), ← hyf]; exact hya
      refine lv_istore (lv' := [(4, .int (yf_24 + 1)), (3, .ref b_5), (0, .ref xa), (1, .int k1), (2, .int k2)]) hx hb dX11_end_20 hl (by decide) rfl (fun ls hl => ?_)
      refine lv_iload_n hx hb dX11_end_22 rfl (lv_at hl 4 rfl) ?_
      refine lv_if_lt (tgt := 48) hx hb dX11_end_23 (by decide) (fun c_28 => ?_) (fun c_28 => ?_)
      · have hz := rfl (a := 0)
        refine lv_aload_n hx hb dX11_end_48 rfl (lv_at hl 2 rfl) ?_
        refine lv_iconst (v := 3) hx hb dX11_end_49 (by decide) ?_
        have hPc := hP.sub (ws' := [(xa, (b11_1 x0 (nI x1) x2 (nI x3) x4 x5 x6 x7 x8 x9 x10))]) [0] rfl
        have hDc := hD.sub (ws' := [(xa, (b11_1 x0 (nI x1) x2 (nI x3) x4 x5 x6 x7 x8 x9 x10))]) [0] (by decide) rfl
        have hKc := hK.sub (tys' := []) [] rfl
        have hFc := va_free (wc := [(xa, (b11_1 x0 (nI x1) x2 (nI x3) x4 x5 x6 x7 x8 x9 x10))]) hD hS hA [0] rfl
        refine va_calli (va_runV (As := [.int 3]) (rest := []) ⟨hx, hb, hml, hown, hg⟩ (k_refuse l D H_20.size xa x0 (nI x1) x2 (nI x3) x4 x5 x6 x7 x8 x9 x10 3) (cwV 1 hg (gV wd_344 wd_345 wd_346 wd_3 wd_347) rfl rfl rfl (by decide +kernel) ⟨(Nat.le_trans (Nat.le_of_ble_eq_true rfl) hRf), (Nat.le_trans (Nat.le_of_ble_eq_true rfl) hRl)⟩) ⟨Pr.blind, va_recv hK hP (ci := 11) (q0 := 0) rfl rfl, fun U hU hW => ⟨rfl, Pr.at hPc hKc hDc hN hU hW⟩⟩ rfl rfl hl.1 rfl (lv_room (Nat.le_of_ble_eq_true rfl)) dX11_end_50 ⟨(Nat.le_trans (Nat.le_of_ble_eq_true rfl) hRc), (Nat.le_trans (Nat.le_of_ble_eq_true rfl) hRs)⟩) hS (fun q _ h => hFc q h) hFc (fun r_30 M_31 t H_29 locs ht hvm hw hB hz1 hk1 hS => ?_)
        have hp_32 := hw
        obtain ⟨hP1, hK1, hD1⟩ := hB
        rw [ht] at hP1
        obtain ⟨hP, hD⟩ := va_joinQ (X := [(xa, (b11_1 x0 (nI x1) x2 (nI x3) x4 x5 x6 x7 x8 x9 x10))]) (cx := [(xa, (b11_1 x0 (nI x1) x2 (nI x3) x4 x5 x6 x7 x8 x9 x10))]) (wr := []) (w1 := [(xa, (b11_1 x0 (nI x1) x2 (nI x3) x4 x5 x6 x7 x8 3 (-1)))]) (pl := va_pl L M) hP hD [0] [] rfl rfl (by decide) (by decide) hk1 hFc hP1 hD1
        have hP : va_P D vwCl ([(xa, (b11_1 x0 (nI x1) x2 (nI x3) x4 x5 x6 x7 x8 3 (-1)))] ++ va_pl L M) H_29 := hP
        have hD : va_D A ([(xa, (b11_1 x0 (nI x1) x2 (nI x3) x4 x5 x6 x7 x8 3 (-1)))] ++ va_pl L M) := hD
        have hq := Eq.symm hp_32
        subst hq
        have hI_33 : (k2 : Int32).toInt < (0 : Int) := iltI rfl rfl c_28
        have hno : ¬ okEd x1 SX SY k1 k2 := fun q9 => by unfold okEd okH at q9; first | omega | (obtain ⟨⟨_, _⟩, _, _, _, _, _⟩ := q9; first | omega | contradiction)
        rw [hQ]
        exact W.iret (v := (-1)) hx hb hr (fun t ht hW9 => ⟨⟨(-1), M, rfl, ⟨hW, hF, hT2, (by unfold sxEd syEd; rw [if_neg hno, if_neg hno]; exact hC.mono), (by unfold anEd; rw [if_neg hno])⟩, ⟨3, by rw [ht]; exact hP, hD⟩⟩, hS.F ht⟩) hS.2.2 dX11_end_53
      · have hz := rfl (a := 0)
        refine lv_iload_n hx hb dX11_end_26 rfl (lv_at hl 4 rfl) ?_
        refine lv_sipush (v := 999) hx hb dX11_end_27 (by decide) ?_
        refine lv_icmp_gt (tgt := 48) hx hb dX11_end_30 (by decide) (fun c_34 => ?_) (fun c_34 => ?_)
        · have hz := rfl (a := 0)
          refine lv_aload_n hx hb dX11_end_48 rfl (lv_at hl 2 rfl) ?_
          refine lv_iconst (v := 3) hx hb dX11_end_49 (by decide) ?_
          have hPc := hP.sub (ws' := [(xa, (b11_1 x0 (nI x1) x2 (nI x3) x4 x5 x6 x7 x8 x9 x10))]) [0] rfl
          have hDc := hD.sub (ws' := [(xa, (b11_1 x0 (nI x1) x2 (nI x3) x4 x5 x6 x7 x8 x9 x10))]) [0] (by decide) rfl
          have hKc := hK.sub (tys' := []) [] rfl
          have hFc := va_free (wc := [(xa, (b11_1 x0 (nI x1) x2 (nI x3) x4 x5 x6 x7 x8 x9 x10))]) hD hS hA [0] rfl
          refine va_calli (va_runV (As := [.int 3]) (rest := []) ⟨hx, hb, hml, hown, hg⟩ (k_refuse l D H_20.size xa x0 (nI x1) x2 (nI x3) x4 x5 x6 x7 x8 x9 x10 3) (cwV 1 hg (gV wd_344 wd_345 wd_346 wd_3 wd_347) rfl rfl rfl (by decide +kernel) ⟨(Nat.le_trans (Nat.le_of_ble_eq_true rfl) hRf), (Nat.le_trans (Nat.le_of_ble_eq_true rfl) hRl)⟩) ⟨Pr.blind, va_recv hK hP (ci := 11) (q0 := 0) rfl rfl, fun U hU hW => ⟨rfl, Pr.at hPc hKc hDc hN hU hW⟩⟩ rfl rfl hl.1 rfl (lv_room (Nat.le_of_ble_eq_true rfl)) dX11_end_50 ⟨(Nat.le_trans (Nat.le_of_ble_eq_true rfl) hRc), (Nat.le_trans (Nat.le_of_ble_eq_true rfl) hRs)⟩) hS (fun q _ h => hFc q h) hFc (fun r_36 M_37 t H_35 locs ht hvm hw hB hz1 hk1 hS => ?_)
          have hp_38 := hw
          obtain ⟨hP1, hK1, hD1⟩ := hB
          rw [ht] at hP1
          obtain ⟨hP, hD⟩ := va_joinQ (X := [(xa, (b11_1 x0 (nI x1) x2 (nI x3) x4 x5 x6 x7 x8 x9 x10))]) (cx := [(xa, (b11_1 x0 (nI x1) x2 (nI x3) x4 x5 x6 x7 x8 x9 x10))]) (wr := []) (w1 := [(xa, (b11_1 x0 (nI x1) x2 (nI x3) x4 x5 x6 x7 x8 3 (-1)))]) (pl := va_pl L M) hP hD [0] [] rfl rfl (by decide) (by decide) hk1 hFc hP1 hD1
          have hP : va_P D vwCl ([(xa, (b11_1 x0 (nI x1) x2 (nI x3) x4 x5 x6 x7 x8 3 (-1)))] ++ va_pl L M) H_35 := hP
          have hD : va_D A ([(xa, (b11_1 x0 (nI x1) x2 (nI x3) x4 x5 x6 x7 x8 3 (-1)))] ++ va_pl L M) := hD
          have hq := Eq.symm hp_38
          subst hq
          have hI_39 : (0 : Int) ≤ (k2 : Int32).toInt := inltI rfl rfl c_28
          have hI_40 : (999 : Int) < (k2 : Int32).toInt := iltI rfl rfl c_34
          have hno : ¬ okEd x1 SX SY k1 k2 := fun q9 => by unfold okEd okH at q9; first | omega | (obtain ⟨⟨_, _⟩, _, _, _, _, _⟩ := q9; first | omega | contradiction)
          rw [hQ]
          exact W.iret (v := (-1)) hx hb hr (fun t ht hW9 => ⟨⟨(-1), M, rfl, ⟨hW, hF, hT2, (by unfold sxEd syEd; rw [if_neg hno, if_neg hno]; exact hC.mono), (by unfold anEd; rw [if_neg hno])⟩, ⟨3, by rw [ht]; exact hP, hD⟩⟩, hS.F ht⟩) hS.2.2 dX11_end_53
        · have hz := rfl (a := 0)
          refine lv_iload_n hx hb dX11_end_33 rfl (lv_at hl 4 rfl) ?_
          refine lv_iload hx hb dX11_end_34 (lv_at hl 0 rfl) ?_
          refine lv_icmp_lt (tgt := 48) hx hb dX11_end_36 (by decide) (fun c_41 => ?_) (fun c_41 => ?_)
          · have hz := rfl (a := 0)
            refine lv_aload_n hx hb dX11_end_48 rfl (lv_at hl 2 rfl) ?_
            refine lv_iconst (v := 3) hx hb dX11_end_49 (by decide) ?_
            have hPc := hP.sub (ws' := [(xa, (b11_1 x0 (nI x1) x2 (nI x3) x4 x5 x6 x7 x8 x9 x10))]) [0] rfl
            have hDc := hD.sub (ws' := [(xa, (b11_1 x0 (nI x1) x2 (nI x3) x4 x5 x6 x7 x8 x9 x10))]) [0] (by decide) rfl
            have hKc := hK.sub (tys' := []) [] rfl
            have hFc := va_free (wc := [(xa, (b11_1 x0 (nI x1) x2 (nI x3) x4 x5 x6 x7 x8 x9 x10))]) hD hS hA [0] rfl
            refine va_calli (va_runV (As := [.int 3]) (rest := []) ⟨hx, hb, hml, hown, hg⟩ (k_refuse l D H_20.size xa x0 (nI x1) x2 (nI x3) x4 x5 x6 x7 x8 x9 x10 3) (cwV 1 hg (gV wd_344 wd_345 wd_346 wd_3 wd_347) rfl rfl rfl (by decide +kernel) ⟨(Nat.le_trans (Nat.le_of_ble_eq_true rfl) hRf), (Nat.le_trans (Nat.le_of_ble_eq_true rfl) hRl)⟩) ⟨Pr.blind, va_recv hK hP (ci := 11) (q0 := 0) rfl rfl, fun U hU hW => ⟨rfl, Pr.at hPc hKc hDc hN hU hW⟩⟩ rfl rfl hl.1 rfl (lv_room (Nat.le_of_ble_eq_true rfl)) dX11_end_50 ⟨(Nat.le_trans (Nat.le_of_ble_eq_true rfl) hRc), (Nat.le_trans (Nat.le_of_ble_eq_true rfl) hRs)⟩) hS (fun q _ h => hFc q h) hFc (fun r_43 M_44 t H_42 locs ht hvm hw hB hz1 hk1 hS => ?_)
            have hp_45 := hw
            obtain ⟨hP1, hK1, hD1⟩ := hB
            rw [ht] at hP1
            obtain ⟨hP, hD⟩ := va_joinQ (X := [(xa, (b11_1 x0 (nI x1) x2 (nI x3) x4 x5 x6 x7 x8 x9 x10))]) (cx := [(xa, (b11_1 x0 (nI x1) x2 (nI x3) x4 x5 x6 x7 x8 x9 x10))]) (wr := []) (w1 := [(xa, (b11_1 x0 (nI x1) x2 (nI x3) x4 x5 x6 x7 x8 3 (-1)))]) (pl := va_pl L M) hP hD [0] [] rfl rfl (by decide) (by decide) hk1 hFc hP1 hD1
            have hP : va_P D vwCl ([(xa, (b11_1 x0 (nI x1) x2 (nI x3) x4 x5 x6 x7 x8 3 (-1)))] ++ va_pl L M) H_42 := hP
            have hD : va_D A ([(xa, (b11_1 x0 (nI x1) x2 (nI x3) x4 x5 x6 x7 x8 3 (-1)))] ++ va_pl L M) := hD
            have hq := Eq.symm hp_45
            subst hq
            have hI_46 : (0 : Int) ≤ (k2 : Int32).toInt := inltI rfl rfl c_28
            have hI_47 : (k2 : Int32).toInt ≤ (999 : Int) := inltI rfl rfl c_34
            have hI_48 : (k2 : Int32).toInt < ((yf_24 + 1) : Int32).toInt := iltI rfl rfl c_41
            have hno : ¬ okEd x1 SX SY k1 k2 := fun q9 => by unfold okEd okH at q9; first | omega | (obtain ⟨⟨_, _⟩, _, _, _, _, _⟩ := q9; first | omega | contradiction)
            rw [hQ]
            exact W.iret (v := (-1)) hx hb hr (fun t ht hW9 => ⟨⟨(-1), M, rfl, ⟨hW, hF, hT2, (by unfold sxEd syEd; rw [if_neg hno, if_neg hno]; exact hC.mono), (by unfold anEd; rw [if_neg hno])⟩, ⟨3, by rw [ht]; exact hP, hD⟩⟩, hS.F ht⟩) hS.2.2 dX11_end_53
          · have hz := rfl (a := 0)
            refine lv_iload_n hx hb dX11_end_39 rfl (lv_at hl 4 rfl) ?_
            refine lv_iload hx hb dX11_end_40 (lv_at hl 0 rfl) ?_
            refine lv_isub hx hb dX11_end_42 ?_
            refine lv_topi (fun f_49 ef_49 => ?_)
            refine lv_bipush (v := 100) hx hb dX11_end_43 (by decide) ?_
            refine lv_icmp_lt (tgt := 54) hx hb dX11_end_45 (by decide) (fun c_50 => ?_) (fun c_50 => ?_)
            · have hz := rfl (a := 0)
              refine lv_aload_n hx hb dX11_end_54 rfl (lv_at hl 1 rfl) ?_
              refine pg_get (D := D) (ci := 2) (v := .int (nI v11_4)) (C := RX2) (T := TX2) (N := 20) hx hb hg inG2 hown hK hP hb_10.1 hM11 rfl 4 (by decide) (hg _ wd_437) (fun _ h9 => h9) rfl dX11_end_55 ?_
              refine lv_bipush (v := 12) hx hb dX11_end_58 (by decide) ?_
              refine lv_icmp_lt (tgt := 70) hx hb dX11_end_60 (by decide) (fun c_51 => ?_) (fun c_51 => ?_)
              · have hz := rfl (a := 0)
                have n_52 : v11_4 < 12 := (iLT (a := v11_4) (b := 12) (by omega) (by omega)).mp c_51
                refine lv_aload_n hx hb dX11_end_70 rfl (lv_at hl 1 rfl) ?_
                refine pg_get (D := D) (ci := 2) (v := .ref v11_3) (C := RX2) (T := TX2) (N := 20) hx hb hg inG2 hown hK hP hb_10.1 hM11 rfl 3 (by decide) (hg _ wd_438) (fun _ h9 => h9) rfl dX11_end_71 ?_
                refine lv_aload_n hx hb dX11_end_74 rfl (lv_at hl 1 rfl) ?_
                refine pg_get (D := D) (ci := 2) (v := .int (nI v11_4)) (C := RX2) (T := TX2) (N := 20) hx hb hg inG2 hown hK hP hb_10.1 hM11 rfl 4 (by decide) (hg _ wd_437) (fun _ h9 => h9) rfl dX11_end_75 ?_
                refine lv_iload_n hx hb dX11_end_78 rfl (lv_at hl 4 rfl) ?_
                obtain ⟨f53, hM53⟩ := hW.open_51 h11_3
                refine pg_iast hx hb hK hP hD hS h11_3.1 0 hM53 rfl (inbN v11_4 12 (by omega) (by omega)) dX11_end_79 (fun H_54 locs hP hD hS => ?_)
                obtain ⟨M_55, eM_55⟩ : ∃ M1 : Hp, M1 = va_up M v11_3 (.inl (cy 14, 12, .inl (upd f53 ((nI v11_4) : Int32).toNatClampNeg k2))) := ⟨_, rfl⟩
                have sM_55 : M_55 = sA M v11_3 ((nI v11_4) : Int32).toNatClampNeg k2 := eM_55.trans (sA_of hM53)
                have hV : VC Bo K L M M_55 b_5 (cfx M b_5) (va_up (cax M b_5) 37 (upd ((cax M b_5) 37) ((nI v11_4) : Int32).toNatClampNeg k2)) := by rw [sM_55]; exact VC.a_en hV hW hb_10 (rA_of (j := 3) hM11 rfl) hM53
                have hP : va_P D vwCl ([(xa, (b11_1 x0 (nI x1) x2 (nI x3) x4 x5 x6 x7 x8 x9 x10))] ++ va_pl L M_55) H_54 := by rw [eM_55]; exact hP
                have hD : va_D A ([(xa, (b11_1 x0 (nI x1) x2 (nI x3) x4 x5 x6 x7 x8 x9 x10))] ++ va_pl L M_55) := by rw [eM_55]; exact hD
                have hW : WOK cy K L M_55 := by rw [eM_55]; exact hW.up_51 h11_3 ⟨_, rfl⟩
                have hF : fr K L [2, 51] M M_55 := by rw [eM_55]; exact hF.up h11_3 (by decide)
                have hT2 : fT 2 K L [4] M M_55 := by rw [eM_55]; exact hT2.ne h11_3 (by decide)
                have hM_56 : M_55 v11_3 = .inl (cy 14, 12, .inl (upd f53 ((nI v11_4) : Int32).toNatClampNeg k2)) := by rw [eM_55]; exact va_up_self _ _ _
                have hM_57 : M_55 b_5 = (b2_2 v11_0 v11_1 v11_2 v11_3 (nI v11_4) (nI v11_5) v11_6 v11_7 v11_8 (nI v11_9) v11_10 (nI v11_11) v11_12 v11_13 v11_14 v11_15 v11_16 v11_17 v11_18 v11_19) := by rw [eM_55, va_up_ne _ _ (hb_10.neT h11_3 (by decide))]; exact hM11
                obtain ⟨f_58, ef_58⟩ : ∃ f : Nat → Int32, f = upd f53 ((nI v11_4) : Int32).toNatClampNeg k2 := ⟨_, rfl⟩
                rw [← ef_58] at hM_56
                clear ef_58
                refine lv_aload_n hx hb dX11_end_80 rfl (lv_at hl 1 rfl) ?_
                refine lv_dup hx hb dX11_end_81 rfl ?_
                refine pg_get (D := D) (ci := 2) (v := .int (nI v11_4)) (C := RX2) (T := TX2) (N := 20) hx hb hg inG2 hown hK hP hb_10.1 hM_57 rfl 4 (by decide) (hg _ wd_437) (fun _ h9 => h9) rfl dX11_end_82 ?_
                refine lv_iconst (v := 1) hx hb dX11_end_85 (by decide) ?_
                refine lv_iadd hx hb dX11_end_86 ?_
                refine lv_topi (fun f_59 ef_59 => ?_)
                obtain rfl : f_59 = (nI (v11_4 + 1)) := ef_59.trans (nI_add v11_4 1)
                refine pg_put (D := D) (ci := 2) (v := .int (nI (v11_4 + 1))) (ty := .int) (C := RX2) (T := TX2) (N := 20) hx hb hg inG2 tyX2 tyX2_ok nmX2 hown hK hP hD hS hb_10.1 hM_57 rfl 4 (by decide) (hg _ wd_437) (fun _ h9 => h9) rfl (by decide +kernel) rfl rfl (Nat.le_of_ble_eq_true rfl) dX11_end_87 (fun H_60 locs hP hD hS => ?_)
                obtain ⟨M_61, eM_61⟩ : ∃ M1 : Hp, M1 = va_up M_55 b_5 ((b2_2 v11_0 v11_1 v11_2 v11_3 (nI (v11_4 + 1)) (nI v11_5) v11_6 v11_7 v11_8 (nI v11_9) v11_10 (nI v11_11) v11_12 v11_13 v11_14 v11_15 v11_16 v11_17 v11_18 v11_19)) := ⟨_, rfl⟩
                have sM_61 : M_61 = sF M_55 b_5 4 (.int (nI (v11_4 + 1))) := eM_61.trans (sF_of (j := 4) (v := .int (nI (v11_4 + 1))) hM_57 rfl)
                have hV : VC Bo K L M M_61 b_5 (va_up (cfx M b_5) 12 (((v11_4 + 1) : Nat) : Int)) (va_up (cax M b_5) 37 (upd ((cax M b_5) 37) ((nI v11_4) : Int32).toNatClampNeg k2)) := by rw [sM_61]; have h9 := VC.f4 (v := (nI (v11_4 + 1))) hV hW hb_10 hM_57 (Nat.le_of_ble_eq_true rfl); rw [show ((nI (v11_4 + 1)) : Int32).toInt = (((v11_4 + 1) : Nat) : Int) from (nI_toInt (by omega))] at h9; exact h9
                have hP : va_P D vwCl ([(xa, (b11_1 x0 (nI x1) x2 (nI x3) x4 x5 x6 x7 x8 x9 x10))] ++ va_pl L M_61) H_60 := by rw [eM_61]; exact hP
                have hD : va_D A ([(xa, (b11_1 x0 (nI x1) x2 (nI x3) x4 x5 x6 x7 x8 x9 x10))] ++ va_pl L M_61) := by rw [eM_61]; exact hD
                have hW : WOK cy K L M_61 := by rw [eM_61]; exact hW.up_2 hb_10 ⟨v11_0, v11_1, v11_2, v11_3, (v11_4 + 1), v11_5, v11_6, v11_7, v11_8, v11_9, v11_10, v11_11, v11_12, v11_13, v11_14, v11_15, v11_16, v11_17, v11_18, v11_19, rfl, h11_3, (by omega), h11_5, h11_6, h11_7, h11_8, h11_9, h11_10, h11_11, h11_12, h11_13, h11_16, h11_17, h11_18, h11_19⟩
                have hF : fr K L [2, 51] M M_61 := by rw [eM_61]; exact hF.up hb_10 (by decide)
                have hT2 : fT 2 K L [4] M M_61 := by rw [eM_61]; exact hT2.up (i := 4) hM_57 rfl (by decide)
                have hM_62 : M_61 b_5 = (b2_2 v11_0 v11_1 v11_2 v11_3 (nI (v11_4 + 1)) (nI v11_5) v11_6 v11_7 v11_8 (nI v11_9) v11_10 (nI v11_11) v11_12 v11_13 v11_14 v11_15 v11_16 v11_17 v11_18 v11_19) := by rw [eM_61]; exact va_up_self _ _ _
                have hM_63 : M_61 v11_3 = .inl (cy 14, 12, .inl (f_58)) := by rw [eM_61, va_up_ne _ _ (h11_3.neT hb_10 (by decide))]; exact hM_56
                have hb_64 : (v11_4 + 1) ≤ 12 := by omega
                refine lv_aload_n hx hb dX11_end_90 rfl (lv_at hl 2 rfl) ?_
                refine lv_aload_n hx hb dX11_end_91 rfl (lv_at hl 1 rfl) ?_
                refine pg_get (D := D) (ci := 2) (v := .int (nI (v11_4 + 1))) (C := RX2) (T := TX2) (N := 20) hx hb hg inG2 hown hK hP hb_10.1 hM_62 rfl 4 (by decide) (hg _ wd_437) (fun _ h9 => h9) rfl dX11_end_92 ?_
                have hPc := hP.sub (ws' := [(xa, (b11_1 x0 (nI x1) x2 (nI x3) x4 x5 x6 x7 x8 x9 x10))]) [0] rfl
                have hDc := hD.sub (ws' := [(xa, (b11_1 x0 (nI x1) x2 (nI x3) x4 x5 x6 x7 x8 x9 x10))]) [0] (by decide) rfl
                have hKc := hK.sub (tys' := []) [] rfl
                have hFc := va_free (wc := [(xa, (b11_1 x0 (nI x1) x2 (nI x3) x4 x5 x6 x7 x8 x9 x10))]) hD hS hA [0] rfl
                refine va_calli (va_runV (As := [.int (nI (v11_4 + 1))]) (rest := []) ⟨hx, hb, hml, hown, hg⟩ (k_accept l D H_60.size xa x0 (nI x1) x2 (nI x3) x4 x5 x6 x7 x8 x9 x10 (nI (v11_4 + 1))) (cwV 1 hg (gV wd_356 wd_357 wd_358 wd_3 wd_359) rfl rfl rfl (by decide +kernel) ⟨(Nat.le_trans (Nat.le_of_ble_eq_true rfl) hRf), (Nat.le_trans (Nat.le_of_ble_eq_true rfl) hRl)⟩) ⟨Pr.blind, va_recv hK hP (ci := 11) (q0 := 0) rfl rfl, fun U hU hW => ⟨rfl, Pr.at hPc hKc hDc hN hU hW⟩⟩ rfl rfl hl.1 rfl (lv_room (Nat.le_of_ble_eq_true rfl)) dX11_end_95 ⟨(Nat.le_trans (Nat.le_of_ble_eq_true rfl) hRc), (Nat.le_trans (Nat.le_of_ble_eq_true rfl) hRs)⟩) hS (fun q _ h => hFc q h) hFc (fun r_66 M_67 t H_65 locs ht hvm hw hB hz1 hk1 hS => ?_)
                have hp_68 := hw
                obtain ⟨hP1, hK1, hD1⟩ := hB
                rw [ht] at hP1
                obtain ⟨hP, hD⟩ := va_joinQ (X := [(xa, (b11_1 x0 (nI x1) x2 (nI x3) x4 x5 x6 x7 x8 x9 x10))]) (cx := [(xa, (b11_1 x0 (nI x1) x2 (nI x3) x4 x5 x6 x7 x8 x9 x10))]) (wr := []) (w1 := [(xa, (b11_1 x0 (nI x1) x2 (nI x3) x4 x5 x6 x7 x8 0 (-1)))]) (pl := va_pl L M_61) hP hD [0] [] rfl rfl (by decide) (by decide) hk1 hFc hP1 hD1
                have hP : va_P D vwCl ([(xa, (b11_1 x0 (nI x1) x2 (nI x3) x4 x5 x6 x7 x8 0 (-1)))] ++ va_pl L M_61) H_65 := hP
                have hD : va_D A ([(xa, (b11_1 x0 (nI x1) x2 (nI x3) x4 x5 x6 x7 x8 0 (-1)))] ++ va_pl L M_61) := hD
                have hq := Eq.symm hp_68
                subst hq
                have hI_69 : (0 : Int) ≤ (k2 : Int32).toInt := inltI rfl rfl c_28
                have hI_70 : (k2 : Int32).toInt ≤ (999 : Int) := inltI rfl rfl c_34
                have hI_71 : ((yf_24 + 1) : Int32).toInt ≤ (k2 : Int32).toInt := inltI rfl rfl c_41
                have hI_72 : (f_49 : Int32).toInt < (100 : Int) := iltI rfl rfl c_50
                have hI_73 : ((v11_4 : Nat) : Int) < (12 : Int) := iltI (nI_toInt (by omega)) rfl c_51
                have hI_74 : (f_49 : Int32).toInt = (k2 : Int32).toInt - ((yf_24 + 1) : Int32).toInt := isubI rfl rfl ef_49 (by omega) (by omega)
                have hyes : okEd x1 SX SY k1 k2 := by unfold okEd okH; refine ⟨⟨?_, ?_⟩, ?_, ?_, ?_, ?_, ?_⟩ <;> first | omega | assumption
                have hV := hV.cg (X' := va_up (cfx M b_5) 12 (cfx M b_5 12 + 1)) (Y' := va_up (cax M b_5) 37 (upd (cax M b_5 37) (cfx M b_5 12).toNat k2)) (by rw [show ((v11_4 + 1 : Nat) : Int) = cfx M b_5 12 + 1 by have h9 := hSM.x12; omega]) (by rw [nI_cl (by omega), show v11_4 = (cfx M b_5 12).toNat by have h9 := hSM.x12; omega])
                rw [hQ]
                exact W.iret (v := (nI (v11_4 + 1))) hx hb hr (fun t ht hW9 => ⟨⟨(nI (v11_4 + 1)), M_61, rfl, ⟨hW, hF, hT2, (by unfold sxEd syEd; rw [if_pos hyes, if_pos hyes]; have hZ := hC.fin hW0 i0 b1 hkn hb9 hV ext.rf (by rw [hF.at i0 (by decide)]) (fun q iq => ⟨iq, cR_c (fr.cv hF (by decide) q iq 3 rfl)⟩) (((hSM.ends (d := k2) hbd12.1).up1)); exact hZ), (by unfold anEd; rw [if_pos hyes]; exact congrArg nI (by omega))⟩, ⟨0, by rw [ht]; exact hP, hD⟩⟩, hS.F ht⟩) hS.2.2 dX11_end_98
              · have hz := rfl (a := 0)
                have n_75 : ¬ (v11_4 < 12) := fun q => c_51 ((iLT (a := v11_4) (b := 12) (by omega) (by omega)).mpr q)
                refine lv_aload_n hx hb dX11_end_63 rfl (lv_at hl 2 rfl) ?_
                refine lv_bipush (v := 9) hx hb dX11_end_64 (by decide) ?_
                have hPc := hP.sub (ws' := [(xa, (b11_1 x0 (nI x1) x2 (nI x3) x4 x5 x6 x7 x8 x9 x10))]) [0] rfl
                have hDc := hD.sub (ws' := [(xa, (b11_1 x0 (nI x1) x2 (nI x3) x4 x5 x6 x7 x8 x9 x10))]) [0] (by decide) rfl
                have hKc := hK.sub (tys' := []) [] rfl
                have hFc := va_free (wc := [(xa, (b11_1 x0 (nI x1) x2 (nI x3) x4 x5 x6 x7 x8 x9 x10))]) hD hS hA [0] rfl
                refine va_calli (va_runV (As := [.int 9]) (rest := []) ⟨hx, hb, hml, hown, hg⟩ (k_refuse l D H_20.size xa x0 (nI x1) x2 (nI x3) x4 x5 x6 x7 x8 x9 x10 9) (cwV 1 hg (gV wd_344 wd_345 wd_346 wd_3 wd_347) rfl rfl rfl (by decide +kernel) ⟨(Nat.le_trans (Nat.le_of_ble_eq_true rfl) hRf), (Nat.le_trans (Nat.le_of_ble_eq_true rfl) hRl)⟩) ⟨Pr.blind, va_recv hK hP (ci := 11) (q0 := 0) rfl rfl, fun U hU hW => ⟨rfl, Pr.at hPc hKc hDc hN hU hW⟩⟩ rfl rfl hl.1 rfl (lv_room (Nat.le_of_ble_eq_true rfl)) dX11_end_66 ⟨(Nat.le_trans (Nat.le_of_ble_eq_true rfl) hRc), (Nat.le_trans (Nat.le_of_ble_eq_true rfl) hRs)⟩) hS (fun q _ h => hFc q h) hFc (fun r_77 M_78 t H_76 locs ht hvm hw hB hz1 hk1 hS => ?_)
                have hp_79 := hw
                obtain ⟨hP1, hK1, hD1⟩ := hB
                rw [ht] at hP1
                obtain ⟨hP, hD⟩ := va_joinQ (X := [(xa, (b11_1 x0 (nI x1) x2 (nI x3) x4 x5 x6 x7 x8 x9 x10))]) (cx := [(xa, (b11_1 x0 (nI x1) x2 (nI x3) x4 x5 x6 x7 x8 x9 x10))]) (wr := []) (w1 := [(xa, (b11_1 x0 (nI x1) x2 (nI x3) x4 x5 x6 x7 x8 9 (-1)))]) (pl := va_pl L M) hP hD [0] [] rfl rfl (by decide) (by decide) hk1 hFc hP1 hD1
                have hP : va_P D vwCl ([(xa, (b11_1 x0 (nI x1) x2 (nI x3) x4 x5 x6 x7 x8 9 (-1)))] ++ va_pl L M) H_76 := hP
                have hD : va_D A ([(xa, (b11_1 x0 (nI x1) x2 (nI x3) x4 x5 x6 x7 x8 9 (-1)))] ++ va_pl L M) := hD
                have hq := Eq.symm hp_79
                subst hq
                have hI_80 : (0 : Int) ≤ (k2 : Int32).toInt := inltI rfl rfl c_28
                have hI_81 : (k2 : Int32).toInt ≤ (999 : Int) := inltI rfl rfl c_34
                have hI_82 : ((yf_24 + 1) : Int32).toInt ≤ (k2 : Int32).toInt := inltI rfl rfl c_41
                have hI_83 : (f_49 : Int32).toInt < (100 : Int) := iltI rfl rfl c_50
                have hI_84 : (12 : Int) ≤ ((v11_4 : Nat) : Int) := inltI (nI_toInt (by omega)) rfl c_51
                have hI_85 : (f_49 : Int32).toInt = (k2 : Int32).toInt - ((yf_24 + 1) : Int32).toInt := isubI rfl rfl ef_49 (by omega) (by omega)
                have hno : ¬ okEd x1 SX SY k1 k2 := fun q9 => by unfold okEd okH at q9; first | omega | (obtain ⟨⟨_, _⟩, _, _, _, _, _⟩ := q9; first | omega | contradiction)
                rw [hQ]
                exact W.iret (v := (-1)) hx hb hr (fun t ht hW9 => ⟨⟨(-1), M, rfl, ⟨hW, hF, hT2, (by unfold sxEd syEd; rw [if_neg hno, if_neg hno]; exact hC.mono), (by unfold anEd; rw [if_neg hno])⟩, ⟨9, by rw [ht]; exact hP, hD⟩⟩, hS.F ht⟩) hS.2.2 dX11_end_69
            · have hz := rfl (a := 0)
              refine lv_aload_n hx hb dX11_end_48 rfl (lv_at hl 2 rfl) ?_
              refine lv_iconst (v := 3) hx hb dX11_end_49 (by decide) ?_
              have hPc := hP.sub (ws' := [(xa, (b11_1 x0 (nI x1) x2 (nI x3) x4 x5 x6 x7 x8 x9 x10))]) [0] rfl
              have hDc := hD.sub (ws' := [(xa, (b11_1 x0 (nI x1) x2 (nI x3) x4 x5 x6 x7 x8 x9 x10))]) [0] (by decide) rfl
              have hKc := hK.sub (tys' := []) [] rfl
              have hFc := va_free (wc := [(xa, (b11_1 x0 (nI x1) x2 (nI x3) x4 x5 x6 x7 x8 x9 x10))]) hD hS hA [0] rfl
              refine va_calli (va_runV (As := [.int 3]) (rest := []) ⟨hx, hb, hml, hown, hg⟩ (k_refuse l D H_20.size xa x0 (nI x1) x2 (nI x3) x4 x5 x6 x7 x8 x9 x10 3) (cwV 1 hg (gV wd_344 wd_345 wd_346 wd_3 wd_347) rfl rfl rfl (by decide +kernel) ⟨(Nat.le_trans (Nat.le_of_ble_eq_true rfl) hRf), (Nat.le_trans (Nat.le_of_ble_eq_true rfl) hRl)⟩) ⟨Pr.blind, va_recv hK hP (ci := 11) (q0 := 0) rfl rfl, fun U hU hW => ⟨rfl, Pr.at hPc hKc hDc hN hU hW⟩⟩ rfl rfl hl.1 rfl (lv_room (Nat.le_of_ble_eq_true rfl)) dX11_end_50 ⟨(Nat.le_trans (Nat.le_of_ble_eq_true rfl) hRc), (Nat.le_trans (Nat.le_of_ble_eq_true rfl) hRs)⟩) hS (fun q _ h => hFc q h) hFc (fun r_87 M_88 t H_86 locs ht hvm hw hB hz1 hk1 hS => ?_)
              have hp_89 := hw
              obtain ⟨hP1, hK1, hD1⟩ := hB
              rw [ht] at hP1
              obtain ⟨hP, hD⟩ := va_joinQ (X := [(xa, (b11_1 x0 (nI x1) x2 (nI x3) x4 x5 x6 x7 x8 x9 x10))]) (cx := [(xa, (b11_1 x0 (nI x1) x2 (nI x3) x4 x5 x6 x7 x8 x9 x10))]) (wr := []) (w1 := [(xa, (b11_1 x0 (nI x1) x2 (nI x3) x4 x5 x6 x7 x8 3 (-1)))]) (pl := va_pl L M) hP hD [0] [] rfl rfl (by decide) (by decide) hk1 hFc hP1 hD1
              have hP : va_P D vwCl ([(xa, (b11_1 x0 (nI x1) x2 (nI x3) x4 x5 x6 x7 x8 3 (-1)))] ++ va_pl L M) H_86 := hP
              have hD : va_D A ([(xa, (b11_1 x0 (nI x1) x2 (nI x3) x4 x5 x6 x7 x8 3 (-1)))] ++ va_pl L M) := hD
              have hq := Eq.symm hp_89
              subst hq
              have hI_90 : (0 : Int) ≤ (k2 : Int32).toInt := inltI rfl rfl c_28
              have hI_91 : (k2 : Int32).toInt ≤ (999 : Int) := inltI rfl rfl c_34
              have hI_92 : ((yf_24 + 1) : Int32).toInt ≤ (k2 : Int32).toInt := inltI rfl rfl c_41
              have hI_93 : (100 : Int) ≤ (f_49 : Int32).toInt := inltI rfl rfl c_50
              have hI_94 : (f_49 : Int32).toInt = (k2 : Int32).toInt - ((yf_24 + 1) : Int32).toInt := isubI rfl rfl ef_49 (by omega) (by omega)
              have hno : ¬ okEd x1 SX SY k1 k2 := fun q9 => by unfold okEd okH at q9; first | omega | (obtain ⟨⟨_, _⟩, _, _, _, _, _⟩ := q9; first | omega | contradiction)
              rw [hQ]
              exact W.iret (v := (-1)) hx hb hr (fun t ht hW9 => ⟨⟨(-1), M, rfl, ⟨hW, hF, hT2, (by unfold sxEd syEd; rw [if_neg hno, if_neg hno]; exact hC.mono), (by unfold anEd; rw [if_neg hno])⟩, ⟨3, by rw [ht]; exact hP, hD⟩⟩, hS.F ht⟩) hS.2.2 dX11_end_53
    · have hz := rfl (a := 0)
      have hfr : (cV 2 M b_5 1).toInt = frS (SX k1.toNatClampNeg) (SY k1.toNatClampNeg) := by unfold frS; rw [if_pos (by omega)]; exact hq0
      refine lv_istore (lv' := [(4, .int (cV 2 M b_5 1)), (3, .ref b_5), (0, .ref xa), (1, .int k1), (2, .int k2)]) hx hb dX11_end_20 hl (by decide) rfl (fun ls hl => ?_)
      refine lv_iload_n hx hb dX11_end_22 rfl (lv_at hl 4 rfl) ?_
      refine lv_if_lt (tgt := 48) hx hb dX11_end_23 (by decide) (fun c_95 => ?_) (fun c_95 => ?_)
      · have hz := rfl (a := 0)
        refine lv_aload_n hx hb dX11_end_48 rfl (lv_at hl 2 rfl) ?_
        refine lv_iconst (v := 3) hx hb dX11_end_49 (by decide) ?_
        have hPc := hP.sub (ws' := [(xa, (b11_1 x0 (nI x1) x2 (nI x3) x4 x5 x6 x7 x8 x9 x10))]) [0] rfl
        have hDc := hD.sub (ws' := [(xa, (b11_1 x0 (nI x1) x2 (nI x3) x4 x5 x6 x7 x8 x9 x10))]) [0] (by decide) rfl
        have hKc := hK.sub (tys' := []) [] rfl
        have hFc := va_free (wc := [(xa, (b11_1 x0 (nI x1) x2 (nI x3) x4 x5 x6 x7 x8 x9 x10))]) hD hS hA [0] rfl
        refine va_calli (va_runV (As := [.int 3]) (rest := []) ⟨hx, hb, hml, hown, hg⟩ (k_refuse l D H_20.size xa x0 (nI x1) x2 (nI x3) x4 x5 x6 x7 x8 x9 x10 3) (cwV 1 hg (gV wd_344 wd_345 wd_346 wd_3 wd_347) rfl rfl rfl (by decide +kernel) ⟨(Nat.le_trans (Nat.le_of_ble_eq_true rfl) hRf), (Nat.le_trans (Nat.le_of_ble_eq_true rfl) hRl)⟩) ⟨Pr.blind, va_recv hK hP (ci := 11) (q0 := 0) rfl rfl, fun U hU hW => ⟨rfl, Pr.at hPc hKc hDc hN hU hW⟩⟩ rfl rfl hl.1 rfl (lv_room (Nat.le_of_ble_eq_true rfl)) dX11_end_50 ⟨(Nat.le_trans (Nat.le_of_ble_eq_true rfl) hRc), (Nat.le_trans (Nat.le_of_ble_eq_true rfl) hRs)⟩) hS (fun q _ h => hFc q h) hFc (fun r_97 M_98 t H_96 locs ht hvm hw hB hz1 hk1 hS => ?_)
        have hp_99 := hw
        obtain ⟨hP1, hK1, hD1⟩ := hB
        rw [ht] at hP1
        obtain ⟨hP, hD⟩ := va_joinQ (X := [(xa, (b11_1 x0 (nI x1) x2 (nI x3) x4 x5 x6 x7 x8 x9 x10))]) (cx := [(xa, (b11_1 x0 (nI x1) x2 (nI x3) x4 x5 x6 x7 x8 x9 x10))]) (wr := []) (w1 := [(xa, (b11_1 x0 (nI x1) x2 (nI x3) x4 x5 x6 x7 x8 3 (-1)))]) (pl := va_pl L M) hP hD [0] [] rfl rfl (by decide) (by decide) hk1 hFc hP1 hD1
        have hP : va_P D vwCl ([(xa, (b11_1 x0 (nI x1) x2 (nI x3) x4 x5 x6 x7 x8 3 (-1)))] ++ va_pl L M) H_96 := hP
        have hD : va_D A ([(xa, (b11_1 x0 (nI x1) x2 (nI x3) x4 x5 x6 x7 x8 3 (-1)))] ++ va_pl L M) := hD
        have hq := Eq.symm hp_99
        subst hq
        have hI_100 : (k2 : Int32).toInt < (0 : Int) := iltI rfl rfl c_95
        have hno : ¬ okEd x1 SX SY k1 k2 := fun q9 => by unfold okEd okH at q9; first | omega | (obtain ⟨⟨_, _⟩, _, _, _, _, _⟩ := q9; first | omega | contradiction)
        rw [hQ]
        exact W.iret (v := (-1)) hx hb hr (fun t ht hW9 => ⟨⟨(-1), M, rfl, ⟨hW, hF, hT2, (by unfold sxEd syEd; rw [if_neg hno, if_neg hno]; exact hC.mono), (by unfold anEd; rw [if_neg hno])⟩, ⟨3, by rw [ht]; exact hP, hD⟩⟩, hS.F ht⟩) hS.2.2 dX11_end_53
      · have hz := rfl (a := 0)
        refine lv_iload_n hx hb dX11_end_26 rfl (lv_at hl 4 rfl) ?_
        refine lv_sipush (v := 999) hx hb dX11_end_27 (by decide) ?_
        refine lv_icmp_gt (tgt := 48) hx hb dX11_end_30 (by decide) (fun c_101 => ?_) (fun c_101 => ?_)
        · have hz := rfl (a := 0)
          refine lv_aload_n hx hb dX11_end_48 rfl (lv_at hl 2 rfl) ?_
          refine lv_iconst (v := 3) hx hb dX11_end_49 (by decide) ?_
          have hPc := hP.sub (ws' := [(xa, (b11_1 x0 (nI x1) x2 (nI x3) x4 x5 x6 x7 x8 x9 x10))]) [0] rfl
          have hDc := hD.sub (ws' := [(xa, (b11_1 x0 (nI x1) x2 (nI x3) x4 x5 x6 x7 x8 x9 x10))]) [0] (by decide) rfl
          have hKc := hK.sub (tys' := []) [] rfl
          have hFc := va_free (wc := [(xa, (b11_1 x0 (nI x1) x2 (nI x3) x4 x5 x6 x7 x8 x9 x10))]) hD hS hA [0] rfl
          refine va_calli (va_runV (As := [.int 3]) (rest := []) ⟨hx, hb, hml, hown, hg⟩ (k_refuse l D H_20.size xa x0 (nI x1) x2 (nI x3) x4 x5 x6 x7 x8 x9 x10 3) (cwV 1 hg (gV wd_344 wd_345 wd_346 wd_3 wd_347) rfl rfl rfl (by decide +kernel) ⟨(Nat.le_trans (Nat.le_of_ble_eq_true rfl) hRf), (Nat.le_trans (Nat.le_of_ble_eq_true rfl) hRl)⟩) ⟨Pr.blind, va_recv hK hP (ci := 11) (q0 := 0) rfl rfl, fun U hU hW => ⟨rfl, Pr.at hPc hKc hDc hN hU hW⟩⟩ rfl rfl hl.1 rfl (lv_room (Nat.le_of_ble_eq_true rfl)) dX11_end_50 ⟨(Nat.le_trans (Nat.le_of_ble_eq_true rfl) hRc), (Nat.le_trans (Nat.le_of_ble_eq_true rfl) hRs)⟩) hS (fun q _ h => hFc q h) hFc (fun r_103 M_104 t H_102 locs ht hvm hw hB hz1 hk1 hS => ?_)
          have hp_105 := hw
          obtain ⟨hP1, hK1, hD1⟩ := hB
          rw [ht] at hP1
          obtain ⟨hP, hD⟩ := va_joinQ (X := [(xa, (b11_1 x0 (nI x1) x2 (nI x3) x4 x5 x6 x7 x8 x9 x10))]) (cx := [(xa, (b11_1 x0 (nI x1) x2 (nI x3) x4 x5 x6 x7 x8 x9 x10))]) (wr := []) (w1 := [(xa, (b11_1 x0 (nI x1) x2 (nI x3) x4 x5 x6 x7 x8 3 (-1)))]) (pl := va_pl L M) hP hD [0] [] rfl rfl (by decide) (by decide) hk1 hFc hP1 hD1
          have hP : va_P D vwCl ([(xa, (b11_1 x0 (nI x1) x2 (nI x3) x4 x5 x6 x7 x8 3 (-1)))] ++ va_pl L M) H_102 := hP
          have hD : va_D A ([(xa, (b11_1 x0 (nI x1) x2 (nI x3) x4 x5 x6 x7 x8 3 (-1)))] ++ va_pl L M) := hD
          have hq := Eq.symm hp_105
          subst hq
          have hI_106 : (0 : Int) ≤ (k2 : Int32).toInt := inltI rfl rfl c_95
          have hI_107 : (999 : Int) < (k2 : Int32).toInt := iltI rfl rfl c_101
          have hno : ¬ okEd x1 SX SY k1 k2 := fun q9 => by unfold okEd okH at q9; first | omega | (obtain ⟨⟨_, _⟩, _, _, _, _, _⟩ := q9; first | omega | contradiction)
          rw [hQ]
          exact W.iret (v := (-1)) hx hb hr (fun t ht hW9 => ⟨⟨(-1), M, rfl, ⟨hW, hF, hT2, (by unfold sxEd syEd; rw [if_neg hno, if_neg hno]; exact hC.mono), (by unfold anEd; rw [if_neg hno])⟩, ⟨3, by rw [ht]; exact hP, hD⟩⟩, hS.F ht⟩) hS.2.2 dX11_end_53
        · have hz := rfl (a := 0)
          refine lv_iload_n hx hb dX11_end_33 rfl (lv_at hl 4 rfl) ?_
          refine lv_iload hx hb dX11_end_34 (lv_at hl 0 rfl) ?_
          refine lv_icmp_lt (tgt := 48) hx hb dX11_end_36 (by decide) (fun c_108 => ?_) (fun c_108 => ?_)
          · have hz := rfl (a := 0)
            refine lv_aload_n hx hb dX11_end_48 rfl (lv_at hl 2 rfl) ?_
            refine lv_iconst (v := 3) hx hb dX11_end_49 (by decide) ?_
            have hPc := hP.sub (ws' := [(xa, (b11_1 x0 (nI x1) x2 (nI x3) x4 x5 x6 x7 x8 x9 x10))]) [0] rfl
            have hDc := hD.sub (ws' := [(xa, (b11_1 x0 (nI x1) x2 (nI x3) x4 x5 x6 x7 x8 x9 x10))]) [0] (by decide) rfl
            have hKc := hK.sub (tys' := []) [] rfl
            have hFc := va_free (wc := [(xa, (b11_1 x0 (nI x1) x2 (nI x3) x4 x5 x6 x7 x8 x9 x10))]) hD hS hA [0] rfl
            refine va_calli (va_runV (As := [.int 3]) (rest := []) ⟨hx, hb, hml, hown, hg⟩ (k_refuse l D H_20.size xa x0 (nI x1) x2 (nI x3) x4 x5 x6 x7 x8 x9 x10 3) (cwV 1 hg (gV wd_344 wd_345 wd_346 wd_3 wd_347) rfl rfl rfl (by decide +kernel) ⟨(Nat.le_trans (Nat.le_of_ble_eq_true rfl) hRf), (Nat.le_trans (Nat.le_of_ble_eq_true rfl) hRl)⟩) ⟨Pr.blind, va_recv hK hP (ci := 11) (q0 := 0) rfl rfl, fun U hU hW => ⟨rfl, Pr.at hPc hKc hDc hN hU hW⟩⟩ rfl rfl hl.1 rfl (lv_room (Nat.le_of_ble_eq_true rfl)) dX11_end_50 ⟨(Nat.le_trans (Nat.le_of_ble_eq_true rfl) hRc), (Nat.le_trans (Nat.le_of_ble_eq_true rfl) hRs)⟩) hS (fun q _ h => hFc q h) hFc (fun r_110 M_111 t H_109 locs ht hvm hw hB hz1 hk1 hS => ?_)
            have hp_112 := hw
            obtain ⟨hP1, hK1, hD1⟩ := hB
            rw [ht] at hP1
            obtain ⟨hP, hD⟩ := va_joinQ (X := [(xa, (b11_1 x0 (nI x1) x2 (nI x3) x4 x5 x6 x7 x8 x9 x10))]) (cx := [(xa, (b11_1 x0 (nI x1) x2 (nI x3) x4 x5 x6 x7 x8 x9 x10))]) (wr := []) (w1 := [(xa, (b11_1 x0 (nI x1) x2 (nI x3) x4 x5 x6 x7 x8 3 (-1)))]) (pl := va_pl L M) hP hD [0] [] rfl rfl (by decide) (by decide) hk1 hFc hP1 hD1
            have hP : va_P D vwCl ([(xa, (b11_1 x0 (nI x1) x2 (nI x3) x4 x5 x6 x7 x8 3 (-1)))] ++ va_pl L M) H_109 := hP
            have hD : va_D A ([(xa, (b11_1 x0 (nI x1) x2 (nI x3) x4 x5 x6 x7 x8 3 (-1)))] ++ va_pl L M) := hD
            have hq := Eq.symm hp_112
            subst hq
            have hI_113 : (0 : Int) ≤ (k2 : Int32).toInt := inltI rfl rfl c_95
            have hI_114 : (k2 : Int32).toInt ≤ (999 : Int) := inltI rfl rfl c_101
            have hI_115 : (k2 : Int32).toInt < ((cV 2 M b_5 1) : Int32).toInt := iltI rfl rfl c_108
            have hno : ¬ okEd x1 SX SY k1 k2 := fun q9 => by unfold okEd okH at q9; first | omega | (obtain ⟨⟨_, _⟩, _, _, _, _, _⟩ := q9; first | omega | contradiction)
            rw [hQ]
            exact W.iret (v := (-1)) hx hb hr (fun t ht hW9 => ⟨⟨(-1), M, rfl, ⟨hW, hF, hT2, (by unfold sxEd syEd; rw [if_neg hno, if_neg hno]; exact hC.mono), (by unfold anEd; rw [if_neg hno])⟩, ⟨3, by rw [ht]; exact hP, hD⟩⟩, hS.F ht⟩) hS.2.2 dX11_end_53
          · have hz := rfl (a := 0)
            refine lv_iload_n hx hb dX11_end_39 rfl (lv_at hl 4 rfl) ?_
            refine lv_iload hx hb dX11_end_40 (lv_at hl 0 rfl) ?_
            refine lv_isub hx hb dX11_end_42 ?_
            refine lv_topi (fun f_116 ef_116 => ?_)
            refine lv_bipush (v := 100) hx hb dX11_end_43 (by decide) ?_
            refine lv_icmp_lt (tgt := 54) hx hb dX11_end_45 (by decide) (fun c_117 => ?_) (fun c_117 => ?_)
            · have hz := rfl (a := 0)
              refine lv_aload_n hx hb dX11_end_54 rfl (lv_at hl 1 rfl) ?_
              refine pg_get (D := D) (ci := 2) (v := .int (nI v11_4)) (C := RX2) (T := TX2) (N := 20) hx hb hg inG2 hown hK hP hb_10.1 hM11 rfl 4 (by decide) (hg _ wd_437) (fun _ h9 => h9) rfl dX11_end_55 ?_
              refine lv_bipush (v := 12) hx hb dX11_end_58 (by decide) ?_
              refine lv_icmp_lt (tgt := 70) hx hb dX11_end_60 (by decide) (fun c_118 => ?_) (fun c_118 => ?_)
              · have hz := rfl (a := 0)
                have n_119 : v11_4 < 12 := (iLT (a := v11_4) (b := 12) (by omega) (by omega)).mp c_118
                refine lv_aload_n hx hb dX11_end_70 rfl (lv_at hl 1 rfl) ?_
                refine pg_get (D := D) (ci := 2) (v := .ref v11_3) (C := RX2) (T := TX2) (N := 20) hx hb hg inG2 hown hK hP hb_10.1 hM11 rfl 3 (by decide) (hg _ wd_438) (fun _ h9 => h9) rfl dX11_end_71 ?_
                refine lv_aload_n hx hb dX11_end_74 rfl (lv_at hl 1 rfl) ?_
                refine pg_get (D := D) (ci := 2) (v := .int (nI v11_4)) (C := RX2) (T := TX2) (N := 20) hx hb hg inG2 hown hK hP hb_10.1 hM11 rfl 4 (by decide) (hg _ wd_437) (fun _ h9 => h9) rfl dX11_end_75 ?_
                refine lv_iload_n hx hb dX11_end_78 rfl (lv_at hl 4 rfl) ?_
                obtain ⟨f120, hM120⟩ := hW.open_51 h11_3
                refine pg_iast hx hb hK hP hD hS h11_3.1 0 hM120 rfl (inbN v11_4 12 (by omega) (by omega)) dX11_end_79 (fun H_121 locs hP hD hS => ?_)
                obtain ⟨M_122, eM_122⟩ : ∃ M1 : Hp, M1 = va_up M v11_3 (.inl (cy 14, 12, .inl (upd f120 ((nI v11_4) : Int32).toNatClampNeg k2))) := ⟨_, rfl⟩
                have sM_122 : M_122 = sA M v11_3 ((nI v11_4) : Int32).toNatClampNeg k2 := eM_122.trans (sA_of hM120)
                have hV : VC Bo K L M M_122 b_5 (cfx M b_5) (va_up (cax M b_5) 37 (upd ((cax M b_5) 37) ((nI v11_4) : Int32).toNatClampNeg k2)) := by rw [sM_122]; exact VC.a_en hV hW hb_10 (rA_of (j := 3) hM11 rfl) hM120
                have hP : va_P D vwCl ([(xa, (b11_1 x0 (nI x1) x2 (nI x3) x4 x5 x6 x7 x8 x9 x10))] ++ va_pl L M_122) H_121 := by rw [eM_122]; exact hP
                have hD : va_D A ([(xa, (b11_1 x0 (nI x1) x2 (nI x3) x4 x5 x6 x7 x8 x9 x10))] ++ va_pl L M_122) := by rw [eM_122]; exact hD
                have hW : WOK cy K L M_122 := by rw [eM_122]; exact hW.up_51 h11_3 ⟨_, rfl⟩
                have hF : fr K L [2, 51] M M_122 := by rw [eM_122]; exact hF.up h11_3 (by decide)
                have hT2 : fT 2 K L [4] M M_122 := by rw [eM_122]; exact hT2.ne h11_3 (by decide)
                have hM_123 : M_122 v11_3 = .inl (cy 14, 12, .inl (upd f120 ((nI v11_4) : Int32).toNatClampNeg k2)) := by rw [eM_122]; exact va_up_self _ _ _
                have hM_124 : M_122 b_5 = (b2_2 v11_0 v11_1 v11_2 v11_3 (nI v11_4) (nI v11_5) v11_6 v11_7 v11_8 (nI v11_9) v11_10 (nI v11_11) v11_12 v11_13 v11_14 v11_15 v11_16 v11_17 v11_18 v11_19) := by rw [eM_122, va_up_ne _ _ (hb_10.neT h11_3 (by decide))]; exact hM11
                obtain ⟨f_125, ef_125⟩ : ∃ f : Nat → Int32, f = upd f120 ((nI v11_4) : Int32).toNatClampNeg k2 := ⟨_, rfl⟩
                rw [← ef_125] at hM_123
                clear ef_125
                refine lv_aload_n hx hb dX11_end_80 rfl (lv_at hl 1 rfl) ?_
                refine lv_dup hx hb dX11_end_81 rfl ?_
                refine pg_get (D := D) (ci := 2) (v := .int (nI v11_4)) (C := RX2) (T := TX2) (N := 20) hx hb hg inG2 hown hK hP hb_10.1 hM_124 rfl 4 (by decide) (hg _ wd_437) (fun _ h9 => h9) rfl dX11_end_82 ?_
                refine lv_iconst (v := 1) hx hb dX11_end_85 (by decide) ?_
                refine lv_iadd hx hb dX11_end_86 ?_
                refine lv_topi (fun f_126 ef_126 => ?_)
                obtain rfl : f_126 = (nI (v11_4 + 1)) := ef_126.trans (nI_add v11_4 1)
                refine pg_put (D := D) (ci := 2) (v := .int (nI (v11_4 + 1))) (ty := .int) (C := RX2) (T := TX2) (N := 20) hx hb hg inG2 tyX2 tyX2_ok nmX2 hown hK hP hD hS hb_10.1 hM_124 rfl 4 (by decide) (hg _ wd_437) (fun _ h9 => h9) rfl (by decide +kernel) rfl rfl (Nat.le_of_ble_eq_true rfl) dX11_end_87 (fun H_127 locs hP hD hS => ?_)
                obtain ⟨M_128, eM_128⟩ : ∃ M1 : Hp, M1 = va_up M_122 b_5 ((b2_2 v11_0 v11_1 v11_2 v11_3 (nI (v11_4 + 1)) (nI v11_5) v11_6 v11_7 v11_8 (nI v11_9) v11_10 (nI v11_11) v11_12 v11_13 v11_14 v11_15 v11_16 v11_17 v11_18 v11_19)) := ⟨_, rfl⟩
                have sM_128 : M_128 = sF M_122 b_5 4 (.int (nI (v11_4 + 1))) := eM_128.trans (sF_of (j := 4) (v := .int (nI (v11_4 + 1))) hM_124 rfl)
                have hV : VC Bo K L M M_128 b_5 (va_up (cfx M b_5) 12 (((v11_4 + 1) : Nat) : Int)) (va_up (cax M b_5) 37 (upd ((cax M b_5) 37) ((nI v11_4) : Int32).toNatClampNeg k2)) := by rw [sM_128]; have h9 := VC.f4 (v := (nI (v11_4 + 1))) hV hW hb_10 hM_124 (Nat.le_of_ble_eq_true rfl); rw [show ((nI (v11_4 + 1)) : Int32).toInt = (((v11_4 + 1) : Nat) : Int) from (nI_toInt (by omega))] at h9; exact h9
                have hP : va_P D vwCl ([(xa, (b11_1 x0 (nI x1) x2 (nI x3) x4 x5 x6 x7 x8 x9 x10))] ++ va_pl L M_128) H_127 := by rw [eM_128]; exact hP
                have hD : va_D A ([(xa, (b11_1 x0 (nI x1) x2 (nI x3) x4 x5 x6 x7 x8 x9 x10))] ++ va_pl L M_128) := by rw [eM_128]; exact hD
                have hW : WOK cy K L M_128 := by rw [eM_128]; exact hW.up_2 hb_10 ⟨v11_0, v11_1, v11_2, v11_3, (v11_4 + 1), v11_5, v11_6, v11_7, v11_8, v11_9, v11_10, v11_11, v11_12, v11_13, v11_14, v11_15, v11_16, v11_17, v11_18, v11_19, rfl, h11_3, (by omega), h11_5, h11_6, h11_7, h11_8, h11_9, h11_10, h11_11, h11_12, h11_13, h11_16, h11_17, h11_18, h11_19⟩
                have hF : fr K L [2, 51] M M_128 := by rw [eM_128]; exact hF.up hb_10 (by decide)
                have hT2 : fT 2 K L [4] M M_128 := by rw [eM_128]; exact hT2.up (i := 4) hM_124 rfl (by decide)
                have hM_129 : M_128 b_5 = (b2_2 v11_0 v11_1 v11_2 v11_3 (nI (v11_4 + 1)) (nI v11_5) v11_6 v11_7 v11_8 (nI v11_9) v11_10 (nI v11_11) v11_12 v11_13 v11_14 v11_15 v11_16 v11_17 v11_18 v11_19) := by rw [eM_128]; exact va_up_self _ _ _
                have hM_130 : M_128 v11_3 = .inl (cy 14, 12, .inl (f_125)) := by rw [eM_128, va_up_ne _ _ (h11_3.neT hb_10 (by decide))]; exact hM_123
                have hb_131 : (v11_4 + 1) ≤ 12 := by omega
                refine lv_aload_n hx hb dX11_end_90 rfl (lv_at hl 2 rfl) ?_
                refine lv_aload_n hx hb dX11_end_91 rfl (lv_at hl 1 rfl) ?_
                refine pg_get (D := D) (ci := 2) (v := .int (nI (v11_4 + 1))) (C := RX2) (T := TX2) (N := 20) hx hb hg inG2 hown hK hP hb_10.1 hM_129 rfl 4 (by decide) (hg _ wd_437) (fun _ h9 => h9) rfl dX11_end_92 ?_
                have hPc := hP.sub (ws' := [(xa, (b11_1 x0 (nI x1) x2 (nI x3) x4 x5 x6 x7 x8 x9 x10))]) [0] rfl
                have hDc := hD.sub (ws' := [(xa, (b11_1 x0 (nI x1) x2 (nI x3) x4 x5 x6 x7 x8 x9 x10))]) [0] (by decide) rfl
                have hKc := hK.sub (tys' := []) [] rfl
                have hFc := va_free (wc := [(xa, (b11_1 x0 (nI x1) x2 (nI x3) x4 x5 x6 x7 x8 x9 x10))]) hD hS hA [0] rfl
                refine va_calli (va_runV (As := [.int (nI (v11_4 + 1))]) (rest := []) ⟨hx, hb, hml, hown, hg⟩ (k_accept l D H_127.size xa x0 (nI x1) x2 (nI x3) x4 x5 x6 x7 x8 x9 x10 (nI (v11_4 + 1))) (cwV 1 hg (gV wd_356 wd_357 wd_358 wd_3 wd_359) rfl rfl rfl (by decide +kernel) ⟨(Nat.le_trans (Nat.le_of_ble_eq_true rfl) hRf), (Nat.le_trans (Nat.le_of_ble_eq_true rfl) hRl)⟩) ⟨Pr.blind, va_recv hK hP (ci := 11) (q0 := 0) rfl rfl, fun U hU hW => ⟨rfl, Pr.at hPc hKc hDc hN hU hW⟩⟩ rfl rfl hl.1 rfl (lv_room (Nat.le_of_ble_eq_true rfl)) dX11_end_95 ⟨(Nat.le_trans (Nat.le_of_ble_eq_true rfl) hRc), (Nat.le_trans (Nat.le_of_ble_eq_true rfl) hRs)⟩) hS (fun q _ h => hFc q h) hFc (fun r_133 M_134 t H_132 locs ht hvm hw hB hz1 hk1 hS => ?_)
                have hp_135 := hw
                obtain ⟨hP1, hK1, hD1⟩ := hB
                rw [ht] at hP1
                obtain ⟨hP, hD⟩ := va_joinQ (X := [(xa, (b11_1 x0 (nI x1) x2 (nI x3) x4 x5 x6 x7 x8 x9 x10))]) (cx := [(xa, (b11_1 x0 (nI x1) x2 (nI x3) x4 x5 x6 x7 x8 x9 x10))]) (wr := []) (w1 := [(xa, (b11_1 x0 (nI x1) x2 (nI x3) x4 x5 x6 x7 x8 0 (-1)))]) (pl := va_pl L M_128) hP hD [0] [] rfl rfl (by decide) (by decide) hk1 hFc hP1 hD1
                have hP : va_P D vwCl ([(xa, (b11_1 x0 (nI x1) x2 (nI x3) x4 x5 x6 x7 x8 0 (-1)))] ++ va_pl L M_128) H_132 := hP
                have hD : va_D A ([(xa, (b11_1 x0 (nI x1) x2 (nI x3) x4 x5 x6 x7 x8 0 (-1)))] ++ va_pl L M_128) := hD
                have hq := Eq.symm hp_135
                subst hq
                have hI_136 : (0 : Int) ≤ (k2 : Int32).toInt := inltI rfl rfl c_95
                have hI_137 : (k2 : Int32).toInt ≤ (999 : Int) := inltI rfl rfl c_101
                have hI_138 : ((cV 2 M b_5 1) : Int32).toInt ≤ (k2 : Int32).toInt := inltI rfl rfl c_108
                have hI_139 : (f_116 : Int32).toInt < (100 : Int) := iltI rfl rfl c_117
                have hI_140 : ((v11_4 : Nat) : Int) < (12 : Int) := iltI (nI_toInt (by omega)) rfl c_118
                have hI_141 : (f_116 : Int32).toInt = (k2 : Int32).toInt - ((cV 2 M b_5 1) : Int32).toInt := isubI rfl rfl ef_116 (by omega) (by omega)
                have hyes : okEd x1 SX SY k1 k2 := by unfold okEd okH; refine ⟨⟨?_, ?_⟩, ?_, ?_, ?_, ?_, ?_⟩ <;> first | omega | assumption
                have hV := hV.cg (X' := va_up (cfx M b_5) 12 (cfx M b_5 12 + 1)) (Y' := va_up (cax M b_5) 37 (upd (cax M b_5 37) (cfx M b_5 12).toNat k2)) (by rw [show ((v11_4 + 1 : Nat) : Int) = cfx M b_5 12 + 1 by have h9 := hSM.x12; omega]) (by rw [nI_cl (by omega), show v11_4 = (cfx M b_5 12).toNat by have h9 := hSM.x12; omega])
                rw [hQ]
                exact W.iret (v := (nI (v11_4 + 1))) hx hb hr (fun t ht hW9 => ⟨⟨(nI (v11_4 + 1)), M_128, rfl, ⟨hW, hF, hT2, (by unfold sxEd syEd; rw [if_pos hyes, if_pos hyes]; have hZ := hC.fin hW0 i0 b1 hkn hb9 hV ext.rf (by rw [hF.at i0 (by decide)]) (fun q iq => ⟨iq, cR_c (fr.cv hF (by decide) q iq 3 rfl)⟩) (((hSM.ends (d := k2) hbd12.1).up1)); exact hZ), (by unfold anEd; rw [if_pos hyes]; exact congrArg nI (by omega))⟩, ⟨0, by rw [ht]; exact hP, hD⟩⟩, hS.F ht⟩) hS.2.2 dX11_end_98
              · have hz := rfl (a := 0)
                have n_142 : ¬ (v11_4 < 12) := fun q => c_118 ((iLT (a := v11_4) (b := 12) (by omega) (by omega)).mpr q)
                refine lv_aload_n hx hb dX11_end_63 rfl (lv_at hl 2 rfl) ?_
                refine lv_bipush (v := 9) hx hb dX11_end_64 (by decide) ?_
                have hPc := hP.sub (ws' := [(xa, (b11_1 x0 (nI x1) x2 (nI x3) x4 x5 x6 x7 x8 x9 x10))]) [0] rfl
                have hDc := hD.sub (ws' := [(xa, (b11_1 x0 (nI x1) x2 (nI x3) x4 x5 x6 x7 x8 x9 x10))]) [0] (by decide) rfl
                have hKc := hK.sub (tys' := []) [] rfl
                have hFc := va_free (wc := [(xa, (b11_1 x0 (nI x1) x2 (nI x3) x4 x5 x6 x7 x8 x9 x10))]) hD hS hA [0] rfl
                refine va_calli (va_runV (As := [.int 9]) (rest := []) ⟨hx, hb, hml, hown, hg⟩ (k_refuse l D H_20.size xa x0 (nI x1) x2 (nI x3) x4 x5 x6 x7 x8 x9 x10 9) (cwV 1 hg (gV wd_344 wd_345 wd_346 wd_3 wd_347) rfl rfl rfl (by decide +kernel) ⟨(Nat.le_trans (Nat.le_of_ble_eq_true rfl) hRf), (Nat.le_trans (Nat.le_of_ble_eq_true rfl) hRl)⟩) ⟨Pr.blind, va_recv hK hP (ci := 11) (q0 := 0) rfl rfl, fun U hU hW => ⟨rfl, Pr.at hPc hKc hDc hN hU hW⟩⟩ rfl rfl hl.1 rfl (lv_room (Nat.le_of_ble_eq_true rfl)) dX11_end_66 ⟨(Nat.le_trans (Nat.le_of_ble_eq_true rfl) hRc), (Nat.le_trans (Nat.le_of_ble_eq_true rfl) hRs)⟩) hS (fun q _ h => hFc q h) hFc (fun r_144 M_145 t H_143 locs ht hvm hw hB hz1 hk1 hS => ?_)
                have hp_146 := hw
                obtain ⟨hP1, hK1, hD1⟩ := hB
                rw [ht] at hP1
                obtain ⟨hP, hD⟩ := va_joinQ (X := [(xa, (b11_1 x0 (nI x1) x2 (nI x3) x4 x5 x6 x7 x8 x9 x10))]) (cx := [(xa, (b11_1 x0 (nI x1) x2 (nI x3) x4 x5 x6 x7 x8 x9 x10))]) (wr := []) (w1 := [(xa, (b11_1 x0 (nI x1) x2 (nI x3) x4 x5 x6 x7 x8 9 (-1)))]) (pl := va_pl L M) hP hD [0] [] rfl rfl (by decide) (by decide) hk1 hFc hP1 hD1
                have hP : va_P D vwCl ([(xa, (b11_1 x0 (nI x1) x2 (nI x3) x4 x5 x6 x7 x8 9 (-1)))] ++ va_pl L M) H_143 := hP
                have hD : va_D A ([(xa, (b11_1 x0 (nI x1) x2 (nI x3) x4 x5 x6 x7 x8 9 (-1)))] ++ va_pl L M) := hD
                have hq := Eq.symm hp_146
                subst hq
                have hI_147 : (0 : Int) ≤ (k2 : Int32).toInt := inltI rfl rfl c_95
                have hI_148 : (k2 : Int32).toInt ≤ (999 : Int) := inltI rfl rfl c_101
                have hI_149 : ((cV 2 M b_5 1) : Int32).toInt ≤ (k2 : Int32).toInt := inltI rfl rfl c_108
                have hI_150 : (f_116 : Int32).toInt < (100 : Int) := iltI rfl rfl c_117
                have hI_151 : (12 : Int) ≤ ((v11_4 : Nat) : Int) := inltI (nI_toInt (by omega)) rfl c_118
                have hI_152 : (f_116 : Int32).toInt = (k2 : Int32).toInt - ((cV 2 M b_5 1) : Int32).toInt := isubI rfl rfl ef_116 (by omega) (by omega)
                have hno : ¬ okEd x1 SX SY k1 k2 := fun q9 => by unfold okEd okH at q9; first | omega | (obtain ⟨⟨_, _⟩, _, _, _, _, _⟩ := q9; first | omega | contradiction)
                rw [hQ]
                exact W.iret (v := (-1)) hx hb hr (fun t ht hW9 => ⟨⟨(-1), M, rfl, ⟨hW, hF, hT2, (by unfold sxEd syEd; rw [if_neg hno, if_neg hno]; exact hC.mono), (by unfold anEd; rw [if_neg hno])⟩, ⟨9, by rw [ht]; exact hP, hD⟩⟩, hS.F ht⟩) hS.2.2 dX11_end_69
            · have hz := rfl (a := 0)
              refine lv_aload_n hx hb dX11_end_48 rfl (lv_at hl 2 rfl) ?_
              refine lv_iconst (v := 3) hx hb dX11_end_49 (by decide) ?_
              have hPc := hP.sub (ws' := [(xa, (b11_1 x0 (nI x1) x2 (nI x3) x4 x5 x6 x7 x8 x9 x10))]) [0] rfl
              have hDc := hD.sub (ws' := [(xa, (b11_1 x0 (nI x1) x2 (nI x3) x4 x5 x6 x7 x8 x9 x10))]) [0] (by decide) rfl
              have hKc := hK.sub (tys' := []) [] rfl
              have hFc := va_free (wc := [(xa, (b11_1 x0 (nI x1) x2 (nI x3) x4 x5 x6 x7 x8 x9 x10))]) hD hS hA [0] rfl
              refine va_calli (va_runV (As := [.int 3]) (rest := []) ⟨hx, hb, hml, hown, hg⟩ (k_refuse l D H_20.size xa x0 (nI x1) x2 (nI x3) x4 x5 x6 x7 x8 x9 x10 3) (cwV 1 hg (gV wd_344 wd_345 wd_346 wd_3 wd_347) rfl rfl rfl (by decide +kernel) ⟨(Nat.le_trans (Nat.le_of_ble_eq_true rfl) hRf), (Nat.le_trans (Nat.le_of_ble_eq_true rfl) hRl)⟩) ⟨Pr.blind, va_recv hK hP (ci := 11) (q0 := 0) rfl rfl, fun U hU hW => ⟨rfl, Pr.at hPc hKc hDc hN hU hW⟩⟩ rfl rfl hl.1 rfl (lv_room (Nat.le_of_ble_eq_true rfl)) dX11_end_50 ⟨(Nat.le_trans (Nat.le_of_ble_eq_true rfl) hRc), (Nat.le_trans (Nat.le_of_ble_eq_true rfl) hRs)⟩) hS (fun q _ h => hFc q h) hFc (fun r_154 M_155 t H_153 locs ht hvm hw hB hz1 hk1 hS => ?_)
              have hp_156 := hw
              obtain ⟨hP1, hK1, hD1⟩ := hB
              rw [ht] at hP1
              obtain ⟨hP, hD⟩ := va_joinQ (X := [(xa, (b11_1 x0 (nI x1) x2 (nI x3) x4 x5 x6 x7 x8 x9 x10))]) (cx := [(xa, (b11_1 x0 (nI x1) x2 (nI x3) x4 x5 x6 x7 x8 x9 x10))]) (wr := []) (w1 := [(xa, (b11_1 x0 (nI x1) x2 (nI x3) x4 x5 x6 x7 x8 3 (-1)))]) (pl := va_pl L M) hP hD [0] [] rfl rfl (by decide) (by decide) hk1 hFc hP1 hD1
              have hP : va_P D vwCl ([(xa, (b11_1 x0 (nI x1) x2 (nI x3) x4 x5 x6 x7 x8 3 (-1)))] ++ va_pl L M) H_153 := hP
              have hD : va_D A ([(xa, (b11_1 x0 (nI x1) x2 (nI x3) x4 x5 x6 x7 x8 3 (-1)))] ++ va_pl L M) := hD
              have hq := Eq.symm hp_156
              subst hq
              have hI_157 : (0 : Int) ≤ (k2 : Int32).toInt := inltI rfl rfl c_95
              have hI_158 : (k2 : Int32).toInt ≤ (999 : Int) := inltI rfl rfl c_101
              have hI_159 : ((cV 2 M b_5 1) : Int32).toInt ≤ (k2 : Int32).toInt := inltI rfl rfl c_108
              have hI_160 : (100 : Int) ≤ (f_116 : Int32).toInt := inltI rfl rfl c_117
              have hI_161 : (f_116 : Int32).toInt = (k2 : Int32).toInt - ((cV 2 M b_5 1) : Int32).toInt := isubI rfl rfl ef_116 (by omega) (by omega)
              have hno : ¬ okEd x1 SX SY k1 k2 := fun q9 => by unfold okEd okH at q9; first | omega | (obtain ⟨⟨_, _⟩, _, _, _, _, _⟩ := q9; first | omega | contradiction)
              rw [hQ]
              exact W.iret (v := (-1)) hx hb hr (fun t ht hW9 => ⟨⟨(-1), M, rfl, ⟨hW, hF, hT2, (by unfold sxEd syEd; rw [if_neg hno, if_neg hno]; exact hC.mono), (by unfold anEd; rw [if_neg hno])⟩, ⟨3, by rw [ht]; exact hP, hD⟩⟩, hS.F ht⟩) hS.2.2 dX11_end_53
set_option maxHeartbeats 4000000 in
set_option maxRecDepth 100000 in
theorem x_leave (l : Launch) (D : va_G) (cy : Nat → ClassId) (K : Kp) (L : List Nat) (M : Hp) (sz : Nat) (xa : Nat) (x0 : Nat) (x1 : Nat) (x2 : Nat) (x3 : Nat) (x4 : Nat) (x5 : Nat) (x6 : Nat) (x7 : Int32) (x8 : Nat) (x9 : Int32) (x10 : Int32) (k1 : Int32) (k2 : Int32) (k3 : Int32) (k4 : Int32) (k5 : Int32) (Bo : Nat → Nat × Nat) (T : Int) (PK : Nat → Int32) (PT : Nat → Int32) (SX : Nat → Nat → Int) (SY : Nat → Nat → Nat → Int32) (hW : WOK cy K L M) (i0 : isk K L x0 17 8) (b1 : x1 ≤ 8) (i2 : isk K L x2 19 40) (b3 : x3 ≤ 40) (i4 : isk K L x4 7 0) (i5 : isk K L x5 5 0) (i6 : isk K L x6 60 24) (i8 : isk K L x8 73 25) (hC : CX Bo K L x0 x1 T x3 PK PT SX SY M) (hSV : ∀ k, k < x1 → SV (SX k) (SY k)) (hHI : ∀ k, k < x1 → HI (SX k) (SY k)) (hT : (0 ≤ T ∧ T ≤ 900000)) : Met l yX11_leave (wsM yX11_leave cX11_leave 8 (some .int)) ({ frames := 2, cells := 0, slots := 0, locals := 43 }) (va_Pc [.ref xa, .int k1, .int k2, .int k3, .int k4, .int k5] (PG D cy [(xa, (b11_1 x0 (nI x1) x2 (nI x3) x4 x5 x6 x7 x8 x9 x10))] L M sz)) (va_Qi (fun (r : Int32) (M9 : Hp) => WOK cy K L M9 ∧ fr K L [9] M M9 ∧ fT 9 K L [5, 6, 7] M M9 ∧ (CX Bo K L x0 x1 (T + 1) x3 PK PT SX (syLv x1 SX SY k1 k2 k3 k4 k5) M9) ∧ ((r = anLv x1 SX SY k1 k2 k3 k4 k5))) (fun M9 t => ∃ (w9 : Int32), PQ D [(xa, (b11_1 x0 (nI x1) x2 (nI x3) x4 x5 x6 x7 x8 w9 (-1)))] L M9 (va_A ([(xa, (b11_1 x0 (nI x1) x2 (nI x3) x4 x5 x6 x7 x8 x9 x10))] ++ va_pl L M) sz) t) (va_A ([(xa, (b11_1 x0 (nI x1) x2 (nI x3) x4 x5 x6 x7 x8 x9 x10))] ++ va_pl L M) sz)) 0 0 (va_A ([(xa, (b11_1 x0 (nI x1) x2 (nI x3) x4 x5 x6 x7 x8 x9 x10))] ++ va_pl L M) sz) := by
  refine Met.ofW (cc := cX11_leave) (maxL := 8) (ret := (some .int)) (by decide) rfl ?_
  intro p e s m args below meth c s₁ B hml hv
  obtain ⟨rfl, hsz, hP, hK, hD0, hN⟩ := hv
  have hx := B.exec
  have hb := B.bytes
  have hr := B.returns
  have hts := atoms_spec (ws := (wsM yX11_leave cX11_leave 8 (some .int))) B.pre
  have hg : ∀ w ∈ lw_good, w.before _ s = true := fun w h => hts w (List.mem_cons_of_mem _ h)
  have hown : s.vm.findClass RX11 = some m.cls := findClass_of_methodNamed B.named
  have hlocks := B.notSynchronized
  subst hsz
  have hD := hD0.self (sz := s.heap.size)
  generalize hAe : va_A ([(xa, (b11_1 x0 (nI x1) x2 (nI x3) x4 x5 x6 x7 x8 x9 x10))] ++ va_pl L M) s.heap.size = A at hD ⊢
  have hA : ∀ q : Nat, s.heap.size ≤ q → A q := fun q h => by rw [← hAe]; exact Or.inr h
  have hS : va_S A s.heap s.heap [] := va_S.rf
  have hl := lv_entry ([.ref xa, .int k1, .int k2, .int k3, .int k4, .int k5]) (n := 8) (Nat.le_of_ble_eq_true rfl)
  rw [lg_entry_eq]
  generalize (lg_sl ([.ref xa, .int k1, .int k2, .int k3, .int k4, .int k5]) ++ List.replicate (8 - (lg_sl ([.ref xa, .int k1, .int k2, .int k3, .int k4, .int k5])).length) Slot.unset).toArray = ls at hl ⊢
  refine W.nameQ (fun Q hQ => ?_)
  refine W.nameR (fun R hR => ?_)
  have hRf : 2 ≤ R.frames := by rw [hR]; exact Nat.le_of_ble_eq_true rfl
  have hRl : 43 ≤ R.locals := by rw [hR]; exact Nat.le_of_ble_eq_true rfl
  have hRc : 0 ≤ R.cells := by rw [hR]; exact Nat.le_of_ble_eq_true rfl
  have hRs : 0 ≤ R.slots := by rw [hR]; exact Nat.le_of_ble_eq_true rfl
  have hF : fr K L [9] M M := fr.rf
  have hT9 : fT 9 K L [5, 6, 7] M M := fT.rf
  have hl : lv_has ls 8 [(0, .ref xa), (1, .int k1), (2, .int k2), (3, .int k3), (4, .int k4), (5, .int k5)] := hl
  have hW0 := hW
  refine lv_aload_n hx hb dX11_leave_0 rfl (lv_at hl 0 rfl) ?_
  refine lv_iload_n hx hb dX11_leave_1 rfl (lv_at hl 1 rfl) ?_
  have hPc : va_P D vwCl ([(xa, (b11_1 x0 (nI x1) x2 (nI x3) x4 x5 x6 x7 x8 x9 x10))] ++ va_pl L M) s.heap := hP
  have hDc : va_D A ([(xa, (b11_1 x0 (nI x1) x2 (nI x3) x4 x5 x6 x7 x8 x9 x10))] ++ va_pl L M) := hD
  have hFc : ∀ q, va_A ([(xa, (b11_1 x0 (nI x1) x2 (nI x3) x4 x5 x6 x7 x8 x9 x10))] ++ va_pl L M) s.heap.size q → A q := pg_free hDc hS hA
  refine va_callq (va_runV (As := [.int k1]) (rest := []) ⟨hx, hb, hml, hown, hg⟩ (e_houseAt l D cy K L M s.heap.size xa x0 x1 x2 x3 x4 x5 x6 x7 x8 x9 x10 k1 Bo T PK PT SX SY  hW i0 b1 i2 b3 i4 i5 i6 i8 hC) (cwV 1 hg (gV wd_340 wd_341 wd_342 wd_3 wd_343) rfl rfl rfl (by decide +kernel) ⟨(Nat.le_trans (Nat.le_of_ble_eq_true rfl) hRf), (Nat.le_trans (Nat.le_of_ble_eq_true rfl) hRl)⟩) ⟨PG.blind, va_recv hK hP (ci := 11) (q0 := 0) rfl rfl, fun U hU hW => ⟨rfl, PG.at hPc hK hDc hN hU hW⟩⟩ rfl rfl hl.1 rfl (lv_room (Nat.le_of_ble_eq_true rfl)) dX11_leave_2 ⟨(Nat.le_trans (Nat.le_of_ble_eq_true rfl) hRc), (Nat.le_trans (Nat.le_of_ble_eq_true rfl) hRs)⟩) hS (fun q _ h => hFc q h) hFc (fun r_2 M_3 t H_1 locs ht hvm hw hB hz1 hk1 hS => ?_)
  have hp_4 := hw
  obtain ⟨hP1, hD1⟩ := hB
  rw [ht] at hP1
  have hP : va_P D vwCl ([(xa, (b11_1 x0 (nI x1) x2 (nI x3) x4 x5 x6 x7 x8 x9 x10))] ++ va_pl L M) H_1 := hP1
  have hD : va_D A ([(xa, (b11_1 x0 (nI x1) x2 (nI x3) x4 x5 x6 x7 x8 x9 x10))] ++ va_pl L M) := hD1.mono hFc
  obtain ⟨hp_4, hqx⟩ := hp_4
  rcases r_2 with _ | b_5
  · have hz := rfl (a := 0)
    refine lv_astoreN (lv' := [(6, .null), (0, .ref xa), (1, .int k1), (2, .int k2), (3, .int k3), (4, .int k4), (5, .int k5)]) hx hb dX11_leave_5 hl (by decide) rfl (fun ls hl => ?_)
    refine lv_aloadN hx hb dX11_leave_7 (lv_at hl 0 rfl) ?_
    refine lv_ifnullN (tgt := 19) hx hb dX11_leave_9 (by decide) ?_
    refine lv_aload_n hx hb dX11_leave_19 rfl (lv_at hl 1 rfl) ?_
    refine lv_iconst (v := 1) hx hb dX11_leave_20 (by decide) ?_
    have hPc := hP.sub (ws' := [(xa, (b11_1 x0 (nI x1) x2 (nI x3) x4 x5 x6 x7 x8 x9 x10))]) [0] rfl
    have hDc := hD.sub (ws' := [(xa, (b11_1 x0 (nI x1) x2 (nI x3) x4 x5 x6 x7 x8 x9 x10))]) [0] (by decide) rfl
    have hKc := hK.sub (tys' := []) [] rfl
    have hFc := va_free (wc := [(xa, (b11_1 x0 (nI x1) x2 (nI x3) x4 x5 x6 x7 x8 x9 x10))]) hD hS hA [0] rfl
    refine va_calli (va_runV (As := [.int 1]) (rest := []) ⟨hx, hb, hml, hown, hg⟩ (k_refuse l D H_1.size xa x0 (nI x1) x2 (nI x3) x4 x5 x6 x7 x8 x9 x10 1) (cwV 1 hg (gV wd_344 wd_345 wd_346 wd_3 wd_347) rfl rfl rfl (by decide +kernel) ⟨(Nat.le_trans (Nat.le_of_ble_eq_true rfl) hRf), (Nat.le_trans (Nat.le_of_ble_eq_true rfl) hRl)⟩) ⟨Pr.blind, va_recv hK hP (ci := 11) (q0 := 0) rfl rfl, fun U hU hW => ⟨rfl, Pr.at hPc hKc hDc hN hU hW⟩⟩ rfl rfl hl.1 rfl (lv_room (Nat.le_of_ble_eq_true rfl)) dX11_leave_21 ⟨(Nat.le_trans (Nat.le_of_ble_eq_true rfl) hRc), (Nat.le_trans (Nat.le_of_ble_eq_true rfl) hRs)⟩) hS (fun q _ h => hFc q h) hFc (fun r_7 M_8 t H_6 locs ht hvm hw hB hz1 hk1 hS => ?_)
    have hp_9 := hw
    obtain ⟨hP1, hK1, hD1⟩ := hB
    rw [ht] at hP1
    obtain ⟨hP, hD⟩ := va_joinQ (X := [(xa, (b11_1 x0 (nI x1) x2 (nI x3) x4 x5 x6 x7 x8 x9 x10))]) (cx := [(xa, (b11_1 x0 (nI x1) x2 (nI x3) x4 x5 x6 x7 x8 x9 x10))]) (wr := []) (w1 := [(xa, (b11_1 x0 (nI x1) x2 (nI x3) x4 x5 x6 x7 x8 1 (-1)))]) (pl := va_pl L M) hP hD [0] [] rfl rfl (by decide) (by decide) hk1 hFc hP1 hD1
    have hP : va_P D vwCl ([(xa, (b11_1 x0 (nI x1) x2 (nI x3) x4 x5 x6 x7 x8 1 (-1)))] ++ va_pl L M) H_6 := hP
    have hD : va_D A ([(xa, (b11_1 x0 (nI x1) x2 (nI x3) x4 x5 x6 x7 x8 1 (-1)))] ++ va_pl L M) := hD
    have hq := Eq.symm hp_9
    subst hq
    have hnh := hqx.2 rfl
    have hno : ¬ okLv x1 SX SY k1 k2 k3 k4 k5 := fun q9 => by unfold okLv okHS at q9; first | omega | (obtain ⟨⟨_, _, _, _⟩, _, _, _, _, _, _, _, _⟩ := q9; first | omega | contradiction)
    rw [hQ]
    exact W.iret (v := (-1)) hx hb hr (fun t ht hW9 => ⟨⟨(-1), M, rfl, ⟨hW, hF, hT9, (by unfold syLv; rw [if_neg hno]; exact hC.mono), (by unfold anLv; rw [if_neg hno])⟩, ⟨1, by rw [ht]; exact hP, hD⟩⟩, hS.F ht⟩) hS.2.2 dX11_leave_24
  · have hb_10 := hp_4 b_5 rfl
    refine lv_astore (lv' := [(6, .ref b_5), (0, .ref xa), (1, .int k1), (2, .int k2), (3, .int k3), (4, .int k4), (5, .int k5)]) hx hb dX11_leave_5 hl (by decide) rfl (fun ls hl => ?_)
    obtain ⟨hr9, hb9⟩ := hqx.1 b_5 rfl
    have hck : ((k1 : Int32).toNatClampNeg : Int) = (k1 : Int32).toInt := clT (by omega)
    have hkn : (k1 : Int32).toNatClampNeg < x1 := by omega
    have hSM := hC.at hkn hb9
    have hSVk := hSV (k1 : Int32).toNatClampNeg hkn
    have hHIk := hHI (k1 : Int32).toNatClampNeg hkn
    have hV : VC Bo K L M M b_5 (cfx M b_5) (cax M b_5) := VC.rf b_5 hC.oc
    obtain ⟨v11_0, v11_1, v11_2, v11_3, v11_4, v11_5, v11_6, v11_7, v11_8, v11_9, v11_10, v11_11, v11_12, v11_13, v11_14, v11_15, v11_16, v11_17, v11_18, v11_19, hM11, h11_3, h11_4, h11_5, h11_6, h11_7, h11_8, h11_9, h11_10, h11_11, h11_12, h11_13, h11_16, h11_17, h11_18, h11_19⟩ := hW.open_2 hb_10
    have hA_12 : (cV 2 M b_5 0).toInt = (v11_0 : Int32).toInt := by rw [cV_of hM11 rfl]
    have hA_13 : (cV 2 M b_5 1).toInt = (v11_1 : Int32).toInt := by rw [cV_of hM11 rfl]
    have hA_14 : (cV 2 M b_5 2).toInt = (v11_2 : Int32).toInt := by rw [cV_of hM11 rfl]
    have hA_15 : (cV 2 M b_5 4).toInt = ((v11_4 : Nat) : Int) := by rw [cV_of hM11 rfl]; exact nI_toInt (by omega)
    have hA_16 : (cV 2 M b_5 5).toInt = ((v11_5 : Nat) : Int) := by rw [cV_of hM11 rfl]; exact nI_toInt (by omega)
    have hA_17 : (cV 2 M b_5 9).toInt = ((v11_9 : Nat) : Int) := by rw [cV_of hM11 rfl]; exact nI_toInt (by omega)
    have hA_18 : (cV 2 M b_5 11).toInt = ((v11_11 : Nat) : Int) := by rw [cV_of hM11 rfl]; exact nI_toInt (by omega)
    have hA_19 : (cV 2 M b_5 15).toInt = (v11_15 : Int32).toInt := by rw [cV_of hM11 rfl]
    have hq0 : (cV 2 M b_5 1).toInt = SX (k1 : Int32).toNatClampNeg 0 := hSM.x0
    have hq1 : (cV 2 M b_5 2).toInt = SX (k1 : Int32).toNatClampNeg 1 := hSM.x1
    have hq10 : (cV 2 M b_5 9).toInt = SX (k1 : Int32).toNatClampNeg 10 := hSM.x10
    have hq11 : (cV 2 M b_5 11).toInt = SX (k1 : Int32).toNatClampNeg 11 := hSM.x11
    have hq12 : (cV 2 M b_5 4).toInt = SX (k1 : Int32).toNatClampNeg 12 := hSM.x12
    have hq13 : (cV 2 M b_5 5).toInt = SX (k1 : Int32).toNatClampNeg 13 := hSM.x13
    have hq14 : (cV 1 M v11_16 3).toInt = SX (k1 : Int32).toNatClampNeg 14 := by have h9 := hSM.x14; rw [← h9]; show _ = (cV 1 M (rA 2 M b_5 16) 3).toInt; rw [rA_of (j := 16) hM11 rfl]
    have hq15 : (cV 1 M v11_17 3).toInt = SX (k1 : Int32).toNatClampNeg 15 := by have h9 := hSM.x15; rw [← h9]; show _ = (cV 1 M (rA 2 M b_5 17) 3).toInt; rw [rA_of (j := 17) hM11 rfl]
    have hq16 : (cV 10 M v11_18 2).toInt = SX (k1 : Int32).toNatClampNeg 16 := by have h9 := hSM.x16; rw [← h9]; show _ = (cV 10 M (rA 2 M b_5 18) 2).toInt; rw [rA_of (j := 18) hM11 rfl]
    have hq19 : (cV 10 M v11_18 1).toInt = cfx M b_5 19 := by show _ = (cV 10 M (rA 2 M b_5 18) 1).toInt; rw [rA_of (j := 18) hM11 rfl]
    have hun := hSM.un
    have hl16 : (ALc (M (rA 1 M v11_16 1)) : Int) = 120 := by have h9 := hC.oc.l16 hW hb_10; rw [rA_of (j := 16) hM11 rfl] at h9; omega
    have hl17 : (ALc (M (rA 1 M v11_17 1)) : Int) = 20 := by have h9 := hC.oc.l17 hW hb_10; rw [rA_of (j := 17) hM11 rfl] at h9; omega
    have hbd0 := hSVk.b0
    have hbd1 := hSVk.b1
    have hbd10 := hSVk.b10
    have hbd11 := hSVk.b11
    have hbd12 := hSVk.b12
    have hbd13 := hSVk.b13
    have hbd14 := hSVk.b14
    have hbd15 := hSVk.b15
    have hbd16 := hSVk.b16
    have hqx14 : cfx M b_5 14 = SX (k1 : Int32).toNatClampNeg 14 := hSM.x14
    have hqx15 : cfx M b_5 15 = SX (k1 : Int32).toNatClampNeg 15 := hSM.x15
    have hqx16 : cfx M b_5 16 = SX (k1 : Int32).toNatClampNeg 16 := hSM.x16
    refine lv_aload hx hb dX11_leave_7 (lv_at hl 0 rfl) ?_
    refine lv_ifnull hx hb dX11_leave_9 ?_
    refine lv_iload_n hx hb dX11_leave_12 rfl (lv_at hl 3 rfl) ?_
    have hPc : va_P D vwCl ([] ++ va_pl L M) H_1 := hP.part (cx := []) [] rfl
    have hDc : va_D A ([] ++ va_pl L M) := hD.part (cx := []) [] (by decide) rfl
    have hFc : ∀ q, va_A ([] ++ va_pl L M) H_1.size q → A q := pg_free hDc hS hA
    refine va_calli (va_runS (As := [.int k2]) (rest := []) ⟨hx, hb, hml, hown, hg⟩ (e_X11_isSeat l D cy K L M H_1.size k2  hW ) (va_cwS 1 hg (gS wd_348 wd_47 wd_3 wd_46) rfl rfl rfl (by decide +kernel) ⟨(Nat.le_trans (Nat.le_of_ble_eq_true rfl) hRf), (Nat.le_trans (Nat.le_of_ble_eq_true rfl) hRl)⟩) ⟨PG.blind, fun U hU hW => ⟨rfl, PG.at hPc hK hDc hN hU hW⟩⟩ rfl rfl hl.1 rfl (lv_room (Nat.le_of_ble_eq_true rfl)) dX11_leave_13 ⟨(Nat.le_trans (Nat.le_of_ble_eq_true rfl) hRc), (Nat.le_trans (Nat.le_of_ble_eq_true rfl) hRs)⟩) hS (fun q _ h => hFc q h) hFc (fun r_21 M_22 t H_20 locs ht hvm hw hB hz1 hk1 hS => ?_)
    have hp_23 := hw
    obtain ⟨hP1, hD1⟩ := hB
    rw [ht] at hP1
    obtain ⟨hP, hD⟩ := va_joinP (X := [(xa, (b11_1 x0 (nI x1) x2 (nI x3) x4 x5 x6 x7 x8 x9 x10))]) (cx := []) (wr := [(xa, (b11_1 x0 (nI x1) x2 (nI x3) x4 x5 x6 x7 x8 x9 x10))]) (rx := []) (pl := va_pl L M) (pl1 := va_pl L M) hP hD [] [0] rfl rfl (by decide) (by decide) hk1 hFc hP1 hD1
    have hP : va_P D vwCl ([(xa, (b11_1 x0 (nI x1) x2 (nI x3) x4 x5 x6 x7 x8 x9 x10))] ++ va_pl L M) H_20 := hP
    have hD : va_D A ([(xa, (b11_1 x0 (nI x1) x2 (nI x3) x4 x5 x6 x7 x8 x9 x10))] ++ va_pl L M) := hD
    rcases hp_23 with ⟨rfl, c_24, c_25, c_26⟩ | ⟨rfl, c_27⟩
    · have hz := rfl (a := 0)
      refine lv_if_ne (tgt := 25) hx hb dX11_leave_16 (by decide) (fun _ => ?_) (fun c_28 => absurd c_28 (by decide))
      refine lv_aload hx hb dX11_leave_25 (lv_at hl 0 rfl) ?_
      refine lv_iload_n hx hb dX11_leave_27 rfl (lv_at hl 3 rfl) ?_
      have hPc : va_P D vwCl ([] ++ va_pl L M) H_20 := hP.part (cx := []) [] rfl
      have hDc : va_D A ([] ++ va_pl L M) := hD.part (cx := []) [] (by decide) rfl
      have hFc : ∀ q, va_A ([] ++ va_pl L M) H_20.size q → A q := pg_free hDc hS hA
      refine va_callq (va_runV (As := [.int k2]) (rest := []) ⟨hx, hb, hml, hown, hg⟩ (e_sitting l D cy K L M H_20.size b_5 k2 Bo  hW hb_10 hV.2.2.2) (cwV 1 hg (gV wd_351 wd_352 wd_353 wd_57 wd_354) rfl rfl rfl (by decide +kernel) ⟨(Nat.le_trans (Nat.le_of_ble_eq_true rfl) hRf), (Nat.le_trans (Nat.le_of_ble_eq_true rfl) hRl)⟩) ⟨PG.blind, pg_recv hK hP hb_10.1 hM11 rfl, fun U hU hW => ⟨rfl, PG.at hPc hK hDc hN hU hW⟩⟩ rfl rfl hl.1 rfl (lv_room (Nat.le_of_ble_eq_true rfl)) dX11_leave_28 ⟨(Nat.le_trans (Nat.le_of_ble_eq_true rfl) hRc), (Nat.le_trans (Nat.le_of_ble_eq_true rfl) hRs)⟩) hS (fun q _ h => hFc q h) hFc (fun r_30 M_31 t H_29 locs ht hvm hw hB hz1 hk1 hS => ?_)
      have hp_32 := hw
      obtain ⟨hP1, hD1⟩ := hB
      rw [ht] at hP1
      obtain ⟨hP, hD⟩ := va_joinP (X := [(xa, (b11_1 x0 (nI x1) x2 (nI x3) x4 x5 x6 x7 x8 x9 x10))]) (cx := []) (wr := [(xa, (b11_1 x0 (nI x1) x2 (nI x3) x4 x5 x6 x7 x8 x9 x10))]) (rx := []) (pl := va_pl L M) (pl1 := va_pl L M) hP hD [] [0] rfl rfl (by decide) (by decide) hk1 hFc hP1 hD1
      have hP : va_P D vwCl ([(xa, (b11_1 x0 (nI x1) x2 (nI x3) x4 x5 x6 x7 x8 x9 x10))] ++ va_pl L M) H_29 := hP
      have hD : va_D A ([(xa, (b11_1 x0 (nI x1) x2 (nI x3) x4 x5 x6 x7 x8 x9 x10))] ++ va_pl L M) := hD
      obtain ⟨hp_32, hqx⟩ := hp_32
      rcases r_30 with _ | b_33
      · have hz := rfl (a := 0)
        have hcs : ((k2 : Int32).toNatClampNeg : Int) = k2.toInt := clT (by omega)
        have hho : ¬ hold (SY k1.toNatClampNeg) k2.toNatClampNeg := by
          rcases hqx.2 rfl with q9 | q9 | ⟨i9, hi9, h51, h22⟩
          · exact absurd (by omega) q9
          · exact hSM.sitN (s := k2.toNatClampNeg) (by omega) q9
          · exact fun w9 => h22 ((hSM.hold1 (s := k2.toNatClampNeg) (by omega) (hSM.sitS (s := k2.toNatClampNeg) (by omega) h51) h51).2.mp w9)
        refine lv_astoreN (lv' := [(7, .null), (6, .ref b_5), (0, .ref xa), (1, .int k1), (2, .int k2), (3, .int k3), (4, .int k4), (5, .int k5)]) hx hb dX11_leave_31 hl (by decide) rfl (fun ls hl => ?_)
        refine lv_aloadN hx hb dX11_leave_33 (lv_at hl 0 rfl) ?_
        refine lv_ifnonnullN hx hb dX11_leave_35 ?_
        refine lv_aload_n hx hb dX11_leave_38 rfl (lv_at hl 2 rfl) ?_
        refine lv_iconst (v := 4) hx hb dX11_leave_39 (by decide) ?_
        have hPc := hP.sub (ws' := [(xa, (b11_1 x0 (nI x1) x2 (nI x3) x4 x5 x6 x7 x8 x9 x10))]) [0] rfl
        have hDc := hD.sub (ws' := [(xa, (b11_1 x0 (nI x1) x2 (nI x3) x4 x5 x6 x7 x8 x9 x10))]) [0] (by decide) rfl
        have hKc := hK.sub (tys' := []) [] rfl
        have hFc := va_free (wc := [(xa, (b11_1 x0 (nI x1) x2 (nI x3) x4 x5 x6 x7 x8 x9 x10))]) hD hS hA [0] rfl
        refine va_calli (va_runV (As := [.int 4]) (rest := []) ⟨hx, hb, hml, hown, hg⟩ (k_refuse l D H_29.size xa x0 (nI x1) x2 (nI x3) x4 x5 x6 x7 x8 x9 x10 4) (cwV 1 hg (gV wd_344 wd_345 wd_346 wd_3 wd_347) rfl rfl rfl (by decide +kernel) ⟨(Nat.le_trans (Nat.le_of_ble_eq_true rfl) hRf), (Nat.le_trans (Nat.le_of_ble_eq_true rfl) hRl)⟩) ⟨Pr.blind, va_recv hK hP (ci := 11) (q0 := 0) rfl rfl, fun U hU hW => ⟨rfl, Pr.at hPc hKc hDc hN hU hW⟩⟩ rfl rfl hl.1 rfl (lv_room (Nat.le_of_ble_eq_true rfl)) dX11_leave_40 ⟨(Nat.le_trans (Nat.le_of_ble_eq_true rfl) hRc), (Nat.le_trans (Nat.le_of_ble_eq_true rfl) hRs)⟩) hS (fun q _ h => hFc q h) hFc (fun r_35 M_36 t H_34 locs ht hvm hw hB hz1 hk1 hS => ?_)
        have hp_37 := hw
        obtain ⟨hP1, hK1, hD1⟩ := hB
        rw [ht] at hP1
        obtain ⟨hP, hD⟩ := va_joinQ (X := [(xa, (b11_1 x0 (nI x1) x2 (nI x3) x4 x5 x6 x7 x8 x9 x10))]) (cx := [(xa, (b11_1 x0 (nI x1) x2 (nI x3) x4 x5 x6 x7 x8 x9 x10))]) (wr := []) (w1 := [(xa, (b11_1 x0 (nI x1) x2 (nI x3) x4 x5 x6 x7 x8 4 (-1)))]) (pl := va_pl L M) hP hD [0] [] rfl rfl (by decide) (by decide) hk1 hFc hP1 hD1
        have hP : va_P D vwCl ([(xa, (b11_1 x0 (nI x1) x2 (nI x3) x4 x5 x6 x7 x8 4 (-1)))] ++ va_pl L M) H_34 := hP
        have hD : va_D A ([(xa, (b11_1 x0 (nI x1) x2 (nI x3) x4 x5 x6 x7 x8 4 (-1)))] ++ va_pl L M) := hD
        have hq := Eq.symm hp_37
        subst hq
        have hI_38 : (0 : Int) ≤ (k2 : Int32).toInt := inltI rfl rfl c_25
        have hI_39 : (k2 : Int32).toInt < (6 : Int) := inleI rfl rfl c_26
        have hno : ¬ okLv x1 SX SY k1 k2 k3 k4 k5 := fun q9 => by unfold okLv okHS at q9; first | omega | (obtain ⟨⟨_, _, _, _⟩, _, _, _, _, _, _, _, _⟩ := q9; first | omega | contradiction)
        rw [hQ]
        exact W.iret (v := (-1)) hx hb hr (fun t ht hW9 => ⟨⟨(-1), M, rfl, ⟨hW, hF, hT9, (by unfold syLv; rw [if_neg hno]; exact hC.mono), (by unfold anLv; rw [if_neg hno])⟩, ⟨4, by rw [ht]; exact hP, hD⟩⟩, hS.F ht⟩) hS.2.2 dX11_leave_43
      · have hb_40 := hp_32 b_33 rfl
        have hcs : ((k2 : Int32).toNatClampNeg : Int) = k2.toInt := clT (by omega)
        obtain ⟨_, i9, hi9, he9, h51, h22⟩ := hqx.1 _ rfl
        have h50 := hSM.sitS (s := k2.toNatClampNeg) (by omega) h51
        have hse := hSM.se k2.toNatClampNeg (by omega)
        have hh := hSM.hold1 (s := k2.toNatClampNeg) (by omega) h50 h51
        have hho : hold (SY k1.toNatClampNeg) k2.toNatClampNeg := hh.2.mpr h22
        have hsn : ((SY k1.toNatClampNeg 9 k2.toNatClampNeg).toInt - 1).toNat = i9 := by omega
        have hlt := lk_te he9 hi9
        have hte := hSM.te i9 (by omega)
        have hb21 : (SY k1.toNatClampNeg 21 ((SY k1.toNatClampNeg 9 k2.toNatClampNeg).toInt - 1).toNat).toInt = (cV 9 M b_33 3).toInt := by rw [hsn, ← hte.2.2.1, hlt.2.2.1]
        refine lv_astore (lv' := [(7, .ref b_33), (6, .ref b_5), (0, .ref xa), (1, .int k1), (2, .int k2), (3, .int k3), (4, .int k4), (5, .int k5)]) hx hb dX11_leave_31 hl (by decide) rfl (fun ls hl => ?_)
        refine lv_aload hx hb dX11_leave_33 (lv_at hl 0 rfl) ?_
        refine lv_ifnonnull (tgt := 44) hx hb dX11_leave_35 (by decide) ?_
        refine lv_iload hx hb dX11_leave_44 (lv_at hl 6 rfl) ?_
        refine lv_iconst (v := 1) hx hb dX11_leave_46 (by decide) ?_
        refine lv_icmp_lt (tgt := 68) hx hb dX11_leave_47 (by decide) (fun c_41 => ?_) (fun c_41 => ?_)
        · have hz := rfl (a := 0)
          refine lv_aload_n hx hb dX11_leave_68 rfl (lv_at hl 2 rfl) ?_
          refine lv_iconst (v := 2) hx hb dX11_leave_69 (by decide) ?_
          have hPc := hP.sub (ws' := [(xa, (b11_1 x0 (nI x1) x2 (nI x3) x4 x5 x6 x7 x8 x9 x10))]) [0] rfl
          have hDc := hD.sub (ws' := [(xa, (b11_1 x0 (nI x1) x2 (nI x3) x4 x5 x6 x7 x8 x9 x10))]) [0] (by decide) rfl
          have hKc := hK.sub (tys' := []) [] rfl
          have hFc := va_free (wc := [(xa, (b11_1 x0 (nI x1) x2 (nI x3) x4 x5 x6 x7 x8 x9 x10))]) hD hS hA [0] rfl
          refine va_calli (va_runV (As := [.int 2]) (rest := []) ⟨hx, hb, hml, hown, hg⟩ (k_refuse l D H_29.size xa x0 (nI x1) x2 (nI x3) x4 x5 x6 x7 x8 x9 x10 2) (cwV 1 hg (gV wd_344 wd_345 wd_346 wd_3 wd_347) rfl rfl rfl (by decide +kernel) ⟨(Nat.le_trans (Nat.le_of_ble_eq_true rfl) hRf), (Nat.le_trans (Nat.le_of_ble_eq_true rfl) hRl)⟩) ⟨Pr.blind, va_recv hK hP (ci := 11) (q0 := 0) rfl rfl, fun U hU hW => ⟨rfl, Pr.at hPc hKc hDc hN hU hW⟩⟩ rfl rfl hl.1 rfl (lv_room (Nat.le_of_ble_eq_true rfl)) dX11_leave_70 ⟨(Nat.le_trans (Nat.le_of_ble_eq_true rfl) hRc), (Nat.le_trans (Nat.le_of_ble_eq_true rfl) hRs)⟩) hS (fun q _ h => hFc q h) hFc (fun r_43 M_44 t H_42 locs ht hvm hw hB hz1 hk1 hS => ?_)
          have hp_45 := hw
          obtain ⟨hP1, hK1, hD1⟩ := hB
          rw [ht] at hP1
          obtain ⟨hP, hD⟩ := va_joinQ (X := [(xa, (b11_1 x0 (nI x1) x2 (nI x3) x4 x5 x6 x7 x8 x9 x10))]) (cx := [(xa, (b11_1 x0 (nI x1) x2 (nI x3) x4 x5 x6 x7 x8 x9 x10))]) (wr := []) (w1 := [(xa, (b11_1 x0 (nI x1) x2 (nI x3) x4 x5 x6 x7 x8 2 (-1)))]) (pl := va_pl L M) hP hD [0] [] rfl rfl (by decide) (by decide) hk1 hFc hP1 hD1
          have hP : va_P D vwCl ([(xa, (b11_1 x0 (nI x1) x2 (nI x3) x4 x5 x6 x7 x8 2 (-1)))] ++ va_pl L M) H_42 := hP
          have hD : va_D A ([(xa, (b11_1 x0 (nI x1) x2 (nI x3) x4 x5 x6 x7 x8 2 (-1)))] ++ va_pl L M) := hD
          have hq := Eq.symm hp_45
          subst hq
          have hI_46 : (0 : Int) ≤ (k2 : Int32).toInt := inltI rfl rfl c_25
          have hI_47 : (k2 : Int32).toInt < (6 : Int) := inleI rfl rfl c_26
          have hI_48 : (k4 : Int32).toInt < (1 : Int) := iltI rfl rfl c_41
          have hno : ¬ okLv x1 SX SY k1 k2 k3 k4 k5 := fun q9 => by unfold okLv okHS at q9; first | omega | (obtain ⟨⟨_, _, _, _⟩, _, _, _, _, _, _, _, _⟩ := q9; first | omega | contradiction)
          rw [hQ]
          exact W.iret (v := (-1)) hx hb hr (fun t ht hW9 => ⟨⟨(-1), M, rfl, ⟨hW, hF, hT9, (by unfold syLv; rw [if_neg hno]; exact hC.mono), (by unfold anLv; rw [if_neg hno])⟩, ⟨2, by rw [ht]; exact hP, hD⟩⟩, hS.F ht⟩) hS.2.2 dX11_leave_73
        · have hz := rfl (a := 0)
          refine lv_iload hx hb dX11_leave_50 (lv_at hl 6 rfl) ?_
          refine lv_bipush (v := 10) hx hb dX11_leave_52 (by decide) ?_
          refine lv_icmp_gt (tgt := 68) hx hb dX11_leave_54 (by decide) (fun c_49 => ?_) (fun c_49 => ?_)
          · have hz := rfl (a := 0)
            refine lv_aload_n hx hb dX11_leave_68 rfl (lv_at hl 2 rfl) ?_
            refine lv_iconst (v := 2) hx hb dX11_leave_69 (by decide) ?_
            have hPc := hP.sub (ws' := [(xa, (b11_1 x0 (nI x1) x2 (nI x3) x4 x5 x6 x7 x8 x9 x10))]) [0] rfl
            have hDc := hD.sub (ws' := [(xa, (b11_1 x0 (nI x1) x2 (nI x3) x4 x5 x6 x7 x8 x9 x10))]) [0] (by decide) rfl
            have hKc := hK.sub (tys' := []) [] rfl
            have hFc := va_free (wc := [(xa, (b11_1 x0 (nI x1) x2 (nI x3) x4 x5 x6 x7 x8 x9 x10))]) hD hS hA [0] rfl
            refine va_calli (va_runV (As := [.int 2]) (rest := []) ⟨hx, hb, hml, hown, hg⟩ (k_refuse l D H_29.size xa x0 (nI x1) x2 (nI x3) x4 x5 x6 x7 x8 x9 x10 2) (cwV 1 hg (gV wd_344 wd_345 wd_346 wd_3 wd_347) rfl rfl rfl (by decide +kernel) ⟨(Nat.le_trans (Nat.le_of_ble_eq_true rfl) hRf), (Nat.le_trans (Nat.le_of_ble_eq_true rfl) hRl)⟩) ⟨Pr.blind, va_recv hK hP (ci := 11) (q0 := 0) rfl rfl, fun U hU hW => ⟨rfl, Pr.at hPc hKc hDc hN hU hW⟩⟩ rfl rfl hl.1 rfl (lv_room (Nat.le_of_ble_eq_true rfl)) dX11_leave_70 ⟨(Nat.le_trans (Nat.le_of_ble_eq_true rfl) hRc), (Nat.le_trans (Nat.le_of_ble_eq_true rfl) hRs)⟩) hS (fun q _ h => hFc q h) hFc (fun r_51 M_52 t H_50 locs ht hvm hw hB hz1 hk1 hS => ?_)
            have hp_53 := hw
            obtain ⟨hP1, hK1, hD1⟩ := hB
            rw [ht] at hP1
            obtain ⟨hP, hD⟩ := va_joinQ (X := [(xa, (b11_1 x0 (nI x1) x2 (nI x3) x4 x5 x6 x7 x8 x9 x10))]) (cx := [(xa, (b11_1 x0 (nI x1) x2 (nI x3) x4 x5 x6 x7 x8 x9 x10))]) (wr := []) (w1 := [(xa, (b11_1 x0 (nI x1) x2 (nI x3) x4 x5 x6 x7 x8 2 (-1)))]) (pl := va_pl L M) hP hD [0] [] rfl rfl (by decide) (by decide) hk1 hFc hP1 hD1
            have hP : va_P D vwCl ([(xa, (b11_1 x0 (nI x1) x2 (nI x3) x4 x5 x6 x7 x8 2 (-1)))] ++ va_pl L M) H_50 := hP
            have hD : va_D A ([(xa, (b11_1 x0 (nI x1) x2 (nI x3) x4 x5 x6 x7 x8 2 (-1)))] ++ va_pl L M) := hD
            have hq := Eq.symm hp_53
            subst hq
            have hI_54 : (0 : Int) ≤ (k2 : Int32).toInt := inltI rfl rfl c_25
            have hI_55 : (k2 : Int32).toInt < (6 : Int) := inleI rfl rfl c_26
            have hI_56 : (1 : Int) ≤ (k4 : Int32).toInt := inltI rfl rfl c_41
            have hI_57 : (10 : Int) < (k4 : Int32).toInt := iltI rfl rfl c_49
            have hno : ¬ okLv x1 SX SY k1 k2 k3 k4 k5 := fun q9 => by unfold okLv okHS at q9; first | omega | (obtain ⟨⟨_, _, _, _⟩, _, _, _, _, _, _, _, _⟩ := q9; first | omega | contradiction)
            rw [hQ]
            exact W.iret (v := (-1)) hx hb hr (fun t ht hW9 => ⟨⟨(-1), M, rfl, ⟨hW, hF, hT9, (by unfold syLv; rw [if_neg hno]; exact hC.mono), (by unfold anLv; rw [if_neg hno])⟩, ⟨2, by rw [ht]; exact hP, hD⟩⟩, hS.F ht⟩) hS.2.2 dX11_leave_73
          · have hz := rfl (a := 0)
            refine lv_iload hx hb dX11_leave_57 (lv_at hl 7 rfl) ?_
            refine lv_if_lt (tgt := 68) hx hb dX11_leave_59 (by decide) (fun c_58 => ?_) (fun c_58 => ?_)
            · have hz := rfl (a := 0)
              refine lv_aload_n hx hb dX11_leave_68 rfl (lv_at hl 2 rfl) ?_
              refine lv_iconst (v := 2) hx hb dX11_leave_69 (by decide) ?_
              have hPc := hP.sub (ws' := [(xa, (b11_1 x0 (nI x1) x2 (nI x3) x4 x5 x6 x7 x8 x9 x10))]) [0] rfl
              have hDc := hD.sub (ws' := [(xa, (b11_1 x0 (nI x1) x2 (nI x3) x4 x5 x6 x7 x8 x9 x10))]) [0] (by decide) rfl
              have hKc := hK.sub (tys' := []) [] rfl
              have hFc := va_free (wc := [(xa, (b11_1 x0 (nI x1) x2 (nI x3) x4 x5 x6 x7 x8 x9 x10))]) hD hS hA [0] rfl
              refine va_calli (va_runV (As := [.int 2]) (rest := []) ⟨hx, hb, hml, hown, hg⟩ (k_refuse l D H_29.size xa x0 (nI x1) x2 (nI x3) x4 x5 x6 x7 x8 x9 x10 2) (cwV 1 hg (gV wd_344 wd_345 wd_346 wd_3 wd_347) rfl rfl rfl (by decide +kernel) ⟨(Nat.le_trans (Nat.le_of_ble_eq_true rfl) hRf), (Nat.le_trans (Nat.le_of_ble_eq_true rfl) hRl)⟩) ⟨Pr.blind, va_recv hK hP (ci := 11) (q0 := 0) rfl rfl, fun U hU hW => ⟨rfl, Pr.at hPc hKc hDc hN hU hW⟩⟩ rfl rfl hl.1 rfl (lv_room (Nat.le_of_ble_eq_true rfl)) dX11_leave_70 ⟨(Nat.le_trans (Nat.le_of_ble_eq_true rfl) hRc), (Nat.le_trans (Nat.le_of_ble_eq_true rfl) hRs)⟩) hS (fun q _ h => hFc q h) hFc (fun r_60 M_61 t H_59 locs ht hvm hw hB hz1 hk1 hS => ?_)
              have hp_62 := hw
              obtain ⟨hP1, hK1, hD1⟩ := hB
              rw [ht] at hP1
              obtain ⟨hP, hD⟩ := va_joinQ (X := [(xa, (b11_1 x0 (nI x1) x2 (nI x3) x4 x5 x6 x7 x8 x9 x10))]) (cx := [(xa, (b11_1 x0 (nI x1) x2 (nI x3) x4 x5 x6 x7 x8 x9 x10))]) (wr := []) (w1 := [(xa, (b11_1 x0 (nI x1) x2 (nI x3) x4 x5 x6 x7 x8 2 (-1)))]) (pl := va_pl L M) hP hD [0] [] rfl rfl (by decide) (by decide) hk1 hFc hP1 hD1
              have hP : va_P D vwCl ([(xa, (b11_1 x0 (nI x1) x2 (nI x3) x4 x5 x6 x7 x8 2 (-1)))] ++ va_pl L M) H_59 := hP
              have hD : va_D A ([(xa, (b11_1 x0 (nI x1) x2 (nI x3) x4 x5 x6 x7 x8 2 (-1)))] ++ va_pl L M) := hD
              have hq := Eq.symm hp_62
              subst hq
              have hI_63 : (0 : Int) ≤ (k2 : Int32).toInt := inltI rfl rfl c_25
              have hI_64 : (k2 : Int32).toInt < (6 : Int) := inleI rfl rfl c_26
              have hI_65 : (1 : Int) ≤ (k4 : Int32).toInt := inltI rfl rfl c_41
              have hI_66 : (k4 : Int32).toInt ≤ (10 : Int) := inltI rfl rfl c_49
              have hI_67 : (k5 : Int32).toInt < (0 : Int) := iltI rfl rfl c_58
              have hno : ¬ okLv x1 SX SY k1 k2 k3 k4 k5 := fun q9 => by unfold okLv okHS at q9; first | omega | (obtain ⟨⟨_, _, _, _⟩, _, _, _, _, _, _, _, _⟩ := q9; first | omega | contradiction)
              rw [hQ]
              exact W.iret (v := (-1)) hx hb hr (fun t ht hW9 => ⟨⟨(-1), M, rfl, ⟨hW, hF, hT9, (by unfold syLv; rw [if_neg hno]; exact hC.mono), (by unfold anLv; rw [if_neg hno])⟩, ⟨2, by rw [ht]; exact hP, hD⟩⟩, hS.F ht⟩) hS.2.2 dX11_leave_73
            · have hz := rfl (a := 0)
              refine lv_iload hx hb dX11_leave_62 (lv_at hl 7 rfl) ?_
              refine lv_iconst (v := 5) hx hb dX11_leave_64 (by decide) ?_
              refine lv_icmp_le (tgt := 74) hx hb dX11_leave_65 (by decide) (fun c_68 => ?_) (fun c_68 => ?_)
              · have hz := rfl (a := 0)
                refine lv_aload hx hb dX11_leave_74 (lv_at hl 1 rfl) ?_
                refine lv_iload_n hx hb dX11_leave_76 rfl (lv_at hl 5 rfl) ?_
                have hPc : va_P D vwCl ([] ++ va_pl L M) H_29 := hP.part (cx := []) [] rfl
                have hDc : va_D A ([] ++ va_pl L M) := hD.part (cx := []) [] (by decide) rfl
                have hFc : ∀ q, va_A ([] ++ va_pl L M) H_29.size q → A q := pg_free hDc hS hA
                refine va_calli (va_runV (As := [.int k3]) (rest := []) ⟨hx, hb, hml, hown, hg⟩ (e_X2_isFree l D cy K L M H_29.size b_5 k3  hW hb_10) (cwV 1 hg (gV wd_361 wd_362 wd_363 wd_57 wd_364) rfl rfl rfl (by decide +kernel) ⟨(Nat.le_trans (Nat.le_of_ble_eq_true rfl) hRf), (Nat.le_trans (Nat.le_of_ble_eq_true rfl) hRl)⟩) ⟨PG.blind, pg_recv hK hP hb_10.1 hM11 rfl, fun U hU hW => ⟨rfl, PG.at hPc hK hDc hN hU hW⟩⟩ rfl rfl hl.1 rfl (lv_room (Nat.le_of_ble_eq_true rfl)) dX11_leave_77 ⟨(Nat.le_trans (Nat.le_of_ble_eq_true rfl) hRc), (Nat.le_trans (Nat.le_of_ble_eq_true rfl) hRs)⟩) hS (fun q _ h => hFc q h) hFc (fun r_70 M_71 t H_69 locs ht hvm hw hB hz1 hk1 hS => ?_)
                have hp_72 := hw
                obtain ⟨hP1, hD1⟩ := hB
                rw [ht] at hP1
                obtain ⟨hP, hD⟩ := va_joinP (X := [(xa, (b11_1 x0 (nI x1) x2 (nI x3) x4 x5 x6 x7 x8 x9 x10))]) (cx := []) (wr := [(xa, (b11_1 x0 (nI x1) x2 (nI x3) x4 x5 x6 x7 x8 x9 x10))]) (rx := []) (pl := va_pl L M) (pl1 := va_pl L M) hP hD [] [0] rfl rfl (by decide) (by decide) hk1 hFc hP1 hD1
                have hP : va_P D vwCl ([(xa, (b11_1 x0 (nI x1) x2 (nI x3) x4 x5 x6 x7 x8 x9 x10))] ++ va_pl L M) H_69 := hP
                have hD : va_D A ([(xa, (b11_1 x0 (nI x1) x2 (nI x3) x4 x5 x6 x7 x8 x9 x10))] ++ va_pl L M) := hD
                rcases hp_72 with ⟨rfl, c_73, c_74, c_75⟩ | ⟨rfl, c_76⟩
                · have hz := rfl (a := 0)
                  refine lv_if_eq (tgt := 92) hx hb dX11_leave_80 (by decide) (fun c_77 => absurd c_77 (by decide)) (fun _ => ?_)
                  refine lv_iload_n hx hb dX11_leave_83 rfl (lv_at hl 5 rfl) ?_
                  refine lv_aload hx hb dX11_leave_84 (lv_at hl 0 rfl) ?_
                  obtain ⟨v78_0, v78_1, v78_2, v78_3, v78_4, v78_5, v78_6, v78_7, v78_8, v78_9, v78_10, v78_11, v78_12, v78_13, v78_14, v78_15, hM78, h78_0, h78_1, h78_4, h78_8⟩ := hW.open_9 hb_40
                  refine pg_get (D := D) (ci := 9) (v := .int v78_3) (C := RX9) (T := TX9) (N := 16) hx hb hg inG9 hown hK hP hb_40.1 hM78 rfl 3 (by decide) (hg _ wd_365) (fun _ h9 => h9) rfl dX11_leave_86 ?_
                  refine lv_icmp_gt (tgt := 98) hx hb dX11_leave_89 (by decide) (fun c_79 => ?_) (fun c_79 => ?_)
                  · have hz := rfl (a := 0)
                    refine lv_aload hx hb dX11_leave_98 (lv_at hl 0 rfl) ?_
                    refine lv_iload_n hx hb dX11_leave_100 rfl (lv_at hl 5 rfl) ?_
                    refine lv_iload hx hb dX11_leave_101 (lv_at hl 6 rfl) ?_
                    refine lv_iload hx hb dX11_leave_103 (lv_at hl 7 rfl) ?_
                    have hPc : va_P D vwCl ([] ++ va_pl L M) H_69 := hP.part (cx := []) [] rfl
                    have hDc : va_D A ([] ++ va_pl L M) := hD.part (cx := []) [] (by decide) rfl
                    have hFc : ∀ q, va_A ([] ++ va_pl L M) H_69.size q → A q := pg_free hDc hS hA
                    have hI_80 : (0 : Int) ≤ (k2 : Int32).toInt := inltI rfl rfl c_25
                    have hI_81 : (k2 : Int32).toInt < (6 : Int) := inleI rfl rfl c_26
                    have hI_82 : (1 : Int) ≤ (k4 : Int32).toInt := inltI rfl rfl c_41
                    have hI_83 : (k4 : Int32).toInt ≤ (10 : Int) := inltI rfl rfl c_49
                    have hI_84 : (0 : Int) ≤ (k5 : Int32).toInt := inltI rfl rfl c_58
                    have hI_85 : (k5 : Int32).toInt ≤ (5 : Int) := ileI rfl rfl c_68
                    have hI_86 : (0 : Int) ≤ (k3 : Int32).toInt := inltI rfl rfl c_74
                    have hI_87 : (k3 : Int32).toInt ≤ (999 : Int) := inltI rfl rfl c_75
                    have hI_88 : (v78_3 : Int32).toInt < (k3 : Int32).toInt := iltI rfl rfl c_79
                    have hA_89 : (cV 9 M b_33 0).toInt = ((v78_0 : Nat) : Int) := by rw [cV_of hM78 rfl]; exact nI_toInt (by omega)
                    have hA_90 : (cV 9 M b_33 2).toInt = (v78_2 : Int32).toInt := by rw [cV_of hM78 rfl]
                    have hA_91 : (cV 9 M b_33 3).toInt = (v78_3 : Int32).toInt := by rw [cV_of hM78 rfl]
                    have hA_92 : (cV 9 M b_33 4).toInt = (v78_4 : Int32).toInt := by rw [cV_of hM78 rfl]
                    have hA_93 : (cV 9 M b_33 5).toInt = (v78_5 : Int32).toInt := by rw [cV_of hM78 rfl]
                    have hA_94 : (cV 9 M b_33 6).toInt = (v78_6 : Int32).toInt := by rw [cV_of hM78 rfl]
                    have hA_95 : (cV 9 M b_33 7).toInt = (v78_7 : Int32).toInt := by rw [cV_of hM78 rfl]
                    refine va_callv (va_runV (As := [.int k3, .int k4, .int k5]) (rest := []) ⟨hx, hb, hml, hown, hg⟩ (e_finish l D cy K L M H_69.size b_33 k3 k4 k5 Bo M b_5 (cfx M b_5) (cax M b_5) i9  hW hb_40 hb_10 hV he9 hi9) (cwV 3 hg (gV wd_366 wd_367 wd_368 wd_52 wd_369) rfl rfl rfl (by decide +kernel) ⟨(Nat.le_trans (Nat.le_of_ble_eq_true rfl) hRf), (Nat.le_trans (Nat.le_of_ble_eq_true rfl) hRl)⟩) ⟨PG.blind, pg_recv hK hP hb_40.1 hM78 rfl, fun U hU hW => ⟨rfl, PG.at hPc hK hDc hN hU hW⟩⟩ rfl rfl hl.1 rfl (lv_room (Nat.le_of_ble_eq_true rfl)) dX11_leave_105 ⟨(Nat.le_trans (Nat.le_of_ble_eq_true rfl) hRc), (Nat.le_trans (Nat.le_of_ble_eq_true rfl) hRs)⟩) hS (fun q _ h => hFc q h) hFc (fun M_98 t H_96 locs ht hvm hw hB hz1 hk1 hS => ?_)
                    have hWb := hW
                    obtain ⟨hW, hF2, gT9, hVP, hp_99⟩ := hw
                    obtain ⟨hP1, hD1⟩ := hB
                    rw [ht] at hP1
                    obtain ⟨hP, hD⟩ := va_joinP (X := [(xa, (b11_1 x0 (nI x1) x2 (nI x3) x4 x5 x6 x7 x8 x9 x10))]) (cx := []) (wr := [(xa, (b11_1 x0 (nI x1) x2 (nI x3) x4 x5 x6 x7 x8 x9 x10))]) (rx := []) (pl := va_pl L M) (pl1 := va_pl L M_98) hP hD [] [0] rfl rfl (by decide) (by decide) hk1 hFc hP1 hD1
                    have hP : va_P D vwCl ([(xa, (b11_1 x0 (nI x1) x2 (nI x3) x4 x5 x6 x7 x8 x9 x10))] ++ va_pl L M_98) H_96 := hP
                    have hD : va_D A ([(xa, (b11_1 x0 (nI x1) x2 (nI x3) x4 x5 x6 x7 x8 x9 x10))] ++ va_pl L M_98) := hD
                    have hM_100 : M_98 b_5 = (b2_2 v11_0 v11_1 v11_2 v11_3 (nI v11_4) (nI v11_5) v11_6 v11_7 v11_8 (nI v11_9) v11_10 (nI v11_11) v11_12 v11_13 v11_14 v11_15 v11_16 v11_17 v11_18 v11_19) := (hF2.at hb_10 (by decide)).trans hM11
                    have hF : fr K L [9] M M_98 := hF.tr hF2 (by decide)
                    have hT9 : fT 9 K L [5, 6, 7] M M_98 := hT9.tr gT9 (by decide)
                    have hV : VC Bo K L M M_98 b_5 (cfx M b_5) (va_up (va_up (va_up (cax M b_5) 22 (upd ((cax M b_5) 22) i9 k3)) 23 (upd ((cax M b_5) 23) i9 k4)) 24 (upd ((cax M b_5) 24) i9 k5)) := hVP
                    have hs_101 : RFc (M_98 (rA 2 M_98 b_5 8)) i9 = some b_33 := by rw [rA_c ((fr.cv hF2 (by decide)) _ hb_10 8 rfl), hF2.at (KH hWb hb_10).2.2.2.1 (by decide)]; exact he9
                    refine lv_aload_n hx hb dX11_leave_108 rfl (lv_at hl 2 rfl) ?_
                    refine lv_aload hx hb dX11_leave_109 (lv_at hl 0 rfl) ?_
                    obtain ⟨v102_0, v102_1, v102_2, v102_3, v102_4, v102_5, v102_6, v102_7, v102_8, v102_9, v102_10, v102_11, v102_12, v102_13, v102_14, v102_15, hM102, h102_0, h102_1, h102_4, h102_8⟩ := hW.open_9 hb_40
                    refine pg_get (D := D) (ci := 9) (v := .int (nI v102_0)) (C := RX9) (T := TX9) (N := 16) hx hb hg inG9 hown hK hP hb_40.1 hM102 rfl 0 (by decide) (hg _ wd_370) (fun _ h9 => h9) rfl dX11_leave_111 ?_
                    have hPc := hP.sub (ws' := [(xa, (b11_1 x0 (nI x1) x2 (nI x3) x4 x5 x6 x7 x8 x9 x10))]) [0] rfl
                    have hDc := hD.sub (ws' := [(xa, (b11_1 x0 (nI x1) x2 (nI x3) x4 x5 x6 x7 x8 x9 x10))]) [0] (by decide) rfl
                    have hKc := hK.sub (tys' := []) [] rfl
                    have hFc := va_free (wc := [(xa, (b11_1 x0 (nI x1) x2 (nI x3) x4 x5 x6 x7 x8 x9 x10))]) hD hS hA [0] rfl
                    refine va_calli (va_runV (As := [.int (nI v102_0)]) (rest := []) ⟨hx, hb, hml, hown, hg⟩ (k_accept l D H_96.size xa x0 (nI x1) x2 (nI x3) x4 x5 x6 x7 x8 x9 x10 (nI v102_0)) (cwV 1 hg (gV wd_356 wd_357 wd_358 wd_3 wd_359) rfl rfl rfl (by decide +kernel) ⟨(Nat.le_trans (Nat.le_of_ble_eq_true rfl) hRf), (Nat.le_trans (Nat.le_of_ble_eq_true rfl) hRl)⟩) ⟨Pr.blind, va_recv hK hP (ci := 11) (q0 := 0) rfl rfl, fun U hU hW => ⟨rfl, Pr.at hPc hKc hDc hN hU hW⟩⟩ rfl rfl hl.1 rfl (lv_room (Nat.le_of_ble_eq_true rfl)) dX11_leave_114 ⟨(Nat.le_trans (Nat.le_of_ble_eq_true rfl) hRc), (Nat.le_trans (Nat.le_of_ble_eq_true rfl) hRs)⟩) hS (fun q _ h => hFc q h) hFc (fun r_104 M_105 t H_103 locs ht hvm hw hB hz1 hk1 hS => ?_)
                    have hp_106 := hw
                    obtain ⟨hP1, hK1, hD1⟩ := hB
                    rw [ht] at hP1
                    obtain ⟨hP, hD⟩ := va_joinQ (X := [(xa, (b11_1 x0 (nI x1) x2 (nI x3) x4 x5 x6 x7 x8 x9 x10))]) (cx := [(xa, (b11_1 x0 (nI x1) x2 (nI x3) x4 x5 x6 x7 x8 x9 x10))]) (wr := []) (w1 := [(xa, (b11_1 x0 (nI x1) x2 (nI x3) x4 x5 x6 x7 x8 0 (-1)))]) (pl := va_pl L M_98) hP hD [0] [] rfl rfl (by decide) (by decide) hk1 hFc hP1 hD1
                    have hP : va_P D vwCl ([(xa, (b11_1 x0 (nI x1) x2 (nI x3) x4 x5 x6 x7 x8 0 (-1)))] ++ va_pl L M_98) H_103 := hP
                    have hD : va_D A ([(xa, (b11_1 x0 (nI x1) x2 (nI x3) x4 x5 x6 x7 x8 0 (-1)))] ++ va_pl L M_98) := hD
                    have hq := Eq.symm hp_106
                    subst hq
                    have hyes : okLv x1 SX SY k1 k2 k3 k4 k5 := by unfold okLv okHS; refine ⟨⟨?_, ?_, ?_, ?_⟩, ?_, ?_, ?_, ?_, ?_, ?_, ?_, ?_⟩ <;> first | omega | assumption
                    rw [hQ]
                    exact W.iret (v := (nI v102_0)) hx hb hr (fun t ht hW9 => ⟨⟨(nI v102_0), M_98, rfl, ⟨hW, hF, hT9, (by unfold syLv; rw [if_pos hyes, show stN SY k1 k2 = i9 from hsn]; have hZ := hC.fin hW0 i0 b1 hkn hb9 hV ext.rf (by rw [hF.at i0 (by decide)]) (fun q iq => ⟨iq, cR_c (fr.cv hF (by decide) q iq 3 rfl)⟩) (((hSM.leave (t := i9) (d := k3) (i := k4) (z := k5) (by omega)).up1)); rw [va_upI] at hZ; exact hZ), (by unfold anLv; rw [if_pos hyes]; have h9 := hV.2.2.2.nm b_5 hb_10 i9 b_33 hi9 hs_101; rw [cV_of (j := 0) hM102 rfl] at h9; rw [h9]; exact congrArg nI hsn.symm)⟩, ⟨0, by rw [ht]; exact hP, hD⟩⟩, hS.F ht⟩) hS.2.2 dX11_leave_117
                  · have hz := rfl (a := 0)
                    refine lv_aload_n hx hb dX11_leave_92 rfl (lv_at hl 2 rfl) ?_
                    refine lv_iconst (v := 3) hx hb dX11_leave_93 (by decide) ?_
                    have hPc := hP.sub (ws' := [(xa, (b11_1 x0 (nI x1) x2 (nI x3) x4 x5 x6 x7 x8 x9 x10))]) [0] rfl
                    have hDc := hD.sub (ws' := [(xa, (b11_1 x0 (nI x1) x2 (nI x3) x4 x5 x6 x7 x8 x9 x10))]) [0] (by decide) rfl
                    have hKc := hK.sub (tys' := []) [] rfl
                    have hFc := va_free (wc := [(xa, (b11_1 x0 (nI x1) x2 (nI x3) x4 x5 x6 x7 x8 x9 x10))]) hD hS hA [0] rfl
                    refine va_calli (va_runV (As := [.int 3]) (rest := []) ⟨hx, hb, hml, hown, hg⟩ (k_refuse l D H_69.size xa x0 (nI x1) x2 (nI x3) x4 x5 x6 x7 x8 x9 x10 3) (cwV 1 hg (gV wd_344 wd_345 wd_346 wd_3 wd_347) rfl rfl rfl (by decide +kernel) ⟨(Nat.le_trans (Nat.le_of_ble_eq_true rfl) hRf), (Nat.le_trans (Nat.le_of_ble_eq_true rfl) hRl)⟩) ⟨Pr.blind, va_recv hK hP (ci := 11) (q0 := 0) rfl rfl, fun U hU hW => ⟨rfl, Pr.at hPc hKc hDc hN hU hW⟩⟩ rfl rfl hl.1 rfl (lv_room (Nat.le_of_ble_eq_true rfl)) dX11_leave_94 ⟨(Nat.le_trans (Nat.le_of_ble_eq_true rfl) hRc), (Nat.le_trans (Nat.le_of_ble_eq_true rfl) hRs)⟩) hS (fun q _ h => hFc q h) hFc (fun r_108 M_109 t H_107 locs ht hvm hw hB hz1 hk1 hS => ?_)
                    have hp_110 := hw
                    obtain ⟨hP1, hK1, hD1⟩ := hB
                    rw [ht] at hP1
                    obtain ⟨hP, hD⟩ := va_joinQ (X := [(xa, (b11_1 x0 (nI x1) x2 (nI x3) x4 x5 x6 x7 x8 x9 x10))]) (cx := [(xa, (b11_1 x0 (nI x1) x2 (nI x3) x4 x5 x6 x7 x8 x9 x10))]) (wr := []) (w1 := [(xa, (b11_1 x0 (nI x1) x2 (nI x3) x4 x5 x6 x7 x8 3 (-1)))]) (pl := va_pl L M) hP hD [0] [] rfl rfl (by decide) (by decide) hk1 hFc hP1 hD1
                    have hP : va_P D vwCl ([(xa, (b11_1 x0 (nI x1) x2 (nI x3) x4 x5 x6 x7 x8 3 (-1)))] ++ va_pl L M) H_107 := hP
                    have hD : va_D A ([(xa, (b11_1 x0 (nI x1) x2 (nI x3) x4 x5 x6 x7 x8 3 (-1)))] ++ va_pl L M) := hD
                    have hq := Eq.symm hp_110
                    subst hq
                    have hI_111 : (0 : Int) ≤ (k2 : Int32).toInt := inltI rfl rfl c_25
                    have hI_112 : (k2 : Int32).toInt < (6 : Int) := inleI rfl rfl c_26
                    have hI_113 : (1 : Int) ≤ (k4 : Int32).toInt := inltI rfl rfl c_41
                    have hI_114 : (k4 : Int32).toInt ≤ (10 : Int) := inltI rfl rfl c_49
                    have hI_115 : (0 : Int) ≤ (k5 : Int32).toInt := inltI rfl rfl c_58
                    have hI_116 : (k5 : Int32).toInt ≤ (5 : Int) := ileI rfl rfl c_68
                    have hI_117 : (0 : Int) ≤ (k3 : Int32).toInt := inltI rfl rfl c_74
                    have hI_118 : (k3 : Int32).toInt ≤ (999 : Int) := inltI rfl rfl c_75
                    have hI_119 : (k3 : Int32).toInt ≤ (v78_3 : Int32).toInt := inltI rfl rfl c_79
                    have hA_120 : (cV 9 M b_33 0).toInt = ((v78_0 : Nat) : Int) := by rw [cV_of hM78 rfl]; exact nI_toInt (by omega)
                    have hA_121 : (cV 9 M b_33 2).toInt = (v78_2 : Int32).toInt := by rw [cV_of hM78 rfl]
                    have hA_122 : (cV 9 M b_33 3).toInt = (v78_3 : Int32).toInt := by rw [cV_of hM78 rfl]
                    have hA_123 : (cV 9 M b_33 4).toInt = (v78_4 : Int32).toInt := by rw [cV_of hM78 rfl]
                    have hA_124 : (cV 9 M b_33 5).toInt = (v78_5 : Int32).toInt := by rw [cV_of hM78 rfl]
                    have hA_125 : (cV 9 M b_33 6).toInt = (v78_6 : Int32).toInt := by rw [cV_of hM78 rfl]
                    have hA_126 : (cV 9 M b_33 7).toInt = (v78_7 : Int32).toInt := by rw [cV_of hM78 rfl]
                    have hno : ¬ okLv x1 SX SY k1 k2 k3 k4 k5 := fun q9 => by unfold okLv okHS at q9; first | omega | (obtain ⟨⟨_, _, _, _⟩, _, _, _, _, _, _, _, _⟩ := q9; first | omega | contradiction)
                    rw [hQ]
                    exact W.iret (v := (-1)) hx hb hr (fun t ht hW9 => ⟨⟨(-1), M, rfl, ⟨hW, hF, hT9, (by unfold syLv; rw [if_neg hno]; exact hC.mono), (by unfold anLv; rw [if_neg hno])⟩, ⟨3, by rw [ht]; exact hP, hD⟩⟩, hS.F ht⟩) hS.2.2 dX11_leave_97
                · have hz := rfl (a := 0)
                  refine lv_if_eq (tgt := 92) hx hb dX11_leave_80 (by decide) (fun _ => ?_) (fun c_127 => absurd c_127 (by decide))
                  refine lv_aload_n hx hb dX11_leave_92 rfl (lv_at hl 2 rfl) ?_
                  refine lv_iconst (v := 3) hx hb dX11_leave_93 (by decide) ?_
                  have hPc := hP.sub (ws' := [(xa, (b11_1 x0 (nI x1) x2 (nI x3) x4 x5 x6 x7 x8 x9 x10))]) [0] rfl
                  have hDc := hD.sub (ws' := [(xa, (b11_1 x0 (nI x1) x2 (nI x3) x4 x5 x6 x7 x8 x9 x10))]) [0] (by decide) rfl
                  have hKc := hK.sub (tys' := []) [] rfl
                  have hFc := va_free (wc := [(xa, (b11_1 x0 (nI x1) x2 (nI x3) x4 x5 x6 x7 x8 x9 x10))]) hD hS hA [0] rfl
                  refine va_calli (va_runV (As := [.int 3]) (rest := []) ⟨hx, hb, hml, hown, hg⟩ (k_refuse l D H_69.size xa x0 (nI x1) x2 (nI x3) x4 x5 x6 x7 x8 x9 x10 3) (cwV 1 hg (gV wd_344 wd_345 wd_346 wd_3 wd_347) rfl rfl rfl (by decide +kernel) ⟨(Nat.le_trans (Nat.le_of_ble_eq_true rfl) hRf), (Nat.le_trans (Nat.le_of_ble_eq_true rfl) hRl)⟩) ⟨Pr.blind, va_recv hK hP (ci := 11) (q0 := 0) rfl rfl, fun U hU hW => ⟨rfl, Pr.at hPc hKc hDc hN hU hW⟩⟩ rfl rfl hl.1 rfl (lv_room (Nat.le_of_ble_eq_true rfl)) dX11_leave_94 ⟨(Nat.le_trans (Nat.le_of_ble_eq_true rfl) hRc), (Nat.le_trans (Nat.le_of_ble_eq_true rfl) hRs)⟩) hS (fun q _ h => hFc q h) hFc (fun r_129 M_130 t H_128 locs ht hvm hw hB hz1 hk1 hS => ?_)
                  have hp_131 := hw
                  obtain ⟨hP1, hK1, hD1⟩ := hB
                  rw [ht] at hP1
                  obtain ⟨hP, hD⟩ := va_joinQ (X := [(xa, (b11_1 x0 (nI x1) x2 (nI x3) x4 x5 x6 x7 x8 x9 x10))]) (cx := [(xa, (b11_1 x0 (nI x1) x2 (nI x3) x4 x5 x6 x7 x8 x9 x10))]) (wr := []) (w1 := [(xa, (b11_1 x0 (nI x1) x2 (nI x3) x4 x5 x6 x7 x8 3 (-1)))]) (pl := va_pl L M) hP hD [0] [] rfl rfl (by decide) (by decide) hk1 hFc hP1 hD1
                  have hP : va_P D vwCl ([(xa, (b11_1 x0 (nI x1) x2 (nI x3) x4 x5 x6 x7 x8 3 (-1)))] ++ va_pl L M) H_128 := hP
                  have hD : va_D A ([(xa, (b11_1 x0 (nI x1) x2 (nI x3) x4 x5 x6 x7 x8 3 (-1)))] ++ va_pl L M) := hD
                  have hq := Eq.symm hp_131
                  subst hq
                  have hI_132 : (0 : Int) ≤ (k2 : Int32).toInt := inltI rfl rfl c_25
                  have hI_133 : (k2 : Int32).toInt < (6 : Int) := inleI rfl rfl c_26
                  have hI_134 : (1 : Int) ≤ (k4 : Int32).toInt := inltI rfl rfl c_41
                  have hI_135 : (k4 : Int32).toInt ≤ (10 : Int) := inltI rfl rfl c_49
                  have hI_136 : (0 : Int) ≤ (k5 : Int32).toInt := inltI rfl rfl c_58
                  have hI_137 : (k5 : Int32).toInt ≤ (5 : Int) := ileI rfl rfl c_68
                  have hno : ¬ okLv x1 SX SY k1 k2 k3 k4 k5 := fun q9 => by unfold okLv okHS at q9; first | omega | (obtain ⟨⟨_, _, _, _⟩, _, _, _, _, _, _, _, _⟩ := q9; first | omega | contradiction)
                  rw [hQ]
                  exact W.iret (v := (-1)) hx hb hr (fun t ht hW9 => ⟨⟨(-1), M, rfl, ⟨hW, hF, hT9, (by unfold syLv; rw [if_neg hno]; exact hC.mono), (by unfold anLv; rw [if_neg hno])⟩, ⟨3, by rw [ht]; exact hP, hD⟩⟩, hS.F ht⟩) hS.2.2 dX11_leave_97
              · have hz := rfl (a := 0)
                refine lv_aload_n hx hb dX11_leave_68 rfl (lv_at hl 2 rfl) ?_
                refine lv_iconst (v := 2) hx hb dX11_leave_69 (by decide) ?_
                have hPc := hP.sub (ws' := [(xa, (b11_1 x0 (nI x1) x2 (nI x3) x4 x5 x6 x7 x8 x9 x10))]) [0] rfl
                have hDc := hD.sub (ws' := [(xa, (b11_1 x0 (nI x1) x2 (nI x3) x4 x5 x6 x7 x8 x9 x10))]) [0] (by decide) rfl
                have hKc := hK.sub (tys' := []) [] rfl
                have hFc := va_free (wc := [(xa, (b11_1 x0 (nI x1) x2 (nI x3) x4 x5 x6 x7 x8 x9 x10))]) hD hS hA [0] rfl
                refine va_calli (va_runV (As := [.int 2]) (rest := []) ⟨hx, hb, hml, hown, hg⟩ (k_refuse l D H_29.size xa x0 (nI x1) x2 (nI x3) x4 x5 x6 x7 x8 x9 x10 2) (cwV 1 hg (gV wd_344 wd_345 wd_346 wd_3 wd_347) rfl rfl rfl (by decide +kernel) ⟨(Nat.le_trans (Nat.le_of_ble_eq_true rfl) hRf), (Nat.le_trans (Nat.le_of_ble_eq_true rfl) hRl)⟩) ⟨Pr.blind, va_recv hK hP (ci := 11) (q0 := 0) rfl rfl, fun U hU hW => ⟨rfl, Pr.at hPc hKc hDc hN hU hW⟩⟩ rfl rfl hl.1 rfl (lv_room (Nat.le_of_ble_eq_true rfl)) dX11_leave_70 ⟨(Nat.le_trans (Nat.le_of_ble_eq_true rfl) hRc), (Nat.le_trans (Nat.le_of_ble_eq_true rfl) hRs)⟩) hS (fun q _ h => hFc q h) hFc (fun r_139 M_140 t H_138 locs ht hvm hw hB hz1 hk1 hS => ?_)
                have hp_141 := hw
                obtain ⟨hP1, hK1, hD1⟩ := hB
                rw [ht] at hP1
                obtain ⟨hP, hD⟩ := va_joinQ (X := [(xa, (b11_1 x0 (nI x1) x2 (nI x3) x4 x5 x6 x7 x8 x9 x10))]) (cx := [(xa, (b11_1 x0 (nI x1) x2 (nI x3) x4 x5 x6 x7 x8 x9 x10))]) (wr := []) (w1 := [(xa, (b11_1 x0 (nI x1) x2 (nI x3) x4 x5 x6 x7 x8 2 (-1)))]) (pl := va_pl L M) hP hD [0] [] rfl rfl (by decide) (by decide) hk1 hFc hP1 hD1
                have hP : va_P D vwCl ([(xa, (b11_1 x0 (nI x1) x2 (nI x3) x4 x5 x6 x7 x8 2 (-1)))] ++ va_pl L M) H_138 := hP
                have hD : va_D A ([(xa, (b11_1 x0 (nI x1) x2 (nI x3) x4 x5 x6 x7 x8 2 (-1)))] ++ va_pl L M) := hD
                have hq := Eq.symm hp_141
                subst hq
                have hI_142 : (0 : Int) ≤ (k2 : Int32).toInt := inltI rfl rfl c_25
                have hI_143 : (k2 : Int32).toInt < (6 : Int) := inleI rfl rfl c_26
                have hI_144 : (1 : Int) ≤ (k4 : Int32).toInt := inltI rfl rfl c_41
                have hI_145 : (k4 : Int32).toInt ≤ (10 : Int) := inltI rfl rfl c_49
                have hI_146 : (0 : Int) ≤ (k5 : Int32).toInt := inltI rfl rfl c_58
                have hI_147 : (5 : Int) < (k5 : Int32).toInt := inleI rfl rfl c_68
                have hno : ¬ okLv x1 SX SY k1 k2 k3 k4 k5 := fun q9 => by unfold okLv okHS at q9; first | omega | (obtain ⟨⟨_, _, _, _⟩, _, _, _, _, _, _, _, _⟩ := q9; first | omega | contradiction)
                rw [hQ]
                exact W.iret (v := (-1)) hx hb hr (fun t ht hW9 => ⟨⟨(-1), M, rfl, ⟨hW, hF, hT9, (by unfold syLv; rw [if_neg hno]; exact hC.mono), (by unfold anLv; rw [if_neg hno])⟩, ⟨2, by rw [ht]; exact hP, hD⟩⟩, hS.F ht⟩) hS.2.2 dX11_leave_73
    · have hz := rfl (a := 0)
      refine lv_if_ne (tgt := 25) hx hb dX11_leave_16 (by decide) (fun c_148 => absurd c_148 (by decide)) (fun _ => ?_)
      refine lv_aload_n hx hb dX11_leave_19 rfl (lv_at hl 1 rfl) ?_
      refine lv_iconst (v := 1) hx hb dX11_leave_20 (by decide) ?_
      have hPc := hP.sub (ws' := [(xa, (b11_1 x0 (nI x1) x2 (nI x3) x4 x5 x6 x7 x8 x9 x10))]) [0] rfl
      have hDc := hD.sub (ws' := [(xa, (b11_1 x0 (nI x1) x2 (nI x3) x4 x5 x6 x7 x8 x9 x10))]) [0] (by decide) rfl
      have hKc := hK.sub (tys' := []) [] rfl
      have hFc := va_free (wc := [(xa, (b11_1 x0 (nI x1) x2 (nI x3) x4 x5 x6 x7 x8 x9 x10))]) hD hS hA [0] rfl
      refine va_calli (va_runV (As := [.int 1]) (rest := []) ⟨hx, hb, hml, hown, hg⟩ (k_refuse l D H_20.size xa x0 (nI x1) x2 (nI x3) x4 x5 x6 x7 x8 x9 x10 1) (cwV 1 hg (gV wd_344 wd_345 wd_346 wd_3 wd_347) rfl rfl rfl (by decide +kernel) ⟨(Nat.le_trans (Nat.le_of_ble_eq_true rfl) hRf), (Nat.le_trans (Nat.le_of_ble_eq_true rfl) hRl)⟩) ⟨Pr.blind, va_recv hK hP (ci := 11) (q0 := 0) rfl rfl, fun U hU hW => ⟨rfl, Pr.at hPc hKc hDc hN hU hW⟩⟩ rfl rfl hl.1 rfl (lv_room (Nat.le_of_ble_eq_true rfl)) dX11_leave_21 ⟨(Nat.le_trans (Nat.le_of_ble_eq_true rfl) hRc), (Nat.le_trans (Nat.le_of_ble_eq_true rfl) hRs)⟩) hS (fun q _ h => hFc q h) hFc (fun r_150 M_151 t H_149 locs ht hvm hw hB hz1 hk1 hS => ?_)
      have hp_152 := hw
      obtain ⟨hP1, hK1, hD1⟩ := hB
      rw [ht] at hP1
      obtain ⟨hP, hD⟩ := va_joinQ (X := [(xa, (b11_1 x0 (nI x1) x2 (nI x3) x4 x5 x6 x7 x8 x9 x10))]) (cx := [(xa, (b11_1 x0 (nI x1) x2 (nI x3) x4 x5 x6 x7 x8 x9 x10))]) (wr := []) (w1 := [(xa, (b11_1 x0 (nI x1) x2 (nI x3) x4 x5 x6 x7 x8 1 (-1)))]) (pl := va_pl L M) hP hD [0] [] rfl rfl (by decide) (by decide) hk1 hFc hP1 hD1
      have hP : va_P D vwCl ([(xa, (b11_1 x0 (nI x1) x2 (nI x3) x4 x5 x6 x7 x8 1 (-1)))] ++ va_pl L M) H_149 := hP
      have hD : va_D A ([(xa, (b11_1 x0 (nI x1) x2 (nI x3) x4 x5 x6 x7 x8 1 (-1)))] ++ va_pl L M) := hD
      have hq := Eq.symm hp_152
      subst hq
      have hno : ¬ okLv x1 SX SY k1 k2 k3 k4 k5 := fun q9 => by unfold okLv okHS at q9; first | omega | (obtain ⟨⟨_, _, _, _⟩, _, _, _, _, _, _, _, _⟩ := q9; first | omega | contradiction)
      rw [hQ]
      exact W.iret (v := (-1)) hx hb hr (fun t ht hW9 => ⟨⟨(-1), M, rfl, ⟨hW, hF, hT9, (by unfold syLv; rw [if_neg hno]; exact hC.mono), (by unfold anLv; rw [if_neg hno])⟩, ⟨1, by rw [ht]; exact hP, hD⟩⟩, hS.F ht⟩) hS.2.2 dX11_leave_24
