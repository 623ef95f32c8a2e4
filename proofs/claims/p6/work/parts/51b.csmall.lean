theorem lk_lf0 {M : Hp} {b i : Nat} (h : RFc (M (rA 2 M b 12)) i = none) (hi : i < 1000) : cax M b 2 i = -1 ∧ cax M b 3 i = 0 := by
  refine ⟨?_, ?_⟩
  · show vPl M b i = _
    unfold vPl
    rw [if_pos hi, h]
  · show vLf 2 M b i = _
    unfold vLf
    rw [if_pos hi, h]
theorem lk_lf {M : Hp} {b i l : Nat} (h : RFc (M (rA 2 M b 12)) i = some l) (hi : i < 1000) : cax M b 2 i = nI (ALc (M (rA 3 M l 1))) ∧ cax M b 3 i = cV 3 M l 2 ∧ cax M b 4 i = cV 3 M l 0 := by
  refine ⟨?_, ?_, ?_⟩
  · show vPl M b i = _
    unfold vPl
    rw [if_pos hi, h]
  · show vLf 2 M b i = _
    unfold vLf
    rw [if_pos hi, h]
  · show vLf 0 M b i = _
    unfold vLf
    rw [if_pos hi, h]
theorem lk_he0 {M : Hp} {b i : Nat} (h : RFc (M (rA 2 M b 7)) i = none) (hi : i < 6) : cax M b 51 i = -1 := by
  show vHe M b i = _
  unfold vHe
  rw [if_pos hi, h]
theorem lk_he {M : Hp} {b i t : Nat} (h : RFc (M (rA 2 M b 7)) i = some t) (hi : i < 6) : cax M b 51 i = cV 9 M t 0 := by
  show vHe M b i = _
  unfold vHe
  rw [if_pos hi, h]
theorem lk_te {M : Hp} {b i t : Nat} (h : RFc (M (rA 2 M b 8)) i = some t) (hi : i < 24) : cax M b 19 i = cV 4 M (rA 9 M t 1) 0 ∧ cax M b 20 i = cV 9 M t 2 ∧ cax M b 21 i = cV 9 M t 3 ∧ cax M b 22 i = cV 9 M t 5 ∧ cax M b 23 i = cV 9 M t 6 ∧ cax M b 24 i = cV 9 M t 7 ∧ cax M b 25 i = hrN M (cR 9 M t 8) ∧ cax M b 26 i = cV 9 M t 4 ∧ cax M b 27 i = owN M (cR 4 M (rA 9 M t 1) 3) := by
  refine ⟨?_, ?_, ?_, ?_, ?_, ?_, ?_, ?_, ?_⟩
  · show vWho M b i = _
    unfold vWho
    rw [if_pos hi, h]
  · show vTe 2 M b i = _
    unfold vTe
    rw [if_pos hi, h]
  · show vTe 3 M b i = _
    unfold vTe
    rw [if_pos hi, h]
  · show vTe 5 M b i = _
    unfold vTe
    rw [if_pos hi, h]
  · show vTe 6 M b i = _
    unfold vTe
    rw [if_pos hi, h]
  · show vTe 7 M b i = _
    unfold vTe
    rw [if_pos hi, h]
  · show vHr M b i = _
    unfold vHr
    rw [if_pos hi, h]
  · show vTe 4 M b i = _
    unfold vTe
    rw [if_pos hi, h]
  · show vOw M b i = _
    unfold vOw
    rw [if_pos hi, h]
theorem lk_ru {M : Hp} {b i q : Nat} (h : RFc (M (rA 2 M b 10)) i = some q) (hi : i < 16) : cax M b 34 i = cV 6 M q 0 ∧ cax M b 35 i = cV 6 M q 1 ∧ ∀ m, m < 24 → cax M b 36 (24 * i + m) = IFc (M (rA 6 M q 2)) m := by
  refine ⟨?_, ?_, fun m hm => ?_⟩
  · show vRu 0 M b i = _
    unfold vRu
    rw [if_pos hi, h]
  · show vRu 1 M b i = _
    unfold vRu
    rw [if_pos hi, h]
  · show vTm M b (24 * i + m) = _
    unfold vTm
    rw [show (24 * i + m) / 24 = i by omega, show (24 * i + m) % 24 = m by omega, if_pos hi, h]
set_option maxHeartbeats 4000000 in
set_option maxRecDepth 100000 in
theorem e_isTerm (l : Launch) (D : va_G) (cy : Nat → ClassId) (K : Kp) (L : List Nat) (M : Hp) (sz : Nat) (k1 : Int32) (k2 : Int32) (hW : WOK cy K L M)  : Met l yX6_isTerm (wsM yX6_isTerm cX6_isTerm 2 (some .boolean)) ({ frames := 0, cells := 0, slots := 0, locals := 0 }) (va_Pc [.int k1, .int k2] (PG D cy [] L M sz)) (va_Qi (fun (r : Int32) (_ : Unit) => (r = 1 ∧ (0 ≤ k1.toInt ∧ k1.toInt < 6 ∧ 0 ≤ k2.toInt ∧ k2.toInt < 4) ∧ ¬ k1 < 0 ∧ ¬ 6 ≤ k1 ∧ ¬ k2 < 0 ∧ ¬ 4 ≤ k2) ∨ (r = 0 ∧ ¬ (0 ≤ k1.toInt ∧ k1.toInt < 6 ∧ 0 ≤ k2.toInt ∧ k2.toInt < 4))) (fun _ t => PQ D [] L M (va_A ([] ++ va_pl L M) sz) t) (va_A ([] ++ va_pl L M) sz)) 0 0 (va_A ([] ++ va_pl L M) sz) := by
  refine Met.ofW (cc := cX6_isTerm) (maxL := 2) (ret := (some .boolean)) (by decide) rfl ?_
  intro p e s m args below meth c s₁ B hml hv
  obtain ⟨rfl, hsz, hP, hK, hD0, hN⟩ := hv
  have hx := B.exec
  have hb := B.bytes
  have hr := B.returns
  have hts := atoms_spec (ws := (wsM yX6_isTerm cX6_isTerm 2 (some .boolean))) B.pre
  have hg : ∀ w ∈ lw_good, w.before _ s = true := fun w h => hts w (List.mem_cons_of_mem _ h)
  have hown : s.vm.findClass RX6 = some m.cls := findClass_of_methodNamed B.named
  have hlocks := B.notSynchronized
  subst hsz
  have hD := hD0.self (sz := s.heap.size)
  generalize hAe : va_A ([] ++ va_pl L M) s.heap.size = A at hD ⊢
  have hA : ∀ q : Nat, s.heap.size ≤ q → A q := fun q h => by rw [← hAe]; exact Or.inr h
  have hS : va_S A s.heap s.heap [] := va_S.rf
  have hl := lv_entry ([.int k1, .int k2]) (n := 2) (Nat.le_of_ble_eq_true rfl)
  rw [lg_entry_eq]
  generalize (lg_sl ([.int k1, .int k2]) ++ List.replicate (2 - (lg_sl ([.int k1, .int k2])).length) Slot.unset).toArray = ls at hl ⊢
  refine W.nameQ (fun Q hQ => ?_)
  refine W.nameR (fun R hR => ?_)
  have hRf : 0 ≤ R.frames := by rw [hR]; exact Nat.le_of_ble_eq_true rfl
  have hRl : 0 ≤ R.locals := by rw [hR]; exact Nat.le_of_ble_eq_true rfl
  have hRc : 0 ≤ R.cells := by rw [hR]; exact Nat.le_of_ble_eq_true rfl
  have hRs : 0 ≤ R.slots := by rw [hR]; exact Nat.le_of_ble_eq_true rfl
  have hl : lv_has ls 2 [(0, .int k1), (1, .int k2)] := hl
  refine lv_iload_n hx hb dX6_isTerm_0 rfl (lv_at hl 0 rfl) ?_
  refine lv_if_lt (tgt := 23) hx hb dX6_isTerm_1 (by decide) (fun c_1 => ?_) (fun c_1 => ?_)
  · have hz := rfl (a := 0)
    refine lv_iconst (v := 0) hx hb dX6_isTerm_23 (by decide) ?_
    have hI_2 : (k1 : Int32).toInt < (0 : Int) := iltI rfl rfl c_1
    rw [hQ]
    exact W.zret (v := 0) hx hb hr rfl (fun t ht hW9 => ⟨⟨0, (), rfl, (Or.inr ⟨rfl, by omega⟩), ⟨by rw [ht]; exact hP, hD⟩⟩, hS.F ht⟩) hS.2.2 dX6_isTerm_24
  · have hz := rfl (a := 0)
    refine lv_iload_n hx hb dX6_isTerm_4 rfl (lv_at hl 0 rfl) ?_
    refine lv_bipush (v := 6) hx hb dX6_isTerm_5 (by decide) ?_
    refine lv_icmp_ge (tgt := 23) hx hb dX6_isTerm_7 (by decide) (fun c_3 => ?_) (fun c_3 => ?_)
    · have hz := rfl (a := 0)
      refine lv_iconst (v := 0) hx hb dX6_isTerm_23 (by decide) ?_
      have hI_4 : (0 : Int) ≤ (k1 : Int32).toInt := inltI rfl rfl c_1
      have hI_5 : (6 : Int) ≤ (k1 : Int32).toInt := ileI rfl rfl c_3
      rw [hQ]
      exact W.zret (v := 0) hx hb hr rfl (fun t ht hW9 => ⟨⟨0, (), rfl, (Or.inr ⟨rfl, by omega⟩), ⟨by rw [ht]; exact hP, hD⟩⟩, hS.F ht⟩) hS.2.2 dX6_isTerm_24
    · have hz := rfl (a := 0)
      refine lv_iload_n hx hb dX6_isTerm_10 rfl (lv_at hl 1 rfl) ?_
      refine lv_if_lt (tgt := 23) hx hb dX6_isTerm_11 (by decide) (fun c_6 => ?_) (fun c_6 => ?_)
      · have hz := rfl (a := 0)
        refine lv_iconst (v := 0) hx hb dX6_isTerm_23 (by decide) ?_
        have hI_7 : (0 : Int) ≤ (k1 : Int32).toInt := inltI rfl rfl c_1
        have hI_8 : (k1 : Int32).toInt < (6 : Int) := inleI rfl rfl c_3
        have hI_9 : (k2 : Int32).toInt < (0 : Int) := iltI rfl rfl c_6
        rw [hQ]
        exact W.zret (v := 0) hx hb hr rfl (fun t ht hW9 => ⟨⟨0, (), rfl, (Or.inr ⟨rfl, by omega⟩), ⟨by rw [ht]; exact hP, hD⟩⟩, hS.F ht⟩) hS.2.2 dX6_isTerm_24
      · have hz := rfl (a := 0)
        refine lv_iload_n hx hb dX6_isTerm_14 rfl (lv_at hl 1 rfl) ?_
        refine lv_iconst (v := 4) hx hb dX6_isTerm_15 (by decide) ?_
        refine lv_icmp_ge (tgt := 23) hx hb dX6_isTerm_16 (by decide) (fun c_10 => ?_) (fun c_10 => ?_)
        · have hz := rfl (a := 0)
          refine lv_iconst (v := 0) hx hb dX6_isTerm_23 (by decide) ?_
          have hI_11 : (0 : Int) ≤ (k1 : Int32).toInt := inltI rfl rfl c_1
          have hI_12 : (k1 : Int32).toInt < (6 : Int) := inleI rfl rfl c_3
          have hI_13 : (0 : Int) ≤ (k2 : Int32).toInt := inltI rfl rfl c_6
          have hI_14 : (4 : Int) ≤ (k2 : Int32).toInt := ileI rfl rfl c_10
          rw [hQ]
          exact W.zret (v := 0) hx hb hr rfl (fun t ht hW9 => ⟨⟨0, (), rfl, (Or.inr ⟨rfl, by omega⟩), ⟨by rw [ht]; exact hP, hD⟩⟩, hS.F ht⟩) hS.2.2 dX6_isTerm_24
        · have hz := rfl (a := 0)
          refine lv_iconst (v := 1) hx hb dX6_isTerm_19 (by decide) ?_
          refine lv_goto (tgt := 24) hx hb dX6_isTerm_20 (by decide) ?_
          have hI_15 : (0 : Int) ≤ (k1 : Int32).toInt := inltI rfl rfl c_1
          have hI_16 : (k1 : Int32).toInt < (6 : Int) := inleI rfl rfl c_3
          have hI_17 : (0 : Int) ≤ (k2 : Int32).toInt := inltI rfl rfl c_6
          have hI_18 : (k2 : Int32).toInt < (4 : Int) := inleI rfl rfl c_10
          rw [hQ]
          exact W.zret (v := 1) hx hb hr rfl (fun t ht hW9 => ⟨⟨1, (), rfl, (Or.inl ⟨rfl, by omega, c_1, c_3, c_6, c_10⟩), ⟨by rw [ht]; exact hP, hD⟩⟩, hS.F ht⟩) hS.2.2 dX6_isTerm_24
set_option maxHeartbeats 4000000 in
set_option maxRecDepth 100000 in
theorem e_replace (l : Launch) (D : va_G) (cy : Nat → ClassId) (K : Kp) (L : List Nat) (M : Hp) (sz : Nat) (oa : Nat) (k1 : Int32) (k2 : Int32) (k3 : Int32) (Bo : Nat → Nat × Nat) (Mb : Hp) (ha : Nat) (Xv : Nat → Int) (Yv : Nat → Nat → Int32) (di : Nat) (y0 : Int32) (y1 : Int32) (y2 : Nat) (hW : WOK cy K L M) (ia : isk K L oa 6 0) (iH : isk K L ha 2 0) (hV : VC Bo K L Mb M ha Xv Yv) (hs : RFc (M (rA 2 M ha 10)) di = some oa) (hdi : di < 16) (hw : (k2.toInt = 4 ∨ (0 ≤ k1.toInt ∧ k1.toInt < 6 ∧ 0 ≤ k2.toInt ∧ k2.toInt < 4))) (hMy : M oa = (b6_13 y0 y1 y2)) (hy2 : isk K L y2 54 24) : Met l yX6_replace (wsM yX6_replace cX6_replace 5 (some .int)) ({ frames := 1, cells := 0, slots := 0, locals := 21 }) (va_Pc [.ref oa, .int k1, .int k2, .int k3] (PG D cy [] L M sz)) (va_Qi (fun (r : Int32) (M9 : Hp) => WOK cy K L M9 ∧ fr K L [6, 54] M M9 ∧ fT 6 K L [1] M M9 ∧ (VC Bo K L Mb M9 ha Xv (if k2.toInt = 4 then va_up Yv 35 (upd (Yv 35) di k3) else va_up Yv 36 (upd (Yv 36) (24 * di + (6 * k2.toNatClampNeg + k1.toNatClampNeg)) k3))) ∧ ((r = (if k2.toInt = 4 then Yv 35 di else Yv 36 (24 * di + (6 * k2.toNatClampNeg + k1.toNatClampNeg)))))) (fun M9 t => PQ D [] L M9 (va_A ([] ++ va_pl L M) sz) t) (va_A ([] ++ va_pl L M) sz)) 0 0 (va_A ([] ++ va_pl L M) sz) := by
  refine Met.ofW (cc := cX6_replace) (maxL := 5) (ret := (some .int)) (by decide) rfl ?_
  intro p e s m args below meth c s₁ B hml hv
  obtain ⟨rfl, hsz, hP, hK, hD0, hN⟩ := hv
  have hx := B.exec
  have hb := B.bytes
  have hr := B.returns
  have hts := atoms_spec (ws := (wsM yX6_replace cX6_replace 5 (some .int))) B.pre
  have hg : ∀ w ∈ lw_good, w.before _ s = true := fun w h => hts w (List.mem_cons_of_mem _ h)
  have hown : s.vm.findClass RX6 = some m.cls := findClass_of_methodNamed B.named
  have hlocks := B.notSynchronized
  subst hsz
  have hD := hD0.self (sz := s.heap.size)
  generalize hAe : va_A ([] ++ va_pl L M) s.heap.size = A at hD ⊢
  have hA : ∀ q : Nat, s.heap.size ≤ q → A q := fun q h => by rw [← hAe]; exact Or.inr h
  have hS : va_S A s.heap s.heap [] := va_S.rf
  have hl := lv_entry ([.ref oa, .int k1, .int k2, .int k3]) (n := 5) (Nat.le_of_ble_eq_true rfl)
  rw [lg_entry_eq]
  generalize (lg_sl ([.ref oa, .int k1, .int k2, .int k3]) ++ List.replicate (5 - (lg_sl ([.ref oa, .int k1, .int k2, .int k3])).length) Slot.unset).toArray = ls at hl ⊢
  refine W.nameQ (fun Q hQ => ?_)
  refine W.nameR (fun R hR => ?_)
  have hRf : 1 ≤ R.frames := by rw [hR]; exact Nat.le_of_ble_eq_true rfl
  have hRl : 21 ≤ R.locals := by rw [hR]; exact Nat.le_of_ble_eq_true rfl
  have hRc : 0 ≤ R.cells := by rw [hR]; exact Nat.le_of_ble_eq_true rfl
  have hRs : 0 ≤ R.slots := by rw [hR]; exact Nat.le_of_ble_eq_true rfl
  have hF : fr K L [6, 54] M M := fr.rf
  have hT6 : fT 6 K L [1] M M := fT.rf
  have hl : lv_has ls 5 [(0, .ref oa), (1, .int k1), (2, .int k2), (3, .int k3)] := hl
  have hL := lk_ru hs hdi
  rw [congrFun hV.2.2.1 35, congrFun hV.2.2.1 36] at hL
  have hA_1 : (cV 6 M oa 0).toInt = (y0 : Int32).toInt := by rw [cV_of hMy rfl]
  have hA_2 : (cV 6 M oa 1).toInt = (y1 : Int32).toInt := by rw [cV_of hMy rfl]
  obtain ⟨f3, hM3⟩ := hW.open_54 hy2
  have hMy2 := hM3
  refine lv_aload_n hx hb dX6_replace_0 rfl (lv_at hl 0 rfl) ?_
  refine pg_get (D := D) (ci := 6) (v := .int y1) (C := RX6) (T := TX6) (N := 3) hx hb hg inG6 hown hK hP ia.1 hMy rfl 1 (by decide) (hg _ wd_92) (fun _ h9 => h9) rfl dX6_replace_1 ?_
  refine lv_istore (lv' := [(4, .int y1), (0, .ref oa), (1, .int k1), (2, .int k2), (3, .int k3)]) hx hb dX6_replace_4 hl (by decide) rfl (fun ls hl => ?_)
  refine lv_iload_n hx hb dX6_replace_6 rfl (lv_at hl 3 rfl) ?_
  refine lv_iconst (v := 4) hx hb dX6_replace_7 (by decide) ?_
  refine lv_icmp_ne (tgt := 19) hx hb dX6_replace_8 (by decide) (fun c_4 => ?_) (fun c_4 => ?_)
  · have hz := rfl (a := 0)
    refine lv_iload_n hx hb dX6_replace_19 rfl (lv_at hl 2 rfl) ?_
    refine lv_iload_n hx hb dX6_replace_20 rfl (lv_at hl 3 rfl) ?_
    have hPc : va_P D vwCl ([] ++ va_pl L M) s.heap := hP
    have hDc : va_D A ([] ++ va_pl L M) := hD
    have hFc : ∀ q, va_A ([] ++ va_pl L M) s.heap.size q → A q := pg_free hDc hS hA
    refine va_calli (va_runS (As := [.int k1, .int k2]) (rest := []) ⟨hx, hb, hml, hown, hg⟩ (e_isTerm l D cy K L M s.heap.size k1 k2  hW ) (va_cwS 2 hg (gS wd_128 wd_129 wd_97 wd_130) rfl rfl rfl (by decide +kernel) ⟨(Nat.le_trans (Nat.le_of_ble_eq_true rfl) hRf), (Nat.le_trans (Nat.le_of_ble_eq_true rfl) hRl)⟩) ⟨PG.blind, fun U hU hW => ⟨rfl, PG.at hPc hK hDc hN hU hW⟩⟩ rfl rfl hl.1 rfl (lv_room (Nat.le_of_ble_eq_true rfl)) dX6_replace_21 ⟨(Nat.le_trans (Nat.le_of_ble_eq_true rfl) hRc), (Nat.le_trans (Nat.le_of_ble_eq_true rfl) hRs)⟩) hS (fun q _ h => hFc q h) hFc (fun r_6 M_7 t H_5 locs ht hvm hw hB hz1 hk1 hS => ?_)
    have hp_8 := hw
    obtain ⟨hP1, hD1⟩ := hB
    rw [ht] at hP1
    have hP : va_P D vwCl ([] ++ va_pl L M) H_5 := hP1
    have hD : va_D A ([] ++ va_pl L M) := hD1.mono hFc
    rcases hp_8 with ⟨rfl, c_9, c_10, c_11, c_12, c_13⟩ | ⟨rfl, c_14⟩
    · have hz := rfl (a := 0)
      refine lv_if_eq (tgt := 52) hx hb dX6_replace_24 (by decide) (fun c_15 => absurd c_15 (by decide)) (fun _ => ?_)
      refine lv_aload_n hx hb dX6_replace_27 rfl (lv_at hl 1 rfl) ?_
      refine pg_get (D := D) (ci := 6) (v := .ref y2) (C := RX6) (T := TX6) (N := 3) hx hb hg inG6 hown hK hP ia.1 hMy rfl 2 (by decide) (hg _ wd_93) (fun _ h9 => h9) rfl dX6_replace_28 ?_
      refine lv_iload_n hx hb dX6_replace_31 rfl (lv_at hl 3 rfl) ?_
      refine lv_bipush (v := 6) hx hb dX6_replace_32 (by decide) ?_
      obtain ⟨j_16, hj_17, rfl⟩ := i32nat 4 (by decide) c_12 c_13
      refine lv_imul hx hb dX6_replace_34 ?_
      refine lv_topi (fun f_18 ef_18 => ?_)
      obtain rfl : f_18 = (nI (j_16 * 6)) := ef_18.trans (nI_mul j_16 6)
      refine lv_iload_n hx hb dX6_replace_35 rfl (lv_at hl 2 rfl) ?_
      obtain ⟨j_19, hj_20, rfl⟩ := i32nat 6 (by decide) c_10 c_11
      refine lv_iadd hx hb dX6_replace_36 ?_
      refine lv_topi (fun f_21 ef_21 => ?_)
      obtain rfl : f_21 = (nI ((j_16 * 6) + j_19)) := ef_21.trans (nI_add (j_16 * 6) j_19)
      refine pg_iald hx hb hK hP hy2.1 0 hM3 rfl (inbN ((j_16 * 6) + j_19) 24 (by omega) (by omega)) dX6_replace_37 ?_
      refine lv_topi (fun f_22 ef_22 => ?_)
      refine lv_istore (lv' := [(4, .int f_22), (0, .ref oa), (1, .int (nI j_19)), (2, .int (nI j_16)), (3, .int k3)]) hx hb dX6_replace_38 hl (by decide) rfl (fun ls hl => ?_)
      refine lv_aload_n hx hb dX6_replace_40 rfl (lv_at hl 1 rfl) ?_
      refine pg_get (D := D) (ci := 6) (v := .ref y2) (C := RX6) (T := TX6) (N := 3) hx hb hg inG6 hown hK hP ia.1 hMy rfl 2 (by decide) (hg _ wd_93) (fun _ h9 => h9) rfl dX6_replace_41 ?_
      refine lv_iload_n hx hb dX6_replace_44 rfl (lv_at hl 3 rfl) ?_
      refine lv_bipush (v := 6) hx hb dX6_replace_45 (by decide) ?_
      refine lv_imul hx hb dX6_replace_47 ?_
      refine lv_topi (fun f_23 ef_23 => ?_)
      obtain rfl : f_23 = (nI (j_16 * 6)) := ef_23.trans (nI_mul j_16 6)
      refine lv_iload_n hx hb dX6_replace_48 rfl (lv_at hl 2 rfl) ?_
      refine lv_iadd hx hb dX6_replace_49 ?_
      refine lv_topi (fun f_24 ef_24 => ?_)
      obtain rfl : f_24 = (nI ((j_16 * 6) + j_19)) := ef_24.trans (nI_add (j_16 * 6) j_19)
      refine lv_iload_n hx hb dX6_replace_50 rfl (lv_at hl 4 rfl) ?_
      refine pg_iast hx hb hK hP hD hS hy2.1 0 hM3 rfl (inbN ((j_16 * 6) + j_19) 24 (by omega) (by omega)) dX6_replace_51 (fun H_25 locs hP hD hS => ?_)
      obtain ⟨M_26, eM_26⟩ : ∃ M1 : Hp, M1 = va_up M y2 (.inl (cy 14, 24, .inl (upd f3 ((nI ((j_16 * 6) + j_19)) : Int32).toNatClampNeg k3))) := ⟨_, rfl⟩
      have sM_26 : M_26 = sA M y2 ((nI ((j_16 * 6) + j_19)) : Int32).toNatClampNeg k3 := eM_26.trans (sA_of hM3)
      have hV : VC Bo K L Mb M_26 ha Xv (va_up Yv 36 (upd (Yv 36) (24 * di + ((nI ((j_16 * 6) + j_19)) : Int32).toNatClampNeg) k3)) := by rw [sM_26]; exact VC.a_tm hV hW iH hdi (vp_lt (inbN ((j_16 * 6) + j_19) 24 (by omega) (by omega))) hs (rA_of (j := 2) hMy rfl) hM3
      have hs_27 : RFc (M_26 (rA 2 M_26 ha 10)) di = some oa := by rw [sM_26, rA_c (cVt_sA _ _ _ _ _ _ _), RFc_sA]; exact hs
      have hP : va_P D vwCl ([] ++ va_pl L M_26) H_25 := by rw [eM_26]; exact hP
      have hD : va_D A ([] ++ va_pl L M_26) := by rw [eM_26]; exact hD
      have hW : WOK cy K L M_26 := by rw [eM_26]; exact hW.up_54 hy2 ⟨_, rfl⟩
      have hF : fr K L [6, 54] M M_26 := by rw [eM_26]; exact hF.up hy2 (by decide)
      have hT6 : fT 6 K L [1] M M_26 := by rw [eM_26]; exact hT6.ne hy2 (by decide)
      have hM_28 : M_26 y2 = .inl (cy 14, 24, .inl (upd f3 ((nI ((j_16 * 6) + j_19)) : Int32).toNatClampNeg k3)) := by rw [eM_26]; exact va_up_self _ _ _
      have hM_29 : M_26 oa = (b6_13 y0 y1 y2) := by rw [eM_26, va_up_ne _ _ (ia.neT hy2 (by decide))]; exact hMy
      obtain ⟨f_30, ef_30⟩ : ∃ f : Nat → Int32, f = upd f3 ((nI ((j_16 * 6) + j_19)) : Int32).toNatClampNeg k3 := ⟨_, rfl⟩
      rw [← ef_30] at hM_28
      clear ef_30
      refine lv_iload hx hb dX6_replace_52 (lv_at hl 0 rfl) ?_
      have hI_31 : ((j_16 : Nat) : Int) ≠ (4 : Int) := ineI (nI_toInt (by omega)) rfl c_4
      have hI_32 : (0 : Int) ≤ ((j_19 : Nat) : Int) := inltI (nI_toInt (by omega)) rfl c_10
      have hI_33 : ((j_19 : Nat) : Int) < (6 : Int) := inleI rfl (nI_toInt (by omega)) c_11
      have hI_34 : (0 : Int) ≤ ((j_16 : Nat) : Int) := inltI (nI_toInt (by omega)) rfl c_12
      have hI_35 : ((j_16 : Nat) : Int) < (4 : Int) := inleI rfl (nI_toInt (by omega)) c_13
      rw [hQ]
      exact W.iret (v := f_22) hx hb hr (fun t ht hW9 => ⟨⟨f_22, M_26, rfl, ⟨hW, hF, hT6, (hV.cg rfl (by rw [if_neg (show ¬ ((nI j_16) : Int32).toInt = 4 by rw [nI_toInt (by omega)]; omega), nI_cl (t := j_16) (by omega), nI_cl (t := j_19) (by omega), nI_cl (by omega), show 6 * j_16 + j_19 = j_16 * 6 + j_19 by omega])), (by rw [if_neg (show ¬ ((nI j_16) : Int32).toInt = 4 by rw [nI_toInt (by omega)]; omega), nI_cl (t := j_16) (by omega), nI_cl (t := j_19) (by omega), show 6 * j_16 + j_19 = j_16 * 6 + j_19 by omega, hL.2.2 _ (by omega), rA_of (j := 2) hMy rfl, IFc_of hMy2, ef_22, nI_cl (by omega)])⟩, ⟨by rw [ht]; exact hP, hD⟩⟩, hS.F ht⟩) hS.2.2 dX6_replace_54
    · have hz := rfl (a := 0)
      refine lv_if_eq (tgt := 52) hx hb dX6_replace_24 (by decide) (fun _ => ?_) (fun c_36 => absurd c_36 (by decide))
      refine lv_iload hx hb dX6_replace_52 (lv_at hl 0 rfl) ?_
      have hI_37 : (k2 : Int32).toInt ≠ (4 : Int) := ineI rfl rfl c_4
      rw [hQ]
      exact W.iret (v := y1) hx hb hr (fun t ht hW9 => ⟨⟨y1, M, rfl, ⟨hW, hF, hT6, (by exfalso; omega), (by exfalso; omega)⟩, ⟨by rw [ht]; exact hP, hD⟩⟩, hS.F ht⟩) hS.2.2 dX6_replace_54
  · have hz := rfl (a := 0)
    refine lv_aload_n hx hb dX6_replace_11 rfl (lv_at hl 1 rfl) ?_
    refine lv_iload_n hx hb dX6_replace_12 rfl (lv_at hl 4 rfl) ?_
    refine pg_put (D := D) (ci := 6) (v := .int k3) (ty := .int) (C := RX6) (T := TX6) (N := 3) hx hb hg inG6 tyX6 tyX6_ok nmX6 hown hK hP hD hS ia.1 hMy rfl 1 (by decide) (hg _ wd_92) (fun _ h9 => h9) rfl (by decide +kernel) rfl rfl (Nat.le_of_ble_eq_true rfl) dX6_replace_13 (fun H_38 locs hP hD hS => ?_)
    obtain ⟨M_39, eM_39⟩ : ∃ M1 : Hp, M1 = va_up M oa ((b6_13 y0 k3 y2)) := ⟨_, rfl⟩
    have sM_39 : M_39 = sF M oa 1 (.int k3) := eM_39.trans (sF_of (j := 1) (v := .int k3) hMy rfl)
    have hV : VC Bo K L Mb M_39 ha Xv (va_up Yv 35 (upd (Yv 35) di k3)) := by rw [sM_39]; exact VC.s6_1 hV hW iH hdi hs hMy (Nat.le_of_ble_eq_true rfl)
    have hs_40 : RFc (M_39 (rA 2 M_39 ha 10)) di = some oa := by rw [sM_39, rA_c (cVt_sF hMy 2 _ 10 (Or.inl (by decide))), RFc_sF]; exact hs
    have hP : va_P D vwCl ([] ++ va_pl L M_39) H_38 := by rw [eM_39]; exact hP
    have hD : va_D A ([] ++ va_pl L M_39) := by rw [eM_39]; exact hD
    have hW : WOK cy K L M_39 := by rw [eM_39]; exact hW.up_6 ia ⟨y0, k3, y2, rfl, hy2⟩
    have hF : fr K L [6, 54] M M_39 := by rw [eM_39]; exact hF.up ia (by decide)
    have hT6 : fT 6 K L [1] M M_39 := by rw [eM_39]; exact hT6.up (i := 1) hMy rfl (by decide)
    have hM_41 : M_39 oa = (b6_13 y0 k3 y2) := by rw [eM_39]; exact va_up_self _ _ _
    have hM_42 : M_39 y2 = .inl (cy 14, 24, .inl (f3)) := by rw [eM_39, va_up_ne _ _ (hy2.neT ia (by decide))]; exact hM3
    refine lv_goto (tgt := 52) hx hb dX6_replace_16 (by decide) ?_
    refine lv_iload hx hb dX6_replace_52 (lv_at hl 0 rfl) ?_
    have hI_43 : (k2 : Int32).toInt = (4 : Int) := ieqI rfl rfl c_4
    rw [hQ]
    exact W.iret (v := y1) hx hb hr (fun t ht hW9 => ⟨⟨y1, M_39, rfl, ⟨hW, hF, hT6, (hV.cg rfl (by rw [if_pos (show (k2 : Int32).toInt = 4 by omega)])), (by rw [if_pos (show (k2 : Int32).toInt = 4 by omega), hL.2.1]; exact (cV_of hMy rfl).symm)⟩, ⟨by rw [ht]; exact hP, hD⟩⟩, hS.F ht⟩) hS.2.2 dX6_replace_54
set_option maxHeartbeats 4000000 in
set_option maxRecDepth 100000 in
theorem e_take (l : Launch) (D : va_G) (cy : Nat → ClassId) (K : Kp) (L : List Nat) (M : Hp) (sz : Nat) (oa : Nat) (Bo : Nat → Nat × Nat) (Mb : Hp) (ha : Nat) (Xv : Nat → Int) (Yv : Nat → Nat → Int32) (y0 : Nat) (y1 : Int32) (y2 : Int32) (hW : WOK cy K L M) (ia : isk K L oa 10 0) (iH : isk K L ha 2 0) (hV : VC Bo K L Mb M ha Xv Yv) (hs : rA 2 M ha 18 = oa) (hc : (1 ≤ Xv 16 ∧ Xv 16 ≤ 60)) (hn : (1 ≤ Xv 19 ∧ Xv 19 ≤ 1000000)) (hMy : M oa = (b10_15 y0 y1 y2)) (hy0 : isk K L y0 55 60) : Met l yX10_takeLatest (wsM yX10_takeLatest cX10_takeLatest 1 (some .int)) ({ frames := 1, cells := 0, slots := 0, locals := 22 }) (va_Pc [.ref oa] (PG D cy [] L M sz)) (va_Qi (fun (r : Int32) (M9 : Hp) => WOK cy K L M9 ∧ fr K L [10] M M9 ∧ fT 10 K L [1, 2] M M9 ∧ (VC Bo K L Mb M9 ha (va_up (va_up Xv 19 (Xv 19 - 1)) 16 (Xv 16 - 1)) Yv) ∧ ((r = (Yv 43 ((Xv 19 - 1).toNat % 60))))) (fun M9 t => PQ D [] L M9 (va_A ([] ++ va_pl L M) sz) t) (va_A ([] ++ va_pl L M) sz)) 0 0 (va_A ([] ++ va_pl L M) sz) := by
  refine Met.ofW (cc := cX10_takeLatest) (maxL := 1) (ret := (some .int)) (by decide) rfl ?_
  intro p e s m args below meth c s₁ B hml hv
  obtain ⟨rfl, hsz, hP, hK, hD0, hN⟩ := hv
  have hx := B.exec
  have hb := B.bytes
  have hr := B.returns
  have hts := atoms_spec (ws := (wsM yX10_takeLatest cX10_takeLatest 1 (some .int))) B.pre
  have hg : ∀ w ∈ lw_good, w.before _ s = true := fun w h => hts w (List.mem_cons_of_mem _ h)
  have hown : s.vm.findClass RX10 = some m.cls := findClass_of_methodNamed B.named
  have hlocks := B.notSynchronized
  subst hsz
  have hD := hD0.self (sz := s.heap.size)
  generalize hAe : va_A ([] ++ va_pl L M) s.heap.size = A at hD ⊢
  have hA : ∀ q : Nat, s.heap.size ≤ q → A q := fun q h => by rw [← hAe]; exact Or.inr h
  have hS : va_S A s.heap s.heap [] := va_S.rf
  have hl := lv_entry ([.ref oa]) (n := 1) (Nat.le_of_ble_eq_true rfl)
  rw [lg_entry_eq]
  generalize (lg_sl ([.ref oa]) ++ List.replicate (1 - (lg_sl ([.ref oa])).length) Slot.unset).toArray = ls at hl ⊢
  refine W.nameQ (fun Q hQ => ?_)
  refine W.nameR (fun R hR => ?_)
  have hRf : 1 ≤ R.frames := by rw [hR]; exact Nat.le_of_ble_eq_true rfl
  have hRl : 22 ≤ R.locals := by rw [hR]; exact Nat.le_of_ble_eq_true rfl
  have hRc : 0 ≤ R.cells := by rw [hR]; exact Nat.le_of_ble_eq_true rfl
  have hRs : 0 ≤ R.slots := by rw [hR]; exact Nat.le_of_ble_eq_true rfl
  have hF : fr K L [10] M M := fr.rf
  have hT10 : fT 10 K L [1, 2] M M := fT.rf
  have hl : lv_has ls 1 [(0, .ref oa)] := hl
  have hX16 : (cV 10 M oa 2).toInt = Xv 16 := by rw [← hs]; exact congrFun hV.2.1 16
  have hX19 : (cV 10 M oa 1).toInt = Xv 19 := by rw [← hs]; exact congrFun hV.2.1 19
  have hY43 : IFc (M (rA 10 M oa 0)) = Yv 43 := by rw [← hs]; exact congrFun hV.2.2.1 43
  have hA_1 : (cV 10 M oa 1).toInt = (y1 : Int32).toInt := by rw [cV_of hMy rfl]
  have hA_2 : (cV 10 M oa 2).toInt = (y2 : Int32).toInt := by rw [cV_of hMy rfl]
  obtain ⟨f3, hM3⟩ := hW.open_55 hy0
  have hMy0 := hM3
  refine lv_aload_n hx hb dX10_takeLatest_0 rfl (lv_at hl 0 rfl) ?_
  refine lv_dup hx hb dX10_takeLatest_1 rfl ?_
  refine pg_get (D := D) (ci := 10) (v := .int y1) (C := RX10) (T := TX10) (N := 3) hx hb hg inG10 hown hK hP ia.1 hMy rfl 1 (by decide) (hg _ wd_104) (fun _ h9 => h9) rfl dX10_takeLatest_2 ?_
  refine lv_iconst (v := 1) hx hb dX10_takeLatest_5 (by decide) ?_
  refine lv_isub hx hb dX10_takeLatest_6 ?_
  refine lv_topi (fun f_4 ef_4 => ?_)
  refine pg_put (D := D) (ci := 10) (v := .int f_4) (ty := .int) (C := RX10) (T := TX10) (N := 3) hx hb hg inG10 tyX10 tyX10_ok nmX10 hown hK hP hD hS ia.1 hMy rfl 1 (by decide) (hg _ wd_104) (fun _ h9 => h9) rfl (by decide +kernel) rfl rfl (Nat.le_of_ble_eq_true rfl) dX10_takeLatest_7 (fun H_5 locs hP hD hS => ?_)
  obtain ⟨M_6, eM_6⟩ : ∃ M1 : Hp, M1 = va_up M oa ((b10_15 y0 f_4 y2)) := ⟨_, rfl⟩
  have sM_6 : M_6 = sF M oa 1 (.int f_4) := eM_6.trans (sF_of (j := 1) (v := .int f_4) hMy rfl)
  have hV : VC Bo K L Mb M_6 ha (va_up Xv 19 (f_4 : Int32).toInt) Yv := by rw [sM_6]; have h9 := VC.u1 (v := f_4) hV hW iH hs hMy (Nat.le_of_ble_eq_true rfl); rw [show (f_4 : Int32).toInt = (f_4 : Int32).toInt from rfl] at h9; exact h9
  have hs_7 : rA 2 M_6 ha 18 = oa := by rw [sM_6, rA_c (cVt_sF hMy 2 _ 18 (Or.inl (by decide)))]; exact hs
  have hP : va_P D vwCl ([] ++ va_pl L M_6) H_5 := by rw [eM_6]; exact hP
  have hD : va_D A ([] ++ va_pl L M_6) := by rw [eM_6]; exact hD
  have hW : WOK cy K L M_6 := by rw [eM_6]; exact hW.up_10 ia ⟨y0, f_4, y2, rfl, hy0⟩
  have hF : fr K L [10] M M_6 := by rw [eM_6]; exact hF.up ia (by decide)
  have hT10 : fT 10 K L [1, 2] M M_6 := by rw [eM_6]; exact hT10.up (i := 1) hMy rfl (by decide)
  have hM_8 : M_6 oa = (b10_15 y0 f_4 y2) := by rw [eM_6]; exact va_up_self _ _ _
  have hM_9 : M_6 y0 = .inl (cy 14, 60, .inl (f3)) := by rw [eM_6, va_up_ne _ _ (hy0.neT ia (by decide))]; exact hM3
  refine lv_aload_n hx hb dX10_takeLatest_10 rfl (lv_at hl 0 rfl) ?_
  refine lv_iconst (v := 0) hx hb dX10_takeLatest_11 (by decide) ?_
  refine lv_aload_n hx hb dX10_takeLatest_12 rfl (lv_at hl 0 rfl) ?_
  refine pg_get (D := D) (ci := 10) (v := .int y2) (C := RX10) (T := TX10) (N := 3) hx hb hg inG10 hown hK hP ia.1 hM_8 rfl 2 (by decide) (hg _ wd_105) (fun _ h9 => h9) rfl dX10_takeLatest_13 ?_
  refine lv_iconst (v := 1) hx hb dX10_takeLatest_16 (by decide) ?_
  refine lv_isub hx hb dX10_takeLatest_17 ?_
  refine lv_topi (fun f_10 ef_10 => ?_)
  refine va_mmax hx hb (by rw [hml]; exact hl.1.symm) hown (hg _ wd_116) (hg _ wd_100) (hg _ wd_12) (hg _ wd_101) (Nat.le_trans (Nat.le_of_ble_eq_true rfl) hRf) (Nat.le_trans (Nat.le_of_ble_eq_true rfl) hRl) (Nat.le_trans (Nat.le_of_ble_eq_true rfl) hRc) (Nat.le_trans (Nat.le_of_ble_eq_true rfl) hRs) dX10_takeLatest_18 ?_
  refine lv_topi (fun f_11 ef_11 => ?_)
  obtain ⟨j_12, hj_13, hxj_12, rfl⟩ := max0x ef_11
  refine pg_put (D := D) (ci := 10) (v := .int (nI j_12)) (ty := .int) (C := RX10) (T := TX10) (N := 3) hx hb hg inG10 tyX10 tyX10_ok nmX10 hown hK hP hD hS ia.1 hM_8 rfl 2 (by decide) (hg _ wd_105) (fun _ h9 => h9) rfl (by decide +kernel) rfl rfl (Nat.le_of_ble_eq_true rfl) dX10_takeLatest_21 (fun H_14 locs hP hD hS => ?_)
  obtain ⟨M_15, eM_15⟩ : ∃ M1 : Hp, M1 = va_up M_6 oa ((b10_15 y0 f_4 (nI j_12))) := ⟨_, rfl⟩
  have sM_15 : M_15 = sF M_6 oa 2 (.int (nI j_12)) := eM_15.trans (sF_of (j := 2) (v := .int (nI j_12)) hM_8 rfl)
  have hV : VC Bo K L Mb M_15 ha (va_up (va_up Xv 19 (f_4 : Int32).toInt) 16 ((j_12 : Nat) : Int)) Yv := by rw [sM_15]; have h9 := VC.u2 (v := (nI j_12)) hV hW iH hs_7 hM_8 (Nat.le_of_ble_eq_true rfl); rw [show ((nI j_12) : Int32).toInt = ((j_12 : Nat) : Int) from (nI_toInt (by omega))] at h9; exact h9
  have hs_16 : rA 2 M_15 ha 18 = oa := by rw [sM_15, rA_c (cVt_sF hM_8 2 _ 18 (Or.inl (by decide)))]; exact hs_7
  have hP : va_P D vwCl ([] ++ va_pl L M_15) H_14 := by rw [eM_15]; exact hP
  have hD : va_D A ([] ++ va_pl L M_15) := by rw [eM_15]; exact hD
  have hW : WOK cy K L M_15 := by rw [eM_15]; exact hW.up_10 ia ⟨y0, f_4, (nI j_12), rfl, hy0⟩
  have hF : fr K L [10] M M_15 := by rw [eM_15]; exact hF.up ia (by decide)
  have hT10 : fT 10 K L [1, 2] M M_15 := by rw [eM_15]; exact hT10.up (i := 2) hM_8 rfl (by decide)
  have hM_17 : M_15 oa = (b10_15 y0 f_4 (nI j_12)) := by rw [eM_15]; exact va_up_self _ _ _
  have hM_18 : M_15 y0 = .inl (cy 14, 60, .inl (f3)) := by rw [eM_15, va_up_ne _ _ (hy0.neT ia (by decide))]; exact hM_9
  refine lv_aload_n hx hb dX10_takeLatest_24 rfl (lv_at hl 0 rfl) ?_
  refine pg_get (D := D) (ci := 10) (v := .ref y0) (C := RX10) (T := TX10) (N := 3) hx hb hg inG10 hown hK hP ia.1 hM_17 rfl 0 (by decide) (hg _ wd_106) (fun _ h9 => h9) rfl dX10_takeLatest_25 ?_
  refine lv_aload_n hx hb dX10_takeLatest_28 rfl (lv_at hl 0 rfl) ?_
  refine pg_get (D := D) (ci := 10) (v := .int f_4) (C := RX10) (T := TX10) (N := 3) hx hb hg inG10 hown hK hP ia.1 hM_17 rfl 1 (by decide) (hg _ wd_104) (fun _ h9 => h9) rfl dX10_takeLatest_29 ?_
  refine lv_bipush (v := 60) hx hb dX10_takeLatest_32 (by decide) ?_
  have hPc : va_P D vwCl ([] ++ va_pl L M_15) H_14 := hP
  have hDc : va_D A ([] ++ va_pl L M_15) := hD
  have hFc : ∀ q, va_A ([] ++ va_pl L M_15) H_14.size q → A q := pg_free hDc hS hA
  have hI_19 : (f_4 : Int32).toInt = (y1 : Int32).toInt - (1 : Int) := isubI rfl rfl ef_4 (by omega) (by omega)
  have hI_20 : (f_10 : Int32).toInt = (y2 : Int32).toInt - (1 : Int) := isubI rfl rfl ef_10 (by omega) (by omega)
  refine va_calli (va_runS (As := [.int f_4, .int 60]) (rest := [.ref y0]) ⟨hx, hb, hml, hown, hg⟩ (e_floorMod l D cy K L M_15 H_14.size f_4  hW (by omega)) (va_cwS 2 hg (gS wd_107 wd_108 wd_12 wd_109) rfl rfl rfl (by decide +kernel) ⟨(Nat.le_trans (Nat.le_of_ble_eq_true rfl) hRf), (Nat.le_trans (Nat.le_of_ble_eq_true rfl) hRl)⟩) ⟨PG.blind, fun U hU hW => ⟨rfl, PG.at hPc hK hDc hN hU hW⟩⟩ rfl rfl hl.1 rfl (lv_room (Nat.le_of_ble_eq_true rfl)) dX10_takeLatest_34 ⟨(Nat.le_trans (Nat.le_of_ble_eq_true rfl) hRc), (Nat.le_trans (Nat.le_of_ble_eq_true rfl) hRs)⟩) hS (fun q _ h => hFc q h) hFc (fun r_22 M_23 t H_21 locs ht hvm hw hB hz1 hk1 hS => ?_)
  have hp_24 := hw
  obtain ⟨hP1, hD1⟩ := hB
  rw [ht] at hP1
  have hP : va_P D vwCl ([] ++ va_pl L M_15) H_21 := hP1
  have hD : va_D A ([] ++ va_pl L M_15) := hD1.mono hFc
  obtain rfl := hp_24
  refine pg_iald hx hb hK hP hy0.1 0 hM_18 rfl (inbN (f_4.toInt.toNat % 60) 60 (by omega) (by omega)) dX10_takeLatest_37 ?_
  refine lv_topi (fun f_25 ef_25 => ?_)
  rw [hQ]
  exact W.iret (v := f_25) hx hb hr (fun t ht hW9 => ⟨⟨f_25, M_15, rfl, ⟨hW, hF, hT10, (hV.cg (by rw [show (f_4 : Int32).toInt = Xv 19 - 1 by omega, show ((j_12 : Nat) : Int) = Xv 16 - 1 by omega]) rfl), (by rw [ef_25, nI_cl (by omega), ← hY43, rA_of (j := 0) hMy rfl, IFc_of hMy0]; rw [show (f_4 : Int32).toInt = Xv 19 - 1 by omega])⟩, ⟨by rw [ht]; exact hP, hD⟩⟩, hS.F ht⟩) hS.2.2 dX10_takeLatest_38
set_option maxHeartbeats 4000000 in
set_option maxRecDepth 100000 in
theorem e_app_mo (l : Launch) (D : va_G) (cy : Nat → ClassId) (K : Kp) (L : List Nat) (M : Hp) (sz : Nat) (oa : Nat) (k1 : Nat) (k2 : Int32) (k3 : Int32) (Bo : Nat → Nat × Nat) (Mb : Hp) (ha : Nat) (Xv : Nat → Int) (Yv : Nat → Nat → Int32) (yn : Nat) (y0 : Nat) (y1 : Nat) (y2 : Nat) (y3 : Nat) (hW : WOK cy K L M) (ia : isk K L oa 1 0) (ik1 : isk K L k1 9 0) (iH : isk K L ha 2 0) (hV : VC Bo K L Mb M ha Xv Yv) (hs : rA 2 M ha 16 = oa) (hlt : Xv 14 < 120) (hMy : M oa = (b1_4 y0 y1 y2 (nI y3))) (hy0 : isk K L y0 63 yn) (hy1 : isk K L y1 56 yn) (hy2 : isk K L y2 57 yn) (hy3 : y3 ≤ yn) (hey0 : yn ≤ 120) : Met l yX1_append (wsM yX1_append cX1_append 4 none) ({ frames := 1, cells := 0, slots := 0, locals := 20 }) (va_Pc [.ref oa, .ref k1, .int k2, .int k3] (PG D cy [] L M sz)) (va_Qv (fun (M9 : Hp) => WOK cy K L M9 ∧ fr K L [1, 56, 57, 63] M M9 ∧ fT 1 K L [3] M M9 ∧ (VC Bo K L Mb M9 ha (va_up Xv 14 (Xv 14 + 1)) (va_up (va_up (va_up Yv 38 (upd (Yv 38) (Xv 14).toNat (cV 9 M k1 0))) 39 (upd (Yv 39) (Xv 14).toNat k2)) 40 (upd (Yv 40) (Xv 14).toNat k3))) ∧ (True)) (fun M9 t => PQ D [] L M9 (va_A ([] ++ va_pl L M) sz) t) (va_A ([] ++ va_pl L M) sz)) 0 0 (va_A ([] ++ va_pl L M) sz) := by
  refine Met.ofW (cc := cX1_append) (maxL := 4) (ret := none) (by decide) rfl ?_
  intro p e s m args below meth c s₁ B hml hv
  obtain ⟨rfl, hsz, hP, hK, hD0, hN⟩ := hv
  have hx := B.exec
  have hb := B.bytes
  have hr := B.returns
  have hts := atoms_spec (ws := (wsM yX1_append cX1_append 4 none)) B.pre
  have hg : ∀ w ∈ lw_good, w.before _ s = true := fun w h => hts w (List.mem_cons_of_mem _ h)
  have hown : s.vm.findClass RX1 = some m.cls := findClass_of_methodNamed B.named
  have hlocks := B.notSynchronized
  subst hsz
  have hD := hD0.self (sz := s.heap.size)
  generalize hAe : va_A ([] ++ va_pl L M) s.heap.size = A at hD ⊢
  have hA : ∀ q : Nat, s.heap.size ≤ q → A q := fun q h => by rw [← hAe]; exact Or.inr h
  have hS : va_S A s.heap s.heap [] := va_S.rf
  have hl := lv_entry ([.ref oa, .ref k1, .int k2, .int k3]) (n := 4) (Nat.le_of_ble_eq_true rfl)
  rw [lg_entry_eq]
  generalize (lg_sl ([.ref oa, .ref k1, .int k2, .int k3]) ++ List.replicate (4 - (lg_sl ([.ref oa, .ref k1, .int k2, .int k3])).length) Slot.unset).toArray = ls at hl ⊢
  refine W.nameQ (fun Q hQ => ?_)
  refine W.nameR (fun R hR => ?_)
  have hRf : 1 ≤ R.frames := by rw [hR]; exact Nat.le_of_ble_eq_true rfl
  have hRl : 20 ≤ R.locals := by rw [hR]; exact Nat.le_of_ble_eq_true rfl
  have hRc : 0 ≤ R.cells := by rw [hR]; exact Nat.le_of_ble_eq_true rfl
  have hRs : 0 ≤ R.slots := by rw [hR]; exact Nat.le_of_ble_eq_true rfl
  have hF : fr K L [1, 56, 57, 63] M M := fr.rf
  have hT1 : fT 1 K L [3] M M := fT.rf
  have hl : lv_has ls 4 [(0, .ref oa), (1, .ref k1), (2, .int k2), (3, .int k3)] := hl
  have hX14 : (cV 1 M oa 3).toInt = Xv 14 := by rw [← hs]; exact congrFun hV.2.1 14
  obtain ⟨f1, hM1⟩ := hW.open_56 hy1
  have hA_2 : (ALc (M (rA 1 M oa 1)) : Int) = ((yn : Nat) : Int) := by rw [rA_of hMy rfl, hM1]; rfl
  have hA_3 : (cV 1 M oa 3).toInt = ((y3 : Nat) : Int) := by rw [cV_of hMy rfl]; exact nI_toInt (by omega)
  have hnn : yn = 120 := by have h1 := hV.2.2.2.n16 ha iH; rw [hs, rA_of (j := 0) hMy rfl] at h1; exact congrArg Prod.snd (hy0.2.symm.trans h1.2)
  refine lv_aload_n hx hb dX1_append_0 rfl (lv_at hl 0 rfl) ?_
  have hPc : va_P D vwCl ([] ++ va_pl L M) s.heap := hP
  have hDc : va_D A ([] ++ va_pl L M) := hD
  have hFc : ∀ q, va_A ([] ++ va_pl L M) s.heap.size q → A q := pg_free hDc hS hA
  refine va_calli (va_runV (As := []) (rest := []) ⟨hx, hb, hml, hown, hg⟩ (e_X1_isFull l D cy K L M s.heap.size oa yn y0 y1 y2 y3 hW ia hMy hy0 hy1 hy2 hy3 hey0) (cwV 0 hg (gV wd_120 wd_121 wd_122 wd_123 wd_124) rfl rfl rfl (by decide +kernel) ⟨(Nat.le_trans (Nat.le_of_ble_eq_true rfl) hRf), (Nat.le_trans (Nat.le_of_ble_eq_true rfl) hRl)⟩) ⟨PG.blind, pg_recv hK hP ia.1 hMy rfl, fun U hU hW => ⟨rfl, PG.at hPc hK hDc hN hU hW⟩⟩ rfl rfl hl.1 rfl (lv_room (Nat.le_of_ble_eq_true rfl)) dX1_append_1 ⟨(Nat.le_trans (Nat.le_of_ble_eq_true rfl) hRc), (Nat.le_trans (Nat.le_of_ble_eq_true rfl) hRs)⟩) hS (fun q _ h => hFc q h) hFc (fun r_5 M_6 t H_4 locs ht hvm hw hB hz1 hk1 hS => ?_)
  have hp_7 := hw
  obtain ⟨hP1, hD1⟩ := hB
  rw [ht] at hP1
  have hP : va_P D vwCl ([] ++ va_pl L M) H_4 := hP1
  have hD : va_D A ([] ++ va_pl L M) := hD1.mono hFc
  rcases hp_7 with ⟨rfl, c_8⟩ | ⟨rfl, c_9, c_10⟩
  · have hz := rfl (a := 0)
    refine lv_if_ne (tgt := 47) hx hb dX1_append_4 (by decide) (fun _ => ?_) (fun c_11 => absurd c_11 (by decide))
    rw [hQ]
    exact W.vret hx hb hr (fun t ht hW9 => ⟨⟨M, rfl, ⟨hW, hF, hT1, (by exfalso; omega), trivial⟩, ⟨by rw [ht]; exact hP, hD⟩⟩, hS.F ht⟩) hS.2.2 dX1_append_47
  · have hz := rfl (a := 0)
    refine lv_if_ne (tgt := 47) hx hb dX1_append_4 (by decide) (fun c_12 => absurd c_12 (by decide)) (fun _ => ?_)
    refine lv_aload_n hx hb dX1_append_7 rfl (lv_at hl 0 rfl) ?_
    refine pg_get (D := D) (ci := 1) (v := .ref y0) (C := RX1) (T := TX1) (N := 4) hx hb hg inG1 hown hK hP ia.1 hMy rfl 0 (by decide) (hg _ wd_125) (fun _ h9 => h9) rfl dX1_append_8 ?_
    refine lv_aload_n hx hb dX1_append_11 rfl (lv_at hl 0 rfl) ?_
    refine pg_get (D := D) (ci := 1) (v := .int (nI y3)) (C := RX1) (T := TX1) (N := 4) hx hb hg inG1 hown hK hP ia.1 hMy rfl 3 (by decide) (hg _ wd_118) (fun _ h9 => h9) rfl dX1_append_12 ?_
    refine lv_aload_n hx hb dX1_append_15 rfl (lv_at hl 1 rfl) ?_
    obtain ⟨f13, hM13, hf13⟩ := hW.open_63 hy0
    obtain ⟨v15_0, v15_1, v15_2, v15_3, v15_4, v15_5, v15_6, v15_7, v15_8, v15_9, v15_10, v15_11, v15_12, v15_13, v15_14, v15_15, hM15, h15_0, h15_1, h15_4, h15_8⟩ := hW.open_9 ik1
    refine pg_astq (r := (RX9, TX9, 16)) hx hb hK hP hD hS hy0.1 8 9 hM13 rfl ik1.1 hM15 rfl (inbN y3 yn (by omega) (by omega)) dX1_append_16 (fun H_14 locs hP hD hS => ?_)
    obtain ⟨M_16, eM_16⟩ : ∃ M1 : Hp, M1 = va_up M y0 (.inl (cy 22, yn, .inr (.inr (.inr (.inr (va_up f13 ((nI y3) : Int32).toNatClampNeg (some k1))))))) := ⟨_, rfl⟩
    have sM_16 : M_16 = sR M y0 ((nI y3) : Int32).toNatClampNeg (some k1) := eM_16.trans (sR_of hM13)
    have hV : VC Bo K L Mb M_16 ha Xv (va_up Yv 38 (upd (Yv 38) ((nI y3) : Int32).toNatClampNeg (hrN M (some k1)))) := by rw [sM_16]; exact VC.r_mo hV hW iH (vp_lt (inbN y3 120 (by omega) (by omega))) (by rw [hs]; exact rA_of (j := 0) hMy rfl) hM13
    have hs_17 : rA 2 M_16 ha 16 = oa := by rw [sM_16, rA_c (cVt_sR _ _ _ _ _ _ _)]; exact hs
    have hP : va_P D vwCl ([] ++ va_pl L M_16) H_14 := by rw [eM_16]; exact hP
    have hD : va_D A ([] ++ va_pl L M_16) := by rw [eM_16]; exact hD
    have hW : WOK cy K L M_16 := by rw [eM_16]; exact hW.up_63 hy0 ⟨_, rfl, (upN hf13 ik1)⟩
    have hF : fr K L [1, 56, 57, 63] M M_16 := by rw [eM_16]; exact hF.up hy0 (by decide)
    have hT1 : fT 1 K L [3] M M_16 := by rw [eM_16]; exact hT1.ne hy0 (by decide)
    have hM_18 : M_16 y0 = .inl (cy 22, yn, .inr (.inr (.inr (.inr (va_up f13 ((nI y3) : Int32).toNatClampNeg (some k1)))))) := by rw [eM_16]; exact va_up_self _ _ _
    have hM_19 : M_16 oa = (b1_4 y0 y1 y2 (nI y3)) := by rw [eM_16, va_up_ne _ _ (ia.neT hy0 (by decide))]; exact hMy
    have hM_20 : M_16 y1 = .inl (cy 14, yn, .inl (f1)) := by rw [eM_16, va_up_ne _ _ (hy1.neT hy0 (by decide))]; exact hM1
    have hM_21 : M_16 k1 = (b9_9 (nI v15_0) v15_1 v15_2 v15_3 v15_4 v15_5 v15_6 v15_7 v15_8 v15_9 v15_10 v15_11 v15_12 v15_13 v15_14 v15_15) := by rw [eM_16, va_up_ne _ _ (ik1.neT hy0 (by decide))]; exact hM15
    have hf_23 : ∀ j, j < yn → iskN K L ((va_up f13 ((nI y3) : Int32).toNatClampNeg (some k1)) j) 9 0 := (upN hf13 ik1)
    obtain ⟨f_22, ef_22⟩ : ∃ f : Nat → Option Nat, f = va_up f13 ((nI y3) : Int32).toNatClampNeg (some k1) := ⟨_, rfl⟩
    rw [← ef_22] at hM_18 hf_23
    have hk_24 : f_22 ((nI y3) : Int32).toNatClampNeg = some k1 := by rw [ef_22]; exact va_up_self _ _ _
    clear ef_22
    refine lv_aload_n hx hb dX1_append_17 rfl (lv_at hl 0 rfl) ?_
    refine pg_get (D := D) (ci := 1) (v := .ref y1) (C := RX1) (T := TX1) (N := 4) hx hb hg inG1 hown hK hP ia.1 hM_19 rfl 1 (by decide) (hg _ wd_119) (fun _ h9 => h9) rfl dX1_append_18 ?_
    refine lv_aload_n hx hb dX1_append_21 rfl (lv_at hl 0 rfl) ?_
    refine pg_get (D := D) (ci := 1) (v := .int (nI y3)) (C := RX1) (T := TX1) (N := 4) hx hb hg inG1 hown hK hP ia.1 hM_19 rfl 3 (by decide) (hg _ wd_118) (fun _ h9 => h9) rfl dX1_append_22 ?_
    refine lv_iload_n hx hb dX1_append_25 rfl (lv_at hl 2 rfl) ?_
    refine pg_iast hx hb hK hP hD hS hy1.1 0 hM_20 rfl (inbN y3 yn (by omega) (by omega)) dX1_append_26 (fun H_25 locs hP hD hS => ?_)
    obtain ⟨M_26, eM_26⟩ : ∃ M1 : Hp, M1 = va_up M_16 y1 (.inl (cy 14, yn, .inl (upd f1 ((nI y3) : Int32).toNatClampNeg k2))) := ⟨_, rfl⟩
    have sM_26 : M_26 = sA M_16 y1 ((nI y3) : Int32).toNatClampNeg k2 := eM_26.trans (sA_of hM_20)
    have hV : VC Bo K L Mb M_26 ha Xv (va_up (va_up Yv 38 (upd (Yv 38) ((nI y3) : Int32).toNatClampNeg (hrN M (some k1)))) 39 (upd (Yv 39) ((nI y3) : Int32).toNatClampNeg k2)) := by rw [sM_26]; exact VC.a_d16_1 hV hW iH (by rw [hs_17]; exact rA_of (j := 1) hM_19 rfl) hM_20
    have hs_27 : rA 2 M_26 ha 16 = oa := by rw [sM_26, rA_c (cVt_sA _ _ _ _ _ _ _)]; exact hs_17
    have hP : va_P D vwCl ([] ++ va_pl L M_26) H_25 := by rw [eM_26]; exact hP
    have hD : va_D A ([] ++ va_pl L M_26) := by rw [eM_26]; exact hD
    have hW : WOK cy K L M_26 := by rw [eM_26]; exact hW.up_56 hy1 ⟨_, rfl⟩
    have hF : fr K L [1, 56, 57, 63] M M_26 := by rw [eM_26]; exact hF.up hy1 (by decide)
    have hT1 : fT 1 K L [3] M M_26 := by rw [eM_26]; exact hT1.ne hy1 (by decide)
    have hM_28 : M_26 y1 = .inl (cy 14, yn, .inl (upd f1 ((nI y3) : Int32).toNatClampNeg k2)) := by rw [eM_26]; exact va_up_self _ _ _
    have hM_29 : M_26 y0 = .inl (cy 22, yn, .inr (.inr (.inr (.inr (f_22))))) := by rw [eM_26, va_up_ne _ _ (hy0.neT hy1 (by decide))]; exact hM_18
    have hM_30 : M_26 oa = (b1_4 y0 y1 y2 (nI y3)) := by rw [eM_26, va_up_ne _ _ (ia.neT hy1 (by decide))]; exact hM_19
    have hM_31 : M_26 k1 = (b9_9 (nI v15_0) v15_1 v15_2 v15_3 v15_4 v15_5 v15_6 v15_7 v15_8 v15_9 v15_10 v15_11 v15_12 v15_13 v15_14 v15_15) := by rw [eM_26, va_up_ne _ _ (ik1.neT hy1 (by decide))]; exact hM_21
    obtain ⟨f_32, ef_32⟩ : ∃ f : Nat → Int32, f = upd f1 ((nI y3) : Int32).toNatClampNeg k2 := ⟨_, rfl⟩
    rw [← ef_32] at hM_28
    clear ef_32
    refine lv_aload_n hx hb dX1_append_27 rfl (lv_at hl 0 rfl) ?_
    refine pg_get (D := D) (ci := 1) (v := .ref y2) (C := RX1) (T := TX1) (N := 4) hx hb hg inG1 hown hK hP ia.1 hM_30 rfl 2 (by decide) (hg _ wd_126) (fun _ h9 => h9) rfl dX1_append_28 ?_
    refine lv_aload_n hx hb dX1_append_31 rfl (lv_at hl 0 rfl) ?_
    refine pg_get (D := D) (ci := 1) (v := .int (nI y3)) (C := RX1) (T := TX1) (N := 4) hx hb hg inG1 hown hK hP ia.1 hM_30 rfl 3 (by decide) (hg _ wd_118) (fun _ h9 => h9) rfl dX1_append_32 ?_
    refine lv_iload_n hx hb dX1_append_35 rfl (lv_at hl 3 rfl) ?_
    obtain ⟨f33, hM33⟩ := hW.open_57 hy2
    refine pg_iast hx hb hK hP hD hS hy2.1 0 hM33 rfl (inbN y3 yn (by omega) (by omega)) dX1_append_36 (fun H_34 locs hP hD hS => ?_)
    obtain ⟨M_35, eM_35⟩ : ∃ M1 : Hp, M1 = va_up M_26 y2 (.inl (cy 14, yn, .inl (upd f33 ((nI y3) : Int32).toNatClampNeg k3))) := ⟨_, rfl⟩
    have sM_35 : M_35 = sA M_26 y2 ((nI y3) : Int32).toNatClampNeg k3 := eM_35.trans (sA_of hM33)
    have hV : VC Bo K L Mb M_35 ha Xv (va_up (va_up (va_up Yv 38 (upd (Yv 38) ((nI y3) : Int32).toNatClampNeg (hrN M (some k1)))) 39 (upd (Yv 39) ((nI y3) : Int32).toNatClampNeg k2)) 40 (upd (Yv 40) ((nI y3) : Int32).toNatClampNeg k3)) := by rw [sM_35]; exact VC.a_d16_2 hV hW iH (by rw [hs_27]; exact rA_of (j := 2) hM_30 rfl) hM33
    have hs_36 : rA 2 M_35 ha 16 = oa := by rw [sM_35, rA_c (cVt_sA _ _ _ _ _ _ _)]; exact hs_27
    have hP : va_P D vwCl ([] ++ va_pl L M_35) H_34 := by rw [eM_35]; exact hP
    have hD : va_D A ([] ++ va_pl L M_35) := by rw [eM_35]; exact hD
    have hW : WOK cy K L M_35 := by rw [eM_35]; exact hW.up_57 hy2 ⟨_, rfl⟩
    have hF : fr K L [1, 56, 57, 63] M M_35 := by rw [eM_35]; exact hF.up hy2 (by decide)
    have hT1 : fT 1 K L [3] M M_35 := by rw [eM_35]; exact hT1.ne hy2 (by decide)
    have hM_37 : M_35 y2 = .inl (cy 14, yn, .inl (upd f33 ((nI y3) : Int32).toNatClampNeg k3)) := by rw [eM_35]; exact va_up_self _ _ _
    have hM_38 : M_35 y1 = .inl (cy 14, yn, .inl (f_32)) := by rw [eM_35, va_up_ne _ _ (hy1.neT hy2 (by decide))]; exact hM_28
    have hM_39 : M_35 y0 = .inl (cy 22, yn, .inr (.inr (.inr (.inr (f_22))))) := by rw [eM_35, va_up_ne _ _ (hy0.neT hy2 (by decide))]; exact hM_29
    have hM_40 : M_35 oa = (b1_4 y0 y1 y2 (nI y3)) := by rw [eM_35, va_up_ne _ _ (ia.neT hy2 (by decide))]; exact hM_30
    have hM_41 : M_35 k1 = (b9_9 (nI v15_0) v15_1 v15_2 v15_3 v15_4 v15_5 v15_6 v15_7 v15_8 v15_9 v15_10 v15_11 v15_12 v15_13 v15_14 v15_15) := by rw [eM_35, va_up_ne _ _ (ik1.neT hy2 (by decide))]; exact hM_31
    obtain ⟨f_42, ef_42⟩ : ∃ f : Nat → Int32, f = upd f33 ((nI y3) : Int32).toNatClampNeg k3 := ⟨_, rfl⟩
    rw [← ef_42] at hM_37
    clear ef_42
    refine lv_aload_n hx hb dX1_append_37 rfl (lv_at hl 0 rfl) ?_
    refine lv_dup hx hb dX1_append_38 rfl ?_
    refine pg_get (D := D) (ci := 1) (v := .int (nI y3)) (C := RX1) (T := TX1) (N := 4) hx hb hg inG1 hown hK hP ia.1 hM_40 rfl 3 (by decide) (hg _ wd_118) (fun _ h9 => h9) rfl dX1_append_39 ?_
    refine lv_iconst (v := 1) hx hb dX1_append_42 (by decide) ?_
    refine lv_iadd hx hb dX1_append_43 ?_
    refine lv_topi (fun f_43 ef_43 => ?_)
    obtain rfl : f_43 = (nI (y3 + 1)) := ef_43.trans (nI_add y3 1)
    refine pg_put (D := D) (ci := 1) (v := .int (nI (y3 + 1))) (ty := .int) (C := RX1) (T := TX1) (N := 4) hx hb hg inG1 tyX1 tyX1_ok nmX1 hown hK hP hD hS ia.1 hM_40 rfl 3 (by decide) (hg _ wd_118) (fun _ h9 => h9) rfl (by decide +kernel) rfl rfl (Nat.le_of_ble_eq_true rfl) dX1_append_44 (fun H_44 locs hP hD hS => ?_)
    obtain ⟨M_45, eM_45⟩ : ∃ M1 : Hp, M1 = va_up M_35 oa ((b1_4 y0 y1 y2 (nI (y3 + 1)))) := ⟨_, rfl⟩
    have sM_45 : M_45 = sF M_35 oa 3 (.int (nI (y3 + 1))) := eM_45.trans (sF_of (j := 3) (v := .int (nI (y3 + 1))) hM_40 rfl)
    have hV : VC Bo K L Mb M_45 ha (va_up Xv 14 (((y3 + 1) : Nat) : Int)) (va_up (va_up (va_up Yv 38 (upd (Yv 38) ((nI y3) : Int32).toNatClampNeg (hrN M (some k1)))) 39 (upd (Yv 39) ((nI y3) : Int32).toNatClampNeg k2)) 40 (upd (Yv 40) ((nI y3) : Int32).toNatClampNeg k3)) := by rw [sM_45]; have h9 := VC.n16 (v := (nI (y3 + 1))) hV hW iH hs_36 hM_40 (Nat.le_of_ble_eq_true rfl); rw [show ((nI (y3 + 1)) : Int32).toInt = (((y3 + 1) : Nat) : Int) from (nI_toInt (by omega))] at h9; exact h9
    have hs_46 : rA 2 M_45 ha 16 = oa := by rw [sM_45, rA_c (cVt_sF hM_40 2 _ 16 (Or.inl (by decide)))]; exact hs_36
    have hP : va_P D vwCl ([] ++ va_pl L M_45) H_44 := by rw [eM_45]; exact hP
    have hD : va_D A ([] ++ va_pl L M_45) := by rw [eM_45]; exact hD
    have hW : WOK cy K L M_45 := by rw [eM_45]; exact hW.up_1 ia ⟨yn, y0, y1, y2, (y3 + 1), rfl, hy0, hy1, hy2, (by omega), hey0⟩
    have hF : fr K L [1, 56, 57, 63] M M_45 := by rw [eM_45]; exact hF.up ia (by decide)
    have hT1 : fT 1 K L [3] M M_45 := by rw [eM_45]; exact hT1.up (i := 3) hM_40 rfl (by decide)
    have hM_47 : M_45 oa = (b1_4 y0 y1 y2 (nI (y3 + 1))) := by rw [eM_45]; exact va_up_self _ _ _
    have hM_48 : M_45 y2 = .inl (cy 14, yn, .inl (f_42)) := by rw [eM_45, va_up_ne _ _ (hy2.neT ia (by decide))]; exact hM_37
    have hM_49 : M_45 y1 = .inl (cy 14, yn, .inl (f_32)) := by rw [eM_45, va_up_ne _ _ (hy1.neT ia (by decide))]; exact hM_38
    have hM_50 : M_45 y0 = .inl (cy 22, yn, .inr (.inr (.inr (.inr (f_22))))) := by rw [eM_45, va_up_ne _ _ (hy0.neT ia (by decide))]; exact hM_39
    have hM_51 : M_45 k1 = (b9_9 (nI v15_0) v15_1 v15_2 v15_3 v15_4 v15_5 v15_6 v15_7 v15_8 v15_9 v15_10 v15_11 v15_12 v15_13 v15_14 v15_15) := by rw [eM_45, va_up_ne _ _ (ik1.neT ia (by decide))]; exact hM_41
    have hb_52 : (y3 + 1) ≤ yn := by omega
    have hA_53 : (ALc (M_45 (rA 1 M_45 oa 1)) : Int) = ((yn : Nat) : Int) := by rw [rA_of hM_47 rfl, hM_49]; rfl
    have hA_54 : (cV 1 M_45 oa 3).toInt = (((y3 + 1) : Nat) : Int) := by rw [cV_of hM_47 rfl]; exact nI_toInt (by omega)
    have hA_55 : (cV 9 M_45 k1 0).toInt = ((v15_0 : Nat) : Int) := by rw [cV_of hM_51 rfl]; exact nI_toInt (by omega)
    have hA_56 : (cV 9 M_45 k1 2).toInt = (v15_2 : Int32).toInt := by rw [cV_of hM_51 rfl]
    have hA_57 : (cV 9 M_45 k1 3).toInt = (v15_3 : Int32).toInt := by rw [cV_of hM_51 rfl]
    have hA_58 : (cV 9 M_45 k1 4).toInt = (v15_4 : Int32).toInt := by rw [cV_of hM_51 rfl]
    have hA_59 : (cV 9 M_45 k1 5).toInt = (v15_5 : Int32).toInt := by rw [cV_of hM_51 rfl]
    have hA_60 : (cV 9 M_45 k1 6).toInt = (v15_6 : Int32).toInt := by rw [cV_of hM_51 rfl]
    have hA_61 : (cV 9 M_45 k1 7).toInt = (v15_7 : Int32).toInt := by rw [cV_of hM_51 rfl]
    rw [hQ]
    exact W.vret hx hb hr (fun t ht hW9 => ⟨⟨M_45, rfl, ⟨hW, hF, hT1, (hV.cg (by rw [show ((y3 + 1 : Nat) : Int) = Xv 14 + 1 by omega]) (by rw [nI_cl (by omega), show y3 = (Xv 14).toNat by omega]; first | done | rfl)), trivial⟩, ⟨by rw [ht]; exact hP, hD⟩⟩, hS.F ht⟩) hS.2.2 dX1_append_47
set_option maxHeartbeats 4000000 in
set_option maxRecDepth 100000 in
theorem e_app_me (l : Launch) (D : va_G) (cy : Nat → ClassId) (K : Kp) (L : List Nat) (M : Hp) (sz : Nat) (oa : Nat) (k2 : Int32) (k3 : Int32) (Bo : Nat → Nat × Nat) (Mb : Hp) (ha : Nat) (Xv : Nat → Int) (Yv : Nat → Nat → Int32) (yn : Nat) (y0 : Nat) (y1 : Nat) (y2 : Nat) (y3 : Nat) (hW : WOK cy K L M) (ia : isk K L oa 1 0) (iH : isk K L ha 2 0) (hV : VC Bo K L Mb M ha Xv Yv) (hs : rA 2 M ha 17 = oa) (hlt : Xv 15 < 20) (hMy : M oa = (b1_4 y0 y1 y2 (nI y3))) (hy0 : isk K L y0 63 yn) (hy1 : isk K L y1 56 yn) (hy2 : isk K L y2 57 yn) (hy3 : y3 ≤ yn) (hey0 : yn ≤ 120) : Met l yX1_append (wsM yX1_append cX1_append 4 none) ({ frames := 1, cells := 0, slots := 0, locals := 20 }) (va_Pc [.ref oa, .null, .int k2, .int k3] (PG D cy [] L M sz)) (va_Qv (fun (M9 : Hp) => WOK cy K L M9 ∧ fr K L [1, 56, 57, 63] M M9 ∧ fT 1 K L [3] M M9 ∧ (VC Bo K L Mb M9 ha (va_up Xv 15 (Xv 15 + 1)) (va_up (va_up Yv 41 (upd (Yv 41) (Xv 15).toNat k2)) 42 (upd (Yv 42) (Xv 15).toNat k3))) ∧ (True)) (fun M9 t => PQ D [] L M9 (va_A ([] ++ va_pl L M) sz) t) (va_A ([] ++ va_pl L M) sz)) 0 0 (va_A ([] ++ va_pl L M) sz) := by
  refine Met.ofW (cc := cX1_append) (maxL := 4) (ret := none) (by decide) rfl ?_
  intro p e s m args below meth c s₁ B hml hv
  obtain ⟨rfl, hsz, hP, hK, hD0, hN⟩ := hv
  have hx := B.exec
  have hb := B.bytes
  have hr := B.returns
  have hts := atoms_spec (ws := (wsM yX1_append cX1_append 4 none)) B.pre
  have hg : ∀ w ∈ lw_good, w.before _ s = true := fun w h => hts w (List.mem_cons_of_mem _ h)
  have hown : s.vm.findClass RX1 = some m.cls := findClass_of_methodNamed B.named
  have hlocks := B.notSynchronized
  subst hsz
  have hD := hD0.self (sz := s.heap.size)
  generalize hAe : va_A ([] ++ va_pl L M) s.heap.size = A at hD ⊢
  have hA : ∀ q : Nat, s.heap.size ≤ q → A q := fun q h => by rw [← hAe]; exact Or.inr h
  have hS : va_S A s.heap s.heap [] := va_S.rf
  have hl := lv_entry ([.ref oa, .null, .int k2, .int k3]) (n := 4) (Nat.le_of_ble_eq_true rfl)
  rw [lg_entry_eq]
  generalize (lg_sl ([.ref oa, .null, .int k2, .int k3]) ++ List.replicate (4 - (lg_sl ([.ref oa, .null, .int k2, .int k3])).length) Slot.unset).toArray = ls at hl ⊢
  refine W.nameQ (fun Q hQ => ?_)
  refine W.nameR (fun R hR => ?_)
  have hRf : 1 ≤ R.frames := by rw [hR]; exact Nat.le_of_ble_eq_true rfl
  have hRl : 20 ≤ R.locals := by rw [hR]; exact Nat.le_of_ble_eq_true rfl
  have hRc : 0 ≤ R.cells := by rw [hR]; exact Nat.le_of_ble_eq_true rfl
  have hRs : 0 ≤ R.slots := by rw [hR]; exact Nat.le_of_ble_eq_true rfl
  have hF : fr K L [1, 56, 57, 63] M M := fr.rf
  have hT1 : fT 1 K L [3] M M := fT.rf
  have hl : lv_has ls 4 [(0, .ref oa), (1, .null), (2, .int k2), (3, .int k3)] := hl
  have hX15 : (cV 1 M oa 3).toInt = Xv 15 := by rw [← hs]; exact congrFun hV.2.1 15
  obtain ⟨f1, hM1⟩ := hW.open_56 hy1
  have hA_2 : (ALc (M (rA 1 M oa 1)) : Int) = ((yn : Nat) : Int) := by rw [rA_of hMy rfl, hM1]; rfl
  have hA_3 : (cV 1 M oa 3).toInt = ((y3 : Nat) : Int) := by rw [cV_of hMy rfl]; exact nI_toInt (by omega)
  have hnn : yn = 20 := by have h1 := hV.2.2.2.n17 ha iH; rw [hs, rA_of (j := 0) hMy rfl] at h1; exact congrArg Prod.snd (hy0.2.symm.trans h1.2)
  refine lv_aload_n hx hb dX1_append_0 rfl (lv_at hl 0 rfl) ?_
  have hPc : va_P D vwCl ([] ++ va_pl L M) s.heap := hP
  have hDc : va_D A ([] ++ va_pl L M) := hD
  have hFc : ∀ q, va_A ([] ++ va_pl L M) s.heap.size q → A q := pg_free hDc hS hA
  refine va_calli (va_runV (As := []) (rest := []) ⟨hx, hb, hml, hown, hg⟩ (e_X1_isFull l D cy K L M s.heap.size oa yn y0 y1 y2 y3 hW ia hMy hy0 hy1 hy2 hy3 hey0) (cwV 0 hg (gV wd_120 wd_121 wd_122 wd_123 wd_124) rfl rfl rfl (by decide +kernel) ⟨(Nat.le_trans (Nat.le_of_ble_eq_true rfl) hRf), (Nat.le_trans (Nat.le_of_ble_eq_true rfl) hRl)⟩) ⟨PG.blind, pg_recv hK hP ia.1 hMy rfl, fun U hU hW => ⟨rfl, PG.at hPc hK hDc hN hU hW⟩⟩ rfl rfl hl.1 rfl (lv_room (Nat.le_of_ble_eq_true rfl)) dX1_append_1 ⟨(Nat.le_trans (Nat.le_of_ble_eq_true rfl) hRc), (Nat.le_trans (Nat.le_of_ble_eq_true rfl) hRs)⟩) hS (fun q _ h => hFc q h) hFc (fun r_5 M_6 t H_4 locs ht hvm hw hB hz1 hk1 hS => ?_)
  have hp_7 := hw
  obtain ⟨hP1, hD1⟩ := hB
  rw [ht] at hP1
  have hP : va_P D vwCl ([] ++ va_pl L M) H_4 := hP1
  have hD : va_D A ([] ++ va_pl L M) := hD1.mono hFc
  rcases hp_7 with ⟨rfl, c_8⟩ | ⟨rfl, c_9, c_10⟩
  · have hz := rfl (a := 0)
    refine lv_if_ne (tgt := 47) hx hb dX1_append_4 (by decide) (fun _ => ?_) (fun c_11 => absurd c_11 (by decide))
    rw [hQ]
    exact W.vret hx hb hr (fun t ht hW9 => ⟨⟨M, rfl, ⟨hW, hF, hT1, (by exfalso; omega), trivial⟩, ⟨by rw [ht]; exact hP, hD⟩⟩, hS.F ht⟩) hS.2.2 dX1_append_47
  · have hz := rfl (a := 0)
    refine lv_if_ne (tgt := 47) hx hb dX1_append_4 (by decide) (fun c_12 => absurd c_12 (by decide)) (fun _ => ?_)
    refine lv_aload_n hx hb dX1_append_7 rfl (lv_at hl 0 rfl) ?_
    refine pg_get (D := D) (ci := 1) (v := .ref y0) (C := RX1) (T := TX1) (N := 4) hx hb hg inG1 hown hK hP ia.1 hMy rfl 0 (by decide) (hg _ wd_125) (fun _ h9 => h9) rfl dX1_append_8 ?_
    refine lv_aload_n hx hb dX1_append_11 rfl (lv_at hl 0 rfl) ?_
    refine pg_get (D := D) (ci := 1) (v := .int (nI y3)) (C := RX1) (T := TX1) (N := 4) hx hb hg inG1 hown hK hP ia.1 hMy rfl 3 (by decide) (hg _ wd_118) (fun _ h9 => h9) rfl dX1_append_12 ?_
    refine lv_aload_nN hx hb dX1_append_15 rfl (lv_at hl 1 rfl) ?_
    obtain ⟨f13, hM13, hf13⟩ := hW.open_63 hy0
    refine pg_astqN hx hb hK hP hD hS hy0.1 8 hM13 rfl (inbN y3 yn (by omega) (by omega)) dX1_append_16 (fun H_14 locs hP hD hS => ?_)
    obtain ⟨M_15, eM_15⟩ : ∃ M1 : Hp, M1 = va_up M y0 (.inl (cy 22, yn, .inr (.inr (.inr (.inr (va_up f13 ((nI y3) : Int32).toNatClampNeg none)))))) := ⟨_, rfl⟩
    have sM_15 : M_15 = sR M y0 ((nI y3) : Int32).toNatClampNeg none := eM_15.trans (sR_of hM13)
    have hV : VC Bo K L Mb M_15 ha Xv Yv := by rw [sM_15]; exact VC.r_me hV hW iH (by rw [hs]; exact rA_of (j := 0) hMy rfl) hM13
    have hs_16 : rA 2 M_15 ha 17 = oa := by rw [sM_15, rA_c (cVt_sR _ _ _ _ _ _ _)]; exact hs
    have hP : va_P D vwCl ([] ++ va_pl L M_15) H_14 := by rw [eM_15]; exact hP
    have hD : va_D A ([] ++ va_pl L M_15) := by rw [eM_15]; exact hD
    have hW : WOK cy K L M_15 := by rw [eM_15]; exact hW.up_63 hy0 ⟨_, rfl, (upN0 hf13)⟩
    have hF : fr K L [1, 56, 57, 63] M M_15 := by rw [eM_15]; exact hF.up hy0 (by decide)
    have hT1 : fT 1 K L [3] M M_15 := by rw [eM_15]; exact hT1.ne hy0 (by decide)
    have hM_17 : M_15 y0 = .inl (cy 22, yn, .inr (.inr (.inr (.inr (va_up f13 ((nI y3) : Int32).toNatClampNeg none))))) := by rw [eM_15]; exact va_up_self _ _ _
    have hM_18 : M_15 oa = (b1_4 y0 y1 y2 (nI y3)) := by rw [eM_15, va_up_ne _ _ (ia.neT hy0 (by decide))]; exact hMy
    have hM_19 : M_15 y1 = .inl (cy 14, yn, .inl (f1)) := by rw [eM_15, va_up_ne _ _ (hy1.neT hy0 (by decide))]; exact hM1
    have hf_21 : ∀ j, j < yn → iskN K L ((va_up f13 ((nI y3) : Int32).toNatClampNeg none) j) 9 0 := (upN0 hf13)
    obtain ⟨f_20, ef_20⟩ : ∃ f : Nat → Option Nat, f = va_up f13 ((nI y3) : Int32).toNatClampNeg none := ⟨_, rfl⟩
    rw [← ef_20] at hM_17 hf_21
    clear ef_20
    refine lv_aload_n hx hb dX1_append_17 rfl (lv_at hl 0 rfl) ?_
    refine pg_get (D := D) (ci := 1) (v := .ref y1) (C := RX1) (T := TX1) (N := 4) hx hb hg inG1 hown hK hP ia.1 hM_18 rfl 1 (by decide) (hg _ wd_119) (fun _ h9 => h9) rfl dX1_append_18 ?_
    refine lv_aload_n hx hb dX1_append_21 rfl (lv_at hl 0 rfl) ?_
    refine pg_get (D := D) (ci := 1) (v := .int (nI y3)) (C := RX1) (T := TX1) (N := 4) hx hb hg inG1 hown hK hP ia.1 hM_18 rfl 3 (by decide) (hg _ wd_118) (fun _ h9 => h9) rfl dX1_append_22 ?_
    refine lv_iload_n hx hb dX1_append_25 rfl (lv_at hl 2 rfl) ?_
    refine pg_iast hx hb hK hP hD hS hy1.1 0 hM_19 rfl (inbN y3 yn (by omega) (by omega)) dX1_append_26 (fun H_22 locs hP hD hS => ?_)
    obtain ⟨M_23, eM_23⟩ : ∃ M1 : Hp, M1 = va_up M_15 y1 (.inl (cy 14, yn, .inl (upd f1 ((nI y3) : Int32).toNatClampNeg k2))) := ⟨_, rfl⟩
    have sM_23 : M_23 = sA M_15 y1 ((nI y3) : Int32).toNatClampNeg k2 := eM_23.trans (sA_of hM_19)
    have hV : VC Bo K L Mb M_23 ha Xv (va_up Yv 41 (upd (Yv 41) ((nI y3) : Int32).toNatClampNeg k2)) := by rw [sM_23]; exact VC.a_d17_1 hV hW iH (by rw [hs_16]; exact rA_of (j := 1) hM_18 rfl) hM_19
    have hs_24 : rA 2 M_23 ha 17 = oa := by rw [sM_23, rA_c (cVt_sA _ _ _ _ _ _ _)]; exact hs_16
    have hP : va_P D vwCl ([] ++ va_pl L M_23) H_22 := by rw [eM_23]; exact hP
    have hD : va_D A ([] ++ va_pl L M_23) := by rw [eM_23]; exact hD
    have hW : WOK cy K L M_23 := by rw [eM_23]; exact hW.up_56 hy1 ⟨_, rfl⟩
    have hF : fr K L [1, 56, 57, 63] M M_23 := by rw [eM_23]; exact hF.up hy1 (by decide)
    have hT1 : fT 1 K L [3] M M_23 := by rw [eM_23]; exact hT1.ne hy1 (by decide)
    have hM_25 : M_23 y1 = .inl (cy 14, yn, .inl (upd f1 ((nI y3) : Int32).toNatClampNeg k2)) := by rw [eM_23]; exact va_up_self _ _ _
    have hM_26 : M_23 y0 = .inl (cy 22, yn, .inr (.inr (.inr (.inr (f_20))))) := by rw [eM_23, va_up_ne _ _ (hy0.neT hy1 (by decide))]; exact hM_17
    have hM_27 : M_23 oa = (b1_4 y0 y1 y2 (nI y3)) := by rw [eM_23, va_up_ne _ _ (ia.neT hy1 (by decide))]; exact hM_18
    obtain ⟨f_28, ef_28⟩ : ∃ f : Nat → Int32, f = upd f1 ((nI y3) : Int32).toNatClampNeg k2 := ⟨_, rfl⟩
    rw [← ef_28] at hM_25
    clear ef_28
    refine lv_aload_n hx hb dX1_append_27 rfl (lv_at hl 0 rfl) ?_
    refine pg_get (D := D) (ci := 1) (v := .ref y2) (C := RX1) (T := TX1) (N := 4) hx hb hg inG1 hown hK hP ia.1 hM_27 rfl 2 (by decide) (hg _ wd_126) (fun _ h9 => h9) rfl dX1_append_28 ?_
    refine lv_aload_n hx hb dX1_append_31 rfl (lv_at hl 0 rfl) ?_
    refine pg_get (D := D) (ci := 1) (v := .int (nI y3)) (C := RX1) (T := TX1) (N := 4) hx hb hg inG1 hown hK hP ia.1 hM_27 rfl 3 (by decide) (hg _ wd_118) (fun _ h9 => h9) rfl dX1_append_32 ?_
    refine lv_iload_n hx hb dX1_append_35 rfl (lv_at hl 3 rfl) ?_
    obtain ⟨f29, hM29⟩ := hW.open_57 hy2
    refine pg_iast hx hb hK hP hD hS hy2.1 0 hM29 rfl (inbN y3 yn (by omega) (by omega)) dX1_append_36 (fun H_30 locs hP hD hS => ?_)
    obtain ⟨M_31, eM_31⟩ : ∃ M1 : Hp, M1 = va_up M_23 y2 (.inl (cy 14, yn, .inl (upd f29 ((nI y3) : Int32).toNatClampNeg k3))) := ⟨_, rfl⟩
    have sM_31 : M_31 = sA M_23 y2 ((nI y3) : Int32).toNatClampNeg k3 := eM_31.trans (sA_of hM29)
    have hV : VC Bo K L Mb M_31 ha Xv (va_up (va_up Yv 41 (upd (Yv 41) ((nI y3) : Int32).toNatClampNeg k2)) 42 (upd (Yv 42) ((nI y3) : Int32).toNatClampNeg k3)) := by rw [sM_31]; exact VC.a_d17_2 hV hW iH (by rw [hs_24]; exact rA_of (j := 2) hM_27 rfl) hM29
    have hs_32 : rA 2 M_31 ha 17 = oa := by rw [sM_31, rA_c (cVt_sA _ _ _ _ _ _ _)]; exact hs_24
    have hP : va_P D vwCl ([] ++ va_pl L M_31) H_30 := by rw [eM_31]; exact hP
    have hD : va_D A ([] ++ va_pl L M_31) := by rw [eM_31]; exact hD
    have hW : WOK cy K L M_31 := by rw [eM_31]; exact hW.up_57 hy2 ⟨_, rfl⟩
    have hF : fr K L [1, 56, 57, 63] M M_31 := by rw [eM_31]; exact hF.up hy2 (by decide)
    have hT1 : fT 1 K L [3] M M_31 := by rw [eM_31]; exact hT1.ne hy2 (by decide)
    have hM_33 : M_31 y2 = .inl (cy 14, yn, .inl (upd f29 ((nI y3) : Int32).toNatClampNeg k3)) := by rw [eM_31]; exact va_up_self _ _ _
    have hM_34 : M_31 y1 = .inl (cy 14, yn, .inl (f_28)) := by rw [eM_31, va_up_ne _ _ (hy1.neT hy2 (by decide))]; exact hM_25
    have hM_35 : M_31 y0 = .inl (cy 22, yn, .inr (.inr (.inr (.inr (f_20))))) := by rw [eM_31, va_up_ne _ _ (hy0.neT hy2 (by decide))]; exact hM_26
    have hM_36 : M_31 oa = (b1_4 y0 y1 y2 (nI y3)) := by rw [eM_31, va_up_ne _ _ (ia.neT hy2 (by decide))]; exact hM_27
    obtain ⟨f_37, ef_37⟩ : ∃ f : Nat → Int32, f = upd f29 ((nI y3) : Int32).toNatClampNeg k3 := ⟨_, rfl⟩
    rw [← ef_37] at hM_33
    clear ef_37
    refine lv_aload_n hx hb dX1_append_37 rfl (lv_at hl 0 rfl) ?_
    refine lv_dup hx hb dX1_append_38 rfl ?_
    refine pg_get (D := D) (ci := 1) (v := .int (nI y3)) (C := RX1) (T := TX1) (N := 4) hx hb hg inG1 hown hK hP ia.1 hM_36 rfl 3 (by decide) (hg _ wd_118) (fun _ h9 => h9) rfl dX1_append_39 ?_
    refine lv_iconst (v := 1) hx hb dX1_append_42 (by decide) ?_
    refine lv_iadd hx hb dX1_append_43 ?_
    refine lv_topi (fun f_38 ef_38 => ?_)
    obtain rfl : f_38 = (nI (y3 + 1)) := ef_38.trans (nI_add y3 1)
    refine pg_put (D := D) (ci := 1) (v := .int (nI (y3 + 1))) (ty := .int) (C := RX1) (T := TX1) (N := 4) hx hb hg inG1 tyX1 tyX1_ok nmX1 hown hK hP hD hS ia.1 hM_36 rfl 3 (by decide) (hg _ wd_118) (fun _ h9 => h9) rfl (by decide +kernel) rfl rfl (Nat.le_of_ble_eq_true rfl) dX1_append_44 (fun H_39 locs hP hD hS => ?_)
    obtain ⟨M_40, eM_40⟩ : ∃ M1 : Hp, M1 = va_up M_31 oa ((b1_4 y0 y1 y2 (nI (y3 + 1)))) := ⟨_, rfl⟩
    have sM_40 : M_40 = sF M_31 oa 3 (.int (nI (y3 + 1))) := eM_40.trans (sF_of (j := 3) (v := .int (nI (y3 + 1))) hM_36 rfl)
    have hV : VC Bo K L Mb M_40 ha (va_up Xv 15 (((y3 + 1) : Nat) : Int)) (va_up (va_up Yv 41 (upd (Yv 41) ((nI y3) : Int32).toNatClampNeg k2)) 42 (upd (Yv 42) ((nI y3) : Int32).toNatClampNeg k3)) := by rw [sM_40]; have h9 := VC.n17 (v := (nI (y3 + 1))) hV hW iH hs_32 hM_36 (Nat.le_of_ble_eq_true rfl); rw [show ((nI (y3 + 1)) : Int32).toInt = (((y3 + 1) : Nat) : Int) from (nI_toInt (by omega))] at h9; exact h9
    have hs_41 : rA 2 M_40 ha 17 = oa := by rw [sM_40, rA_c (cVt_sF hM_36 2 _ 17 (Or.inl (by decide)))]; exact hs_32
    have hP : va_P D vwCl ([] ++ va_pl L M_40) H_39 := by rw [eM_40]; exact hP
    have hD : va_D A ([] ++ va_pl L M_40) := by rw [eM_40]; exact hD
    have hW : WOK cy K L M_40 := by rw [eM_40]; exact hW.up_1 ia ⟨yn, y0, y1, y2, (y3 + 1), rfl, hy0, hy1, hy2, (by omega), hey0⟩
    have hF : fr K L [1, 56, 57, 63] M M_40 := by rw [eM_40]; exact hF.up ia (by decide)
    have hT1 : fT 1 K L [3] M M_40 := by rw [eM_40]; exact hT1.up (i := 3) hM_36 rfl (by decide)
    have hM_42 : M_40 oa = (b1_4 y0 y1 y2 (nI (y3 + 1))) := by rw [eM_40]; exact va_up_self _ _ _
    have hM_43 : M_40 y2 = .inl (cy 14, yn, .inl (f_37)) := by rw [eM_40, va_up_ne _ _ (hy2.neT ia (by decide))]; exact hM_33
    have hM_44 : M_40 y1 = .inl (cy 14, yn, .inl (f_28)) := by rw [eM_40, va_up_ne _ _ (hy1.neT ia (by decide))]; exact hM_34
    have hM_45 : M_40 y0 = .inl (cy 22, yn, .inr (.inr (.inr (.inr (f_20))))) := by rw [eM_40, va_up_ne _ _ (hy0.neT ia (by decide))]; exact hM_35
    have hb_46 : (y3 + 1) ≤ yn := by omega
    have hA_47 : (ALc (M_40 (rA 1 M_40 oa 1)) : Int) = ((yn : Nat) : Int) := by rw [rA_of hM_42 rfl, hM_44]; rfl
    have hA_48 : (cV 1 M_40 oa 3).toInt = (((y3 + 1) : Nat) : Int) := by rw [cV_of hM_42 rfl]; exact nI_toInt (by omega)
    rw [hQ]
    exact W.vret hx hb hr (fun t ht hW9 => ⟨⟨M_40, rfl, ⟨hW, hF, hT1, (hV.cg (by rw [show ((y3 + 1 : Nat) : Int) = Xv 15 + 1 by omega]) (by rw [nI_cl (by omega), show y3 = (Xv 15).toNat by omega]; first | done | rfl)), trivial⟩, ⟨by rw [ht]; exact hP, hD⟩⟩, hS.F ht⟩) hS.2.2 dX1_append_47
set_option maxHeartbeats 4000000 in
set_option maxRecDepth 100000 in
theorem e_dropm (l : Launch) (D : va_G) (cy : Nat → ClassId) (K : Kp) (L : List Nat) (M : Hp) (sz : Nat) (oa : Nat) (Bo : Nat → Nat × Nat) (Mb : Hp) (ha : Nat) (Xv : Nat → Int) (Yv : Nat → Nat → Int32) (yn : Nat) (y0 : Nat) (y1 : Nat) (y2 : Nat) (y3 : Nat) (hW : WOK cy K L M) (ia : isk K L oa 1 0) (iH : isk K L ha 2 0) (hV : VC Bo K L Mb M ha Xv Yv) (hs : rA 2 M ha 16 = oa) (hlt : 1 ≤ Xv 14) (hMy : M oa = (b1_4 y0 y1 y2 (nI y3))) (hy0 : isk K L y0 63 yn) (hy1 : isk K L y1 56 yn) (hy2 : isk K L y2 57 yn) (hy3 : y3 ≤ yn) (hey0 : yn ≤ 120) : Met l yX1_dropLatest (wsM yX1_dropLatest cX1_dropLatest 1 none) ({ frames := 0, cells := 0, slots := 0, locals := 0 }) (va_Pc [.ref oa] (PG D cy [] L M sz)) (va_Qv (fun (M9 : Hp) => WOK cy K L M9 ∧ fr K L [1] M M9 ∧ fT 1 K L [3] M M9 ∧ (VC Bo K L Mb M9 ha (va_up Xv 14 (Xv 14 - 1)) Yv) ∧ (True)) (fun M9 t => PQ D [] L M9 (va_A ([] ++ va_pl L M) sz) t) (va_A ([] ++ va_pl L M) sz)) 0 0 (va_A ([] ++ va_pl L M) sz) := by
  refine Met.ofW (cc := cX1_dropLatest) (maxL := 1) (ret := none) (by decide) rfl ?_
  intro p e s m args below meth c s₁ B hml hv
  obtain ⟨rfl, hsz, hP, hK, hD0, hN⟩ := hv
  have hx := B.exec
  have hb := B.bytes
  have hr := B.returns
  have hts := atoms_spec (ws := (wsM yX1_dropLatest cX1_dropLatest 1 none)) B.pre
  have hg : ∀ w ∈ lw_good, w.before _ s = true := fun w h => hts w (List.mem_cons_of_mem _ h)
  have hown : s.vm.findClass RX1 = some m.cls := findClass_of_methodNamed B.named
  have hlocks := B.notSynchronized
  subst hsz
  have hD := hD0.self (sz := s.heap.size)
  generalize hAe : va_A ([] ++ va_pl L M) s.heap.size = A at hD ⊢
  have hA : ∀ q : Nat, s.heap.size ≤ q → A q := fun q h => by rw [← hAe]; exact Or.inr h
  have hS : va_S A s.heap s.heap [] := va_S.rf
  have hl := lv_entry ([.ref oa]) (n := 1) (Nat.le_of_ble_eq_true rfl)
  rw [lg_entry_eq]
  generalize (lg_sl ([.ref oa]) ++ List.replicate (1 - (lg_sl ([.ref oa])).length) Slot.unset).toArray = ls at hl ⊢
  refine W.nameQ (fun Q hQ => ?_)
  refine W.nameR (fun R hR => ?_)
  have hRf : 0 ≤ R.frames := by rw [hR]; exact Nat.le_of_ble_eq_true rfl
  have hRl : 0 ≤ R.locals := by rw [hR]; exact Nat.le_of_ble_eq_true rfl
  have hRc : 0 ≤ R.cells := by rw [hR]; exact Nat.le_of_ble_eq_true rfl
  have hRs : 0 ≤ R.slots := by rw [hR]; exact Nat.le_of_ble_eq_true rfl
  have hF : fr K L [1] M M := fr.rf
  have hT1 : fT 1 K L [3] M M := fT.rf
  have hl : lv_has ls 1 [(0, .ref oa)] := hl
  have hX14 : (cV 1 M oa 3).toInt = Xv 14 := by rw [← hs]; exact congrFun hV.2.1 14
  have hA_1 : (cV 1 M oa 3).toInt = ((y3 : Nat) : Int) := by rw [cV_of hMy rfl]; exact nI_toInt (by omega)
  refine lv_aload_n hx hb dX1_dropLatest_0 rfl (lv_at hl 0 rfl) ?_
  refine pg_get (D := D) (ci := 1) (v := .int (nI y3)) (C := RX1) (T := TX1) (N := 4) hx hb hg inG1 hown hK hP ia.1 hMy rfl 3 (by decide) (hg _ wd_118) (fun _ h9 => h9) rfl dX1_dropLatest_1 ?_
  refine lv_if_le (tgt := 17) hx hb dX1_dropLatest_4 (by decide) (fun c_2 => ?_) (fun c_2 => ?_)
  · have hz := rfl (a := 0)
    have n_3 : y3 ≤ 0 := (iLE (a := y3) (b := 0) (by omega) (by omega)).mp c_2
    have hI_4 : ((y3 : Nat) : Int) ≤ (0 : Int) := ileI (nI_toInt (by omega)) rfl c_2
    rw [hQ]
    exact W.vret hx hb hr (fun t ht hW9 => ⟨⟨M, rfl, ⟨hW, hF, hT1, (by exfalso; omega), trivial⟩, ⟨by rw [ht]; exact hP, hD⟩⟩, hS.F ht⟩) hS.2.2 dX1_dropLatest_17
  · have hz := rfl (a := 0)
    have n_5 : ¬ (y3 ≤ 0) := fun q => c_2 ((iLE (a := y3) (b := 0) (by omega) (by omega)).mpr q)
    refine lv_aload_n hx hb dX1_dropLatest_7 rfl (lv_at hl 0 rfl) ?_
    refine lv_dup hx hb dX1_dropLatest_8 rfl ?_
    refine pg_get (D := D) (ci := 1) (v := .int (nI y3)) (C := RX1) (T := TX1) (N := 4) hx hb hg inG1 hown hK hP ia.1 hMy rfl 3 (by decide) (hg _ wd_118) (fun _ h9 => h9) rfl dX1_dropLatest_9 ?_
    refine lv_iconst (v := 1) hx hb dX1_dropLatest_12 (by decide) ?_
    refine lv_isub hx hb dX1_dropLatest_13 ?_
    refine lv_topi (fun f_6 ef_6 => ?_)
    obtain rfl : f_6 = (nI (y3 - 1)) := ef_6.trans (nI_prd (by omega))
    refine pg_put (D := D) (ci := 1) (v := .int (nI (y3 - 1))) (ty := .int) (C := RX1) (T := TX1) (N := 4) hx hb hg inG1 tyX1 tyX1_ok nmX1 hown hK hP hD hS ia.1 hMy rfl 3 (by decide) (hg _ wd_118) (fun _ h9 => h9) rfl (by decide +kernel) rfl rfl (Nat.le_of_ble_eq_true rfl) dX1_dropLatest_14 (fun H_7 locs hP hD hS => ?_)
    obtain ⟨M_8, eM_8⟩ : ∃ M1 : Hp, M1 = va_up M oa ((b1_4 y0 y1 y2 (nI (y3 - 1)))) := ⟨_, rfl⟩
    have sM_8 : M_8 = sF M oa 3 (.int (nI (y3 - 1))) := eM_8.trans (sF_of (j := 3) (v := .int (nI (y3 - 1))) hMy rfl)
    have hV : VC Bo K L Mb M_8 ha (va_up Xv 14 (((y3 - 1) : Nat) : Int)) Yv := by rw [sM_8]; have h9 := VC.n16 (v := (nI (y3 - 1))) hV hW iH hs hMy (Nat.le_of_ble_eq_true rfl); rw [show ((nI (y3 - 1)) : Int32).toInt = (((y3 - 1) : Nat) : Int) from (nI_toInt (by omega))] at h9; exact h9
    have hs_9 : rA 2 M_8 ha 16 = oa := by rw [sM_8, rA_c (cVt_sF hMy 2 _ 16 (Or.inl (by decide)))]; exact hs
    have hP : va_P D vwCl ([] ++ va_pl L M_8) H_7 := by rw [eM_8]; exact hP
    have hD : va_D A ([] ++ va_pl L M_8) := by rw [eM_8]; exact hD
    have hW : WOK cy K L M_8 := by rw [eM_8]; exact hW.up_1 ia ⟨yn, y0, y1, y2, (y3 - 1), rfl, hy0, hy1, hy2, (by omega), hey0⟩
    have hF : fr K L [1] M M_8 := by rw [eM_8]; exact hF.up ia (by decide)
    have hT1 : fT 1 K L [3] M M_8 := by rw [eM_8]; exact hT1.up (i := 3) hMy rfl (by decide)
    have hM_10 : M_8 oa = (b1_4 y0 y1 y2 (nI (y3 - 1))) := by rw [eM_8]; exact va_up_self _ _ _
    have hb_11 : (y3 - 1) ≤ yn := by omega
    have hI_12 : (0 : Int) < ((y3 : Nat) : Int) := inleI (nI_toInt (by omega)) rfl c_2
    have hA_13 : (cV 1 M_8 oa 3).toInt = (((y3 - 1) : Nat) : Int) := by rw [cV_of hM_10 rfl]; exact nI_toInt (by omega)
    rw [hQ]
    exact W.vret hx hb hr (fun t ht hW9 => ⟨⟨M_8, rfl, ⟨hW, hF, hT1, (hV.cg (by rw [show ((y3 - 1 : Nat) : Int) = Xv 14 - 1 by omega]) rfl), trivial⟩, ⟨by rw [ht]; exact hP, hD⟩⟩, hS.F ht⟩) hS.2.2 dX1_dropLatest_17
