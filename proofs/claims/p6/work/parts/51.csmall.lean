theorem adoptE2 {cy : Nat → ClassId} {D : va_G} {A : Nat → Prop} {E : va_W} {K : Kp} {L : List Nat} {M : Hp} {H : Heap} {q : Nat} {e : va_E} (t n : Nat) (hP : va_P D vwCl ((E ++ [(q, e)]) ++ va_pl L M) H) (hD : va_D A ((E ++ [(q, e)]) ++ va_pl L M)) (hW : WOK cy K L M) (hg : ∀ (K' : Kp) (L' : List Nat), ext K L K' L' → isk K' L' q t n → gd cy K' L' (t, n) e) : ∃ (K' : Kp) (L' : List Nat) (M' : Hp), ext K L K' L' ∧ isk K' L' q t n ∧ WOK cy K' L' M' ∧ va_P D vwCl (E ++ va_pl L' M') H ∧ va_D A (E ++ va_pl L' M') ∧ M' q = e ∧ (∀ b, b ∈ L → M' b = M b) ∧ q ∉ L ∧ (∀ b, b ∈ L' → b = q ∨ b ∈ L) := by
  have hP' := hP.swap
  have hD' := hD.swap
  have hq := va_pl_fresh2 hD'
  rw [List.append_assoc, va_pl_push hq] at hP' hD'
  exact ⟨va_up K q (t, n), L ++ [q], va_up M q e, ext.push (t, n) hq, isk.new t n, WOK.push t n hW hq (hg _ _ (ext.push (t, n) hq) (isk.new t n)), hP', hD', va_up_self _ _ _, fun b hb => va_up_ne _ _ (fun z => hq (z ▸ hb)), hq, fun b hb => (List.mem_append.mp hb).elim Or.inr (fun z => Or.inl (List.mem_singleton.mp z))⟩
theorem VC.cg {B : Nat → Nat × Nat} {K : Kp} {L : List Nat} {M0 M : Hp} {a : Nat} {X X' : Nat → Int} {Y Y' : Nat → Nat → Int32} (h : VC B K L M0 M a X Y) (e : X = X') (g : Y = Y') : VC B K L M0 M a X' Y' := by rw [← e, ← g]; exact h
theorem SAME.sF0 {K : Kp} {L : List Nat} {M : Hp} {x j t : Nat} {fs : List Value} {v : Value} (hx : M x = .inr (t, fs)) (hw : wtc t j = false) : SAME K L M (sF M x j v) := by
  have g : ∀ t', CVk t' K L M (sF M x j v) := fun t' c hc j' w => by
    by_cases q : t = t'
    · subst q
      exact cVt_sF hx _ c j' (Or.inr (Or.inl (fun z => by subst z; rw [hw] at w; cases w)))
    · exact cVt_sF hx _ c j' (Or.inl q)
  exact ⟨g 2, g 9, g 3, g 6, g 1, g 10, g 4, fun r _ _ _ _ => RFc_sF _ _ _ _ _, fun r _ _ _ _ => IFc_sF _ _ _ _ _, fun r _ _ => ALc_sF _ _ _ _ _⟩
theorem iaddI {A B f : Int32} {a b : Int} (ha : A.toInt = a) (hb : B.toInt = b) (e : f = A + B) (h1 : -2147483648 ≤ a + b) (h2 : a + b < 2147483648) : f.toInt = a + b := by
  rw [e, Int32.toInt_add, ha, hb]
  apply Int.bmod_eq_of_le <;> omega
theorem isubI {A B f : Int32} {a b : Int} (ha : A.toInt = a) (hb : B.toInt = b) (e : f = A - B) (h1 : -2147483648 ≤ a - b) (h2 : a - b < 2147483648) : f.toInt = a - b := by
  rw [e, Int32.toInt_sub, ha, hb]
  apply Int.bmod_eq_of_le <;> omega
theorem max0x {f y : Int32} (e : f = if 0 < y then y else 0) : ∃ j : Nat, j < 2147483648 ∧ ((0 < y.toInt ∧ (j : Int) = y.toInt) ∨ (y.toInt ≤ 0 ∧ j = 0)) ∧ f = nI j := by
  by_cases q : 0 < y
  · rw [if_pos q] at e
    have h1 := Int32.lt_iff_toInt_lt.mp q
    rw [show (0 : Int32).toInt = 0 from rfl] at h1
    have h2 := Int32.toInt_lt y
    exact ⟨y.toInt.toNat, by omega, Or.inl ⟨h1, by omega⟩, by rw [e]; exact i32_of (by omega) (by omega)⟩
  · rw [if_neg q] at e
    have h1 := Int32.le_iff_toInt_le.mp (Int32.not_lt.mp q)
    exact ⟨0, by decide, Or.inr ⟨h1, rfl⟩, e⟩
theorem minx {f y n : Int32} (e : f = if y < n then y else n) : (y.toInt < n.toInt ∧ f.toInt = y.toInt) ∨ (n.toInt ≤ y.toInt ∧ f.toInt = n.toInt) := by
  by_cases q : y < n
  · rw [if_pos q] at e
    exact Or.inl ⟨Int32.lt_iff_toInt_lt.mp q, by rw [e]⟩
  · rw [if_neg q] at e
    exact Or.inr ⟨Int32.le_iff_toInt_le.mp (Int32.not_lt.mp q), by rw [e]⟩
theorem fm60n {x m : Int32} (e : m = x - x / 60 * 60) (h0 : 0 ≤ x.toInt) : m = nI (x.toInt.toNat % 60) := by
  have hm := rem60 x
  rw [← e, Int.tmod_eq_emod_of_nonneg h0] at hm
  exact i32_of (by omega) (by omega)
theorem iltI {A B : Int32} {a b : Int} (ha : A.toInt = a) (hb : B.toInt = b) (h : A < B) : a < b := by rw [← ha, ← hb]; exact Int32.lt_iff_toInt_lt.mp h
theorem ileI {A B : Int32} {a b : Int} (ha : A.toInt = a) (hb : B.toInt = b) (h : A ≤ B) : a ≤ b := by rw [← ha, ← hb]; exact Int32.le_iff_toInt_le.mp h
theorem inltI {A B : Int32} {a b : Int} (ha : A.toInt = a) (hb : B.toInt = b) (h : ¬ A < B) : b ≤ a := by rw [← ha, ← hb]; exact Int32.le_iff_toInt_le.mp (Int32.not_lt.mp h)
theorem inleI {A B : Int32} {a b : Int} (ha : A.toInt = a) (hb : B.toInt = b) (h : ¬ A ≤ B) : b < a := by rw [← ha, ← hb]; exact Int32.lt_iff_toInt_lt.mp (Int32.not_le.mp h)
theorem ieqI {A B : Int32} {a b : Int} (ha : A.toInt = a) (hb : B.toInt = b) (h : A = B) : a = b := by rw [← ha, ← hb, h]
theorem ineI {A B : Int32} {a b : Int} (ha : A.toInt = a) (hb : B.toInt = b) (h : ¬ A = B) : a ≠ b := fun q => h (Int32.toInt.inj (by rw [ha, hb, q]))
theorem clT {A : Int32} (h : 0 ≤ A.toInt) : (A.toNatClampNeg : Int) = A.toInt := Int.toNat_of_nonneg h
set_option maxHeartbeats 4000000 in
set_option maxRecDepth 100000 in
theorem e_X11_isSeat (l : Launch) (D : va_G) (cy : Nat → ClassId) (K : Kp) (L : List Nat) (M : Hp) (sz : Nat) (k1 : Int32) (hW : WOK cy K L M)  : Met l yX11_isSeat (wsM yX11_isSeat cX11_isSeat 1 (some .boolean)) ({ frames := 0, cells := 0, slots := 0, locals := 0 }) (va_Pc [.int k1] (PG D cy [] L M sz)) (va_Qi (fun (r : Int32) (_ : Unit) => (r = 1 ∧ (0 ≤ k1.toInt ∧ k1.toInt < 6) ∧ ¬ k1 < 0 ∧ ¬ 6 ≤ k1) ∨ (r = 0 ∧ ¬ (0 ≤ k1.toInt ∧ k1.toInt < 6))) (fun _ t => PQ D [] L M (va_A ([] ++ va_pl L M) sz) t) (va_A ([] ++ va_pl L M) sz)) 0 0 (va_A ([] ++ va_pl L M) sz) := by
  refine Met.ofW (cc := cX11_isSeat) (maxL := 1) (ret := (some .boolean)) (by decide) rfl ?_
  intro p e s m args below meth c s₁ B hml hv
  obtain ⟨rfl, hsz, hP, hK, hD0, hN⟩ := hv
  have hx := B.exec
  have hb := B.bytes
  have hr := B.returns
  have hts := atoms_spec (ws := (wsM yX11_isSeat cX11_isSeat 1 (some .boolean))) B.pre
  have hg : ∀ w ∈ lw_good, w.before _ s = true := fun w h => hts w (List.mem_cons_of_mem _ h)
  have hown : s.vm.findClass RX11 = some m.cls := findClass_of_methodNamed B.named
  have hlocks := B.notSynchronized
  subst hsz
  have hD := hD0.self (sz := s.heap.size)
  generalize hAe : va_A ([] ++ va_pl L M) s.heap.size = A at hD ⊢
  have hA : ∀ q : Nat, s.heap.size ≤ q → A q := fun q h => by rw [← hAe]; exact Or.inr h
  have hS : va_S A s.heap s.heap [] := va_S.rf
  have hl := lv_entry ([.int k1]) (n := 1) (Nat.le_of_ble_eq_true rfl)
  rw [lg_entry_eq]
  generalize (lg_sl ([.int k1]) ++ List.replicate (1 - (lg_sl ([.int k1])).length) Slot.unset).toArray = ls at hl ⊢
  refine W.nameQ (fun Q hQ => ?_)
  refine W.nameR (fun R hR => ?_)
  have hRf : 0 ≤ R.frames := by rw [hR]; exact Nat.le_of_ble_eq_true rfl
  have hRl : 0 ≤ R.locals := by rw [hR]; exact Nat.le_of_ble_eq_true rfl
  have hRc : 0 ≤ R.cells := by rw [hR]; exact Nat.le_of_ble_eq_true rfl
  have hRs : 0 ≤ R.slots := by rw [hR]; exact Nat.le_of_ble_eq_true rfl
  have hl : lv_has ls 1 [(0, .int k1)] := hl
  refine lv_iload_n hx hb dX11_isSeat_0 rfl (lv_at hl 0 rfl) ?_
  refine lv_if_lt (tgt := 14) hx hb dX11_isSeat_1 (by decide) (fun c_1 => ?_) (fun c_1 => ?_)
  · have hz := rfl (a := 0)
    refine lv_iconst (v := 0) hx hb dX11_isSeat_14 (by decide) ?_
    have hI_2 : (k1 : Int32).toInt < (0 : Int) := iltI rfl rfl c_1
    rw [hQ]
    exact W.zret (v := 0) hx hb hr rfl (fun t ht hW9 => ⟨⟨0, (), rfl, (Or.inr ⟨rfl, by omega⟩), ⟨by rw [ht]; exact hP, hD⟩⟩, hS.F ht⟩) hS.2.2 dX11_isSeat_15
  · have hz := rfl (a := 0)
    refine lv_iload_n hx hb dX11_isSeat_4 rfl (lv_at hl 0 rfl) ?_
    refine lv_bipush (v := 6) hx hb dX11_isSeat_5 (by decide) ?_
    refine lv_icmp_ge (tgt := 14) hx hb dX11_isSeat_7 (by decide) (fun c_3 => ?_) (fun c_3 => ?_)
    · have hz := rfl (a := 0)
      refine lv_iconst (v := 0) hx hb dX11_isSeat_14 (by decide) ?_
      have hI_4 : (0 : Int) ≤ (k1 : Int32).toInt := inltI rfl rfl c_1
      have hI_5 : (6 : Int) ≤ (k1 : Int32).toInt := ileI rfl rfl c_3
      rw [hQ]
      exact W.zret (v := 0) hx hb hr rfl (fun t ht hW9 => ⟨⟨0, (), rfl, (Or.inr ⟨rfl, by omega⟩), ⟨by rw [ht]; exact hP, hD⟩⟩, hS.F ht⟩) hS.2.2 dX11_isSeat_15
    · have hz := rfl (a := 0)
      refine lv_iconst (v := 1) hx hb dX11_isSeat_10 (by decide) ?_
      refine lv_goto (tgt := 15) hx hb dX11_isSeat_11 (by decide) ?_
      have hI_6 : (0 : Int) ≤ (k1 : Int32).toInt := inltI rfl rfl c_1
      have hI_7 : (k1 : Int32).toInt < (6 : Int) := inleI rfl rfl c_3
      rw [hQ]
      exact W.zret (v := 1) hx hb hr rfl (fun t ht hW9 => ⟨⟨1, (), rfl, (Or.inl ⟨rfl, by omega, c_1, c_3⟩), ⟨by rw [ht]; exact hP, hD⟩⟩, hS.F ht⟩) hS.2.2 dX11_isSeat_15
set_option maxHeartbeats 4000000 in
set_option maxRecDepth 100000 in
theorem e_X11_isDay (l : Launch) (D : va_G) (cy : Nat → ClassId) (K : Kp) (L : List Nat) (M : Hp) (sz : Nat) (k1 : Int32) (hW : WOK cy K L M)  : Met l yX11_isDay (wsM yX11_isDay cX11_isDay 1 (some .boolean)) ({ frames := 0, cells := 0, slots := 0, locals := 0 }) (va_Pc [.int k1] (PG D cy [] L M sz)) (va_Qi (fun (r : Int32) (_ : Unit) => (r = 1 ∧ (0 ≤ k1.toInt ∧ k1.toInt ≤ 999) ∧ ¬ k1 < 0 ∧ ¬ 999 < k1) ∨ (r = 0 ∧ ¬ (0 ≤ k1.toInt ∧ k1.toInt ≤ 999))) (fun _ t => PQ D [] L M (va_A ([] ++ va_pl L M) sz) t) (va_A ([] ++ va_pl L M) sz)) 0 0 (va_A ([] ++ va_pl L M) sz) := by
  refine Met.ofW (cc := cX11_isDay) (maxL := 1) (ret := (some .boolean)) (by decide) rfl ?_
  intro p e s m args below meth c s₁ B hml hv
  obtain ⟨rfl, hsz, hP, hK, hD0, hN⟩ := hv
  have hx := B.exec
  have hb := B.bytes
  have hr := B.returns
  have hts := atoms_spec (ws := (wsM yX11_isDay cX11_isDay 1 (some .boolean))) B.pre
  have hg : ∀ w ∈ lw_good, w.before _ s = true := fun w h => hts w (List.mem_cons_of_mem _ h)
  have hown : s.vm.findClass RX11 = some m.cls := findClass_of_methodNamed B.named
  have hlocks := B.notSynchronized
  subst hsz
  have hD := hD0.self (sz := s.heap.size)
  generalize hAe : va_A ([] ++ va_pl L M) s.heap.size = A at hD ⊢
  have hA : ∀ q : Nat, s.heap.size ≤ q → A q := fun q h => by rw [← hAe]; exact Or.inr h
  have hS : va_S A s.heap s.heap [] := va_S.rf
  have hl := lv_entry ([.int k1]) (n := 1) (Nat.le_of_ble_eq_true rfl)
  rw [lg_entry_eq]
  generalize (lg_sl ([.int k1]) ++ List.replicate (1 - (lg_sl ([.int k1])).length) Slot.unset).toArray = ls at hl ⊢
  refine W.nameQ (fun Q hQ => ?_)
  refine W.nameR (fun R hR => ?_)
  have hRf : 0 ≤ R.frames := by rw [hR]; exact Nat.le_of_ble_eq_true rfl
  have hRl : 0 ≤ R.locals := by rw [hR]; exact Nat.le_of_ble_eq_true rfl
  have hRc : 0 ≤ R.cells := by rw [hR]; exact Nat.le_of_ble_eq_true rfl
  have hRs : 0 ≤ R.slots := by rw [hR]; exact Nat.le_of_ble_eq_true rfl
  have hl : lv_has ls 1 [(0, .int k1)] := hl
  refine lv_iload_n hx hb dX11_isDay_0 rfl (lv_at hl 0 rfl) ?_
  refine lv_if_lt (tgt := 15) hx hb dX11_isDay_1 (by decide) (fun c_1 => ?_) (fun c_1 => ?_)
  · have hz := rfl (a := 0)
    refine lv_iconst (v := 0) hx hb dX11_isDay_15 (by decide) ?_
    have hI_2 : (k1 : Int32).toInt < (0 : Int) := iltI rfl rfl c_1
    rw [hQ]
    exact W.zret (v := 0) hx hb hr rfl (fun t ht hW9 => ⟨⟨0, (), rfl, (Or.inr ⟨rfl, by omega⟩), ⟨by rw [ht]; exact hP, hD⟩⟩, hS.F ht⟩) hS.2.2 dX11_isDay_16
  · have hz := rfl (a := 0)
    refine lv_iload_n hx hb dX11_isDay_4 rfl (lv_at hl 0 rfl) ?_
    refine lv_sipush (v := 999) hx hb dX11_isDay_5 (by decide) ?_
    refine lv_icmp_gt (tgt := 15) hx hb dX11_isDay_8 (by decide) (fun c_3 => ?_) (fun c_3 => ?_)
    · have hz := rfl (a := 0)
      refine lv_iconst (v := 0) hx hb dX11_isDay_15 (by decide) ?_
      have hI_4 : (0 : Int) ≤ (k1 : Int32).toInt := inltI rfl rfl c_1
      have hI_5 : (999 : Int) < (k1 : Int32).toInt := iltI rfl rfl c_3
      rw [hQ]
      exact W.zret (v := 0) hx hb hr rfl (fun t ht hW9 => ⟨⟨0, (), rfl, (Or.inr ⟨rfl, by omega⟩), ⟨by rw [ht]; exact hP, hD⟩⟩, hS.F ht⟩) hS.2.2 dX11_isDay_16
    · have hz := rfl (a := 0)
      refine lv_iconst (v := 1) hx hb dX11_isDay_11 (by decide) ?_
      refine lv_goto (tgt := 16) hx hb dX11_isDay_12 (by decide) ?_
      have hI_6 : (0 : Int) ≤ (k1 : Int32).toInt := inltI rfl rfl c_1
      have hI_7 : (k1 : Int32).toInt ≤ (999 : Int) := inltI rfl rfl c_3
      rw [hQ]
      exact W.zret (v := 1) hx hb hr rfl (fun t ht hW9 => ⟨⟨1, (), rfl, (Or.inl ⟨rfl, by omega, c_1, c_3⟩), ⟨by rw [ht]; exact hP, hD⟩⟩, hS.F ht⟩) hS.2.2 dX11_isDay_16
set_option maxHeartbeats 4000000 in
set_option maxRecDepth 100000 in
theorem e_X11_isSum (l : Launch) (D : va_G) (cy : Nat → ClassId) (K : Kp) (L : List Nat) (M : Hp) (sz : Nat) (k1 : Int32) (hW : WOK cy K L M)  : Met l yX11_isSum (wsM yX11_isSum cX11_isSum 1 (some .boolean)) ({ frames := 0, cells := 0, slots := 0, locals := 0 }) (va_Pc [.int k1] (PG D cy [] L M sz)) (va_Qi (fun (r : Int32) (_ : Unit) => (r = 1 ∧ (1 ≤ k1.toInt ∧ k1.toInt ≤ 1000000000)) ∨ (r = 0 ∧ ¬ (1 ≤ k1.toInt ∧ k1.toInt ≤ 1000000000))) (fun _ t => PQ D [] L M (va_A ([] ++ va_pl L M) sz) t) (va_A ([] ++ va_pl L M) sz)) 0 0 (va_A ([] ++ va_pl L M) sz) := by
  refine Met.ofW (cc := cX11_isSum) (maxL := 1) (ret := (some .boolean)) (by decide) rfl ?_
  intro p e s m args below meth c s₁ B hml hv
  obtain ⟨rfl, hsz, hP, hK, hD0, hN⟩ := hv
  have hx := B.exec
  have hb := B.bytes
  have hr := B.returns
  have hts := atoms_spec (ws := (wsM yX11_isSum cX11_isSum 1 (some .boolean))) B.pre
  have hg : ∀ w ∈ lw_good, w.before _ s = true := fun w h => hts w (List.mem_cons_of_mem _ h)
  have hown : s.vm.findClass RX11 = some m.cls := findClass_of_methodNamed B.named
  have hlocks := B.notSynchronized
  subst hsz
  have hD := hD0.self (sz := s.heap.size)
  generalize hAe : va_A ([] ++ va_pl L M) s.heap.size = A at hD ⊢
  have hA : ∀ q : Nat, s.heap.size ≤ q → A q := fun q h => by rw [← hAe]; exact Or.inr h
  have hS : va_S A s.heap s.heap [] := va_S.rf
  have hl := lv_entry ([.int k1]) (n := 1) (Nat.le_of_ble_eq_true rfl)
  rw [lg_entry_eq]
  generalize (lg_sl ([.int k1]) ++ List.replicate (1 - (lg_sl ([.int k1])).length) Slot.unset).toArray = ls at hl ⊢
  refine W.nameQ (fun Q hQ => ?_)
  refine W.nameR (fun R hR => ?_)
  have hRf : 0 ≤ R.frames := by rw [hR]; exact Nat.le_of_ble_eq_true rfl
  have hRl : 0 ≤ R.locals := by rw [hR]; exact Nat.le_of_ble_eq_true rfl
  have hRc : 0 ≤ R.cells := by rw [hR]; exact Nat.le_of_ble_eq_true rfl
  have hRs : 0 ≤ R.slots := by rw [hR]; exact Nat.le_of_ble_eq_true rfl
  have hl : lv_has ls 1 [(0, .int k1)] := hl
  refine lv_iload_n hx hb dX11_isSum_0 rfl (lv_at hl 0 rfl) ?_
  refine lv_iconst (v := 1) hx hb dX11_isSum_1 (by decide) ?_
  refine lv_icmp_lt (tgt := 15) hx hb dX11_isSum_2 (by decide) (fun c_1 => ?_) (fun c_1 => ?_)
  · have hz := rfl (a := 0)
    refine lv_iconst (v := 0) hx hb dX11_isSum_15 (by decide) ?_
    have hI_2 : (k1 : Int32).toInt < (1 : Int) := iltI rfl rfl c_1
    rw [hQ]
    exact W.zret (v := 0) hx hb hr rfl (fun t ht hW9 => ⟨⟨0, (), rfl, (Or.inr ⟨rfl, by omega⟩), ⟨by rw [ht]; exact hP, hD⟩⟩, hS.F ht⟩) hS.2.2 dX11_isSum_16
  · have hz := rfl (a := 0)
    refine lv_iload_n hx hb dX11_isSum_5 rfl (lv_at hl 0 rfl) ?_
    refine lv_ldc (v := 1000000000) hx hb hown (hg _ wd_0) dX11_isSum_6 ?_
    refine lv_icmp_gt (tgt := 15) hx hb dX11_isSum_8 (by decide) (fun c_3 => ?_) (fun c_3 => ?_)
    · have hz := rfl (a := 0)
      refine lv_iconst (v := 0) hx hb dX11_isSum_15 (by decide) ?_
      have hI_4 : (1 : Int) ≤ (k1 : Int32).toInt := inltI rfl rfl c_1
      have hI_5 : (1000000000 : Int) < (k1 : Int32).toInt := iltI rfl rfl c_3
      rw [hQ]
      exact W.zret (v := 0) hx hb hr rfl (fun t ht hW9 => ⟨⟨0, (), rfl, (Or.inr ⟨rfl, by omega⟩), ⟨by rw [ht]; exact hP, hD⟩⟩, hS.F ht⟩) hS.2.2 dX11_isSum_16
    · have hz := rfl (a := 0)
      refine lv_iconst (v := 1) hx hb dX11_isSum_11 (by decide) ?_
      refine lv_goto (tgt := 16) hx hb dX11_isSum_12 (by decide) ?_
      have hI_6 : (1 : Int) ≤ (k1 : Int32).toInt := inltI rfl rfl c_1
      have hI_7 : (k1 : Int32).toInt ≤ (1000000000 : Int) := inltI rfl rfl c_3
      rw [hQ]
      exact W.zret (v := 1) hx hb hr rfl (fun t ht hW9 => ⟨⟨1, (), rfl, (Or.inl ⟨rfl, by omega⟩), ⟨by rw [ht]; exact hP, hD⟩⟩, hS.F ht⟩) hS.2.2 dX11_isSum_16
set_option maxHeartbeats 4000000 in
set_option maxRecDepth 100000 in
theorem e_X11_isLimitedKind (l : Launch) (D : va_G) (cy : Nat → ClassId) (K : Kp) (L : List Nat) (M : Hp) (sz : Nat) (k1 : Int32) (hW : WOK cy K L M)  : Met l yX11_isLimitedKind (wsM yX11_isLimitedKind cX11_isLimitedKind 1 (some .boolean)) ({ frames := 0, cells := 0, slots := 0, locals := 0 }) (va_Pc [.int k1] (PG D cy [] L M sz)) (va_Qi (fun (r : Int32) (_ : Unit) => (r = 1 ∧ (k1.toInt = 1 ∨ k1.toInt = 2 ∨ k1.toInt = 4)) ∨ (r = 0 ∧ ¬ (k1.toInt = 1 ∨ k1.toInt = 2 ∨ k1.toInt = 4))) (fun _ t => PQ D [] L M (va_A ([] ++ va_pl L M) sz) t) (va_A ([] ++ va_pl L M) sz)) 0 0 (va_A ([] ++ va_pl L M) sz) := by
  refine Met.ofW (cc := cX11_isLimitedKind) (maxL := 1) (ret := (some .boolean)) (by decide) rfl ?_
  intro p e s m args below meth c s₁ B hml hv
  obtain ⟨rfl, hsz, hP, hK, hD0, hN⟩ := hv
  have hx := B.exec
  have hb := B.bytes
  have hr := B.returns
  have hts := atoms_spec (ws := (wsM yX11_isLimitedKind cX11_isLimitedKind 1 (some .boolean))) B.pre
  have hg : ∀ w ∈ lw_good, w.before _ s = true := fun w h => hts w (List.mem_cons_of_mem _ h)
  have hown : s.vm.findClass RX11 = some m.cls := findClass_of_methodNamed B.named
  have hlocks := B.notSynchronized
  subst hsz
  have hD := hD0.self (sz := s.heap.size)
  generalize hAe : va_A ([] ++ va_pl L M) s.heap.size = A at hD ⊢
  have hA : ∀ q : Nat, s.heap.size ≤ q → A q := fun q h => by rw [← hAe]; exact Or.inr h
  have hS : va_S A s.heap s.heap [] := va_S.rf
  have hl := lv_entry ([.int k1]) (n := 1) (Nat.le_of_ble_eq_true rfl)
  rw [lg_entry_eq]
  generalize (lg_sl ([.int k1]) ++ List.replicate (1 - (lg_sl ([.int k1])).length) Slot.unset).toArray = ls at hl ⊢
  refine W.nameQ (fun Q hQ => ?_)
  refine W.nameR (fun R hR => ?_)
  have hRf : 0 ≤ R.frames := by rw [hR]; exact Nat.le_of_ble_eq_true rfl
  have hRl : 0 ≤ R.locals := by rw [hR]; exact Nat.le_of_ble_eq_true rfl
  have hRc : 0 ≤ R.cells := by rw [hR]; exact Nat.le_of_ble_eq_true rfl
  have hRs : 0 ≤ R.slots := by rw [hR]; exact Nat.le_of_ble_eq_true rfl
  have hl : lv_has ls 1 [(0, .int k1)] := hl
  refine lv_iload_n hx hb dX11_isLimitedKind_0 rfl (lv_at hl 0 rfl) ?_
  refine lv_iconst (v := 1) hx hb dX11_isLimitedKind_1 (by decide) ?_
  refine lv_icmp_eq (tgt := 15) hx hb dX11_isLimitedKind_2 (by decide) (fun c_1 => ?_) (fun c_1 => ?_)
  · have hz := rfl (a := 0)
    refine lv_iconst (v := 1) hx hb dX11_isLimitedKind_15 (by decide) ?_
    refine lv_goto (tgt := 20) hx hb dX11_isLimitedKind_16 (by decide) ?_
    have hI_2 : (k1 : Int32).toInt = (1 : Int) := ieqI rfl rfl c_1
    rw [hQ]
    exact W.zret (v := 1) hx hb hr rfl (fun t ht hW9 => ⟨⟨1, (), rfl, (Or.inl ⟨rfl, by omega⟩), ⟨by rw [ht]; exact hP, hD⟩⟩, hS.F ht⟩) hS.2.2 dX11_isLimitedKind_20
  · have hz := rfl (a := 0)
    refine lv_iload_n hx hb dX11_isLimitedKind_5 rfl (lv_at hl 0 rfl) ?_
    refine lv_iconst (v := 2) hx hb dX11_isLimitedKind_6 (by decide) ?_
    refine lv_icmp_eq (tgt := 15) hx hb dX11_isLimitedKind_7 (by decide) (fun c_3 => ?_) (fun c_3 => ?_)
    · have hz := rfl (a := 0)
      refine lv_iconst (v := 1) hx hb dX11_isLimitedKind_15 (by decide) ?_
      refine lv_goto (tgt := 20) hx hb dX11_isLimitedKind_16 (by decide) ?_
      have hI_4 : (k1 : Int32).toInt ≠ (1 : Int) := ineI rfl rfl c_1
      have hI_5 : (k1 : Int32).toInt = (2 : Int) := ieqI rfl rfl c_3
      rw [hQ]
      exact W.zret (v := 1) hx hb hr rfl (fun t ht hW9 => ⟨⟨1, (), rfl, (Or.inl ⟨rfl, by omega⟩), ⟨by rw [ht]; exact hP, hD⟩⟩, hS.F ht⟩) hS.2.2 dX11_isLimitedKind_20
    · have hz := rfl (a := 0)
      refine lv_iload_n hx hb dX11_isLimitedKind_10 rfl (lv_at hl 0 rfl) ?_
      refine lv_iconst (v := 4) hx hb dX11_isLimitedKind_11 (by decide) ?_
      refine lv_icmp_ne (tgt := 19) hx hb dX11_isLimitedKind_12 (by decide) (fun c_6 => ?_) (fun c_6 => ?_)
      · have hz := rfl (a := 0)
        refine lv_iconst (v := 0) hx hb dX11_isLimitedKind_19 (by decide) ?_
        have hI_7 : (k1 : Int32).toInt ≠ (1 : Int) := ineI rfl rfl c_1
        have hI_8 : (k1 : Int32).toInt ≠ (2 : Int) := ineI rfl rfl c_3
        have hI_9 : (k1 : Int32).toInt ≠ (4 : Int) := ineI rfl rfl c_6
        rw [hQ]
        exact W.zret (v := 0) hx hb hr rfl (fun t ht hW9 => ⟨⟨0, (), rfl, (Or.inr ⟨rfl, by omega⟩), ⟨by rw [ht]; exact hP, hD⟩⟩, hS.F ht⟩) hS.2.2 dX11_isLimitedKind_20
      · have hz := rfl (a := 0)
        refine lv_iconst (v := 1) hx hb dX11_isLimitedKind_15 (by decide) ?_
        refine lv_goto (tgt := 20) hx hb dX11_isLimitedKind_16 (by decide) ?_
        have hI_10 : (k1 : Int32).toInt ≠ (1 : Int) := ineI rfl rfl c_1
        have hI_11 : (k1 : Int32).toInt ≠ (2 : Int) := ineI rfl rfl c_3
        have hI_12 : (k1 : Int32).toInt = (4 : Int) := ieqI rfl rfl c_6
        rw [hQ]
        exact W.zret (v := 1) hx hb hr rfl (fun t ht hW9 => ⟨⟨1, (), rfl, (Or.inl ⟨rfl, by omega⟩), ⟨by rw [ht]; exact hP, hD⟩⟩, hS.F ht⟩) hS.2.2 dX11_isLimitedKind_20
set_option maxHeartbeats 4000000 in
set_option maxRecDepth 100000 in
theorem e_X9_hasEnded (l : Launch) (D : va_G) (cy : Nat → ClassId) (K : Kp) (L : List Nat) (M : Hp) (sz : Nat) (oa : Nat) (hW : WOK cy K L M) (ia : isk K L oa 9 0) : Met l yX9_hasEnded (wsM yX9_hasEnded cX9_hasEnded 1 (some .boolean)) ({ frames := 0, cells := 0, slots := 0, locals := 0 }) (va_Pc [.ref oa] (PG D cy [] L M sz)) (va_Qi (fun (r : Int32) (_ : Unit) => (r = 1 ∧ ((cV 9 M oa 5).toInt ≠ -1)) ∨ (r = 0 ∧ ¬ ((cV 9 M oa 5).toInt ≠ -1))) (fun _ t => PQ D [] L M (va_A ([] ++ va_pl L M) sz) t) (va_A ([] ++ va_pl L M) sz)) 0 0 (va_A ([] ++ va_pl L M) sz) := by
  refine Met.ofW (cc := cX9_hasEnded) (maxL := 1) (ret := (some .boolean)) (by decide) rfl ?_
  intro p e s m args below meth c s₁ B hml hv
  obtain ⟨rfl, hsz, hP, hK, hD0, hN⟩ := hv
  have hx := B.exec
  have hb := B.bytes
  have hr := B.returns
  have hts := atoms_spec (ws := (wsM yX9_hasEnded cX9_hasEnded 1 (some .boolean))) B.pre
  have hg : ∀ w ∈ lw_good, w.before _ s = true := fun w h => hts w (List.mem_cons_of_mem _ h)
  have hown : s.vm.findClass RX9 = some m.cls := findClass_of_methodNamed B.named
  have hlocks := B.notSynchronized
  subst hsz
  have hD := hD0.self (sz := s.heap.size)
  generalize hAe : va_A ([] ++ va_pl L M) s.heap.size = A at hD ⊢
  have hA : ∀ q : Nat, s.heap.size ≤ q → A q := fun q h => by rw [← hAe]; exact Or.inr h
  have hS : va_S A s.heap s.heap [] := va_S.rf
  have hl := lv_entry ([.ref oa]) (n := 1) (Nat.le_of_ble_eq_true rfl)
  rw [lg_entry_eq]
  generalize (lg_sl ([.ref oa]) ++ List.replicate (1 - (lg_sl ([.ref oa])).length) Slot.unset).toArray = ls at hl ⊢
  refine W.nameQ (fun Q hQ => ?_)
  refine W.nameR (fun R hR => ?_)
  have hRf : 0 ≤ R.frames := by rw [hR]; exact Nat.le_of_ble_eq_true rfl
  have hRl : 0 ≤ R.locals := by rw [hR]; exact Nat.le_of_ble_eq_true rfl
  have hRc : 0 ≤ R.cells := by rw [hR]; exact Nat.le_of_ble_eq_true rfl
  have hRs : 0 ≤ R.slots := by rw [hR]; exact Nat.le_of_ble_eq_true rfl
  have hl : lv_has ls 1 [(0, .ref oa)] := hl
  refine lv_aload_n hx hb dX9_hasEnded_0 rfl (lv_at hl 0 rfl) ?_
  obtain ⟨v1_0, v1_1, v1_2, v1_3, v1_4, v1_5, v1_6, v1_7, v1_8, v1_9, v1_10, v1_11, v1_12, v1_13, v1_14, v1_15, hM1, h1_0, h1_1, h1_4, h1_8⟩ := hW.open_9 ia
  refine pg_get (D := D) (ci := 9) (v := .int v1_5) (C := RX9) (T := TX9) (N := 16) hx hb hg inG9 hown hK hP ia.1 hM1 rfl 5 (by decide) (hg _ wd_5) (fun _ h9 => h9) rfl dX9_hasEnded_1 ?_
  refine lv_iconst (v := (-1)) hx hb dX9_hasEnded_4 (by decide) ?_
  refine lv_icmp_eq (tgt := 12) hx hb dX9_hasEnded_5 (by decide) (fun c_2 => ?_) (fun c_2 => ?_)
  · have hz := rfl (a := 0)
    refine lv_iconst (v := 0) hx hb dX9_hasEnded_12 (by decide) ?_
    have hI_3 : (v1_5 : Int32).toInt = (-1) := ieqI rfl rfl c_2
    have hA_4 : (cV 9 M oa 0).toInt = ((v1_0 : Nat) : Int) := by rw [cV_of hM1 rfl]; exact nI_toInt (by omega)
    have hA_5 : (cV 9 M oa 2).toInt = (v1_2 : Int32).toInt := by rw [cV_of hM1 rfl]
    have hA_6 : (cV 9 M oa 3).toInt = (v1_3 : Int32).toInt := by rw [cV_of hM1 rfl]
    have hA_7 : (cV 9 M oa 4).toInt = (v1_4 : Int32).toInt := by rw [cV_of hM1 rfl]
    have hA_8 : (cV 9 M oa 5).toInt = (v1_5 : Int32).toInt := by rw [cV_of hM1 rfl]
    have hA_9 : (cV 9 M oa 6).toInt = (v1_6 : Int32).toInt := by rw [cV_of hM1 rfl]
    have hA_10 : (cV 9 M oa 7).toInt = (v1_7 : Int32).toInt := by rw [cV_of hM1 rfl]
    rw [hQ]
    exact W.zret (v := 0) hx hb hr rfl (fun t ht hW9 => ⟨⟨0, (), rfl, (Or.inr ⟨rfl, by omega⟩), ⟨by rw [ht]; exact hP, hD⟩⟩, hS.F ht⟩) hS.2.2 dX9_hasEnded_13
  · have hz := rfl (a := 0)
    refine lv_iconst (v := 1) hx hb dX9_hasEnded_8 (by decide) ?_
    refine lv_goto (tgt := 13) hx hb dX9_hasEnded_9 (by decide) ?_
    have hI_11 : (v1_5 : Int32).toInt ≠ (-1) := ineI rfl rfl c_2
    have hA_12 : (cV 9 M oa 0).toInt = ((v1_0 : Nat) : Int) := by rw [cV_of hM1 rfl]; exact nI_toInt (by omega)
    have hA_13 : (cV 9 M oa 2).toInt = (v1_2 : Int32).toInt := by rw [cV_of hM1 rfl]
    have hA_14 : (cV 9 M oa 3).toInt = (v1_3 : Int32).toInt := by rw [cV_of hM1 rfl]
    have hA_15 : (cV 9 M oa 4).toInt = (v1_4 : Int32).toInt := by rw [cV_of hM1 rfl]
    have hA_16 : (cV 9 M oa 5).toInt = (v1_5 : Int32).toInt := by rw [cV_of hM1 rfl]
    have hA_17 : (cV 9 M oa 6).toInt = (v1_6 : Int32).toInt := by rw [cV_of hM1 rfl]
    have hA_18 : (cV 9 M oa 7).toInt = (v1_7 : Int32).toInt := by rw [cV_of hM1 rfl]
    rw [hQ]
    exact W.zret (v := 1) hx hb hr rfl (fun t ht hW9 => ⟨⟨1, (), rfl, (Or.inl ⟨rfl, by omega⟩), ⟨by rw [ht]; exact hP, hD⟩⟩, hS.F ht⟩) hS.2.2 dX9_hasEnded_13
set_option maxHeartbeats 4000000 in
set_option maxRecDepth 100000 in
theorem e_X9_isIn (l : Launch) (D : va_G) (cy : Nat → ClassId) (K : Kp) (L : List Nat) (M : Hp) (sz : Nat) (oa : Nat) (k1 : Int32) (hW : WOK cy K L M) (ia : isk K L oa 9 0) : Met l yX9_isIn (wsM yX9_isIn cX9_isIn 2 (some .boolean)) ({ frames := 0, cells := 0, slots := 0, locals := 0 }) (va_Pc [.ref oa, .int k1] (PG D cy [] L M sz)) (va_Qi (fun (r : Int32) (_ : Unit) => (r = 1 ∧ ((cV 9 M oa 3).toInt ≤ k1.toInt ∧ ((cV 9 M oa 5).toInt = -1 ∨ k1.toInt < (cV 9 M oa 5).toInt))) ∨ (r = 0 ∧ ¬ ((cV 9 M oa 3).toInt ≤ k1.toInt ∧ ((cV 9 M oa 5).toInt = -1 ∨ k1.toInt < (cV 9 M oa 5).toInt)))) (fun _ t => PQ D [] L M (va_A ([] ++ va_pl L M) sz) t) (va_A ([] ++ va_pl L M) sz)) 0 0 (va_A ([] ++ va_pl L M) sz) := by
  refine Met.ofW (cc := cX9_isIn) (maxL := 2) (ret := (some .boolean)) (by decide) rfl ?_
  intro p e s m args below meth c s₁ B hml hv
  obtain ⟨rfl, hsz, hP, hK, hD0, hN⟩ := hv
  have hx := B.exec
  have hb := B.bytes
  have hr := B.returns
  have hts := atoms_spec (ws := (wsM yX9_isIn cX9_isIn 2 (some .boolean))) B.pre
  have hg : ∀ w ∈ lw_good, w.before _ s = true := fun w h => hts w (List.mem_cons_of_mem _ h)
  have hown : s.vm.findClass RX9 = some m.cls := findClass_of_methodNamed B.named
  have hlocks := B.notSynchronized
  subst hsz
  have hD := hD0.self (sz := s.heap.size)
  generalize hAe : va_A ([] ++ va_pl L M) s.heap.size = A at hD ⊢
  have hA : ∀ q : Nat, s.heap.size ≤ q → A q := fun q h => by rw [← hAe]; exact Or.inr h
  have hS : va_S A s.heap s.heap [] := va_S.rf
  have hl := lv_entry ([.ref oa, .int k1]) (n := 2) (Nat.le_of_ble_eq_true rfl)
  rw [lg_entry_eq]
  generalize (lg_sl ([.ref oa, .int k1]) ++ List.replicate (2 - (lg_sl ([.ref oa, .int k1])).length) Slot.unset).toArray = ls at hl ⊢
  refine W.nameQ (fun Q hQ => ?_)
  refine W.nameR (fun R hR => ?_)
  have hRf : 0 ≤ R.frames := by rw [hR]; exact Nat.le_of_ble_eq_true rfl
  have hRl : 0 ≤ R.locals := by rw [hR]; exact Nat.le_of_ble_eq_true rfl
  have hRc : 0 ≤ R.cells := by rw [hR]; exact Nat.le_of_ble_eq_true rfl
  have hRs : 0 ≤ R.slots := by rw [hR]; exact Nat.le_of_ble_eq_true rfl
  have hl : lv_has ls 2 [(0, .ref oa), (1, .int k1)] := hl
  refine lv_iload_n hx hb dX9_isIn_0 rfl (lv_at hl 1 rfl) ?_
  refine lv_aload_n hx hb dX9_isIn_1 rfl (lv_at hl 0 rfl) ?_
  obtain ⟨v1_0, v1_1, v1_2, v1_3, v1_4, v1_5, v1_6, v1_7, v1_8, v1_9, v1_10, v1_11, v1_12, v1_13, v1_14, v1_15, hM1, h1_0, h1_1, h1_4, h1_8⟩ := hW.open_9 ia
  refine pg_get (D := D) (ci := 9) (v := .int v1_3) (C := RX9) (T := TX9) (N := 16) hx hb hg inG9 hown hK hP ia.1 hM1 rfl 3 (by decide) (hg _ wd_6) (fun _ h9 => h9) rfl dX9_isIn_2 ?_
  refine lv_icmp_lt (tgt := 28) hx hb dX9_isIn_5 (by decide) (fun c_2 => ?_) (fun c_2 => ?_)
  · have hz := rfl (a := 0)
    refine lv_iconst (v := 0) hx hb dX9_isIn_28 (by decide) ?_
    have hI_3 : (k1 : Int32).toInt < (v1_3 : Int32).toInt := iltI rfl rfl c_2
    have hA_4 : (cV 9 M oa 0).toInt = ((v1_0 : Nat) : Int) := by rw [cV_of hM1 rfl]; exact nI_toInt (by omega)
    have hA_5 : (cV 9 M oa 2).toInt = (v1_2 : Int32).toInt := by rw [cV_of hM1 rfl]
    have hA_6 : (cV 9 M oa 3).toInt = (v1_3 : Int32).toInt := by rw [cV_of hM1 rfl]
    have hA_7 : (cV 9 M oa 4).toInt = (v1_4 : Int32).toInt := by rw [cV_of hM1 rfl]
    have hA_8 : (cV 9 M oa 5).toInt = (v1_5 : Int32).toInt := by rw [cV_of hM1 rfl]
    have hA_9 : (cV 9 M oa 6).toInt = (v1_6 : Int32).toInt := by rw [cV_of hM1 rfl]
    have hA_10 : (cV 9 M oa 7).toInt = (v1_7 : Int32).toInt := by rw [cV_of hM1 rfl]
    rw [hQ]
    exact W.zret (v := 0) hx hb hr rfl (fun t ht hW9 => ⟨⟨0, (), rfl, (Or.inr ⟨rfl, by omega⟩), ⟨by rw [ht]; exact hP, hD⟩⟩, hS.F ht⟩) hS.2.2 dX9_isIn_29
  · have hz := rfl (a := 0)
    refine lv_aload_n hx hb dX9_isIn_8 rfl (lv_at hl 0 rfl) ?_
    refine pg_get (D := D) (ci := 9) (v := .int v1_5) (C := RX9) (T := TX9) (N := 16) hx hb hg inG9 hown hK hP ia.1 hM1 rfl 5 (by decide) (hg _ wd_5) (fun _ h9 => h9) rfl dX9_isIn_9 ?_
    refine lv_iconst (v := (-1)) hx hb dX9_isIn_12 (by decide) ?_
    refine lv_icmp_eq (tgt := 24) hx hb dX9_isIn_13 (by decide) (fun c_11 => ?_) (fun c_11 => ?_)
    · have hz := rfl (a := 0)
      refine lv_iconst (v := 1) hx hb dX9_isIn_24 (by decide) ?_
      refine lv_goto (tgt := 29) hx hb dX9_isIn_25 (by decide) ?_
      have hI_12 : (v1_3 : Int32).toInt ≤ (k1 : Int32).toInt := inltI rfl rfl c_2
      have hI_13 : (v1_5 : Int32).toInt = (-1) := ieqI rfl rfl c_11
      have hA_14 : (cV 9 M oa 0).toInt = ((v1_0 : Nat) : Int) := by rw [cV_of hM1 rfl]; exact nI_toInt (by omega)
      have hA_15 : (cV 9 M oa 2).toInt = (v1_2 : Int32).toInt := by rw [cV_of hM1 rfl]
      have hA_16 : (cV 9 M oa 3).toInt = (v1_3 : Int32).toInt := by rw [cV_of hM1 rfl]
      have hA_17 : (cV 9 M oa 4).toInt = (v1_4 : Int32).toInt := by rw [cV_of hM1 rfl]
      have hA_18 : (cV 9 M oa 5).toInt = (v1_5 : Int32).toInt := by rw [cV_of hM1 rfl]
      have hA_19 : (cV 9 M oa 6).toInt = (v1_6 : Int32).toInt := by rw [cV_of hM1 rfl]
      have hA_20 : (cV 9 M oa 7).toInt = (v1_7 : Int32).toInt := by rw [cV_of hM1 rfl]
      rw [hQ]
      exact W.zret (v := 1) hx hb hr rfl (fun t ht hW9 => ⟨⟨1, (), rfl, (Or.inl ⟨rfl, by omega⟩), ⟨by rw [ht]; exact hP, hD⟩⟩, hS.F ht⟩) hS.2.2 dX9_isIn_29
    · have hz := rfl (a := 0)
      refine lv_iload_n hx hb dX9_isIn_16 rfl (lv_at hl 1 rfl) ?_
      refine lv_aload_n hx hb dX9_isIn_17 rfl (lv_at hl 0 rfl) ?_
      refine pg_get (D := D) (ci := 9) (v := .int v1_5) (C := RX9) (T := TX9) (N := 16) hx hb hg inG9 hown hK hP ia.1 hM1 rfl 5 (by decide) (hg _ wd_5) (fun _ h9 => h9) rfl dX9_isIn_18 ?_
      refine lv_icmp_ge (tgt := 28) hx hb dX9_isIn_21 (by decide) (fun c_21 => ?_) (fun c_21 => ?_)
      · have hz := rfl (a := 0)
        refine lv_iconst (v := 0) hx hb dX9_isIn_28 (by decide) ?_
        have hI_22 : (v1_3 : Int32).toInt ≤ (k1 : Int32).toInt := inltI rfl rfl c_2
        have hI_23 : (v1_5 : Int32).toInt ≠ (-1) := ineI rfl rfl c_11
        have hI_24 : (v1_5 : Int32).toInt ≤ (k1 : Int32).toInt := ileI rfl rfl c_21
        have hA_25 : (cV 9 M oa 0).toInt = ((v1_0 : Nat) : Int) := by rw [cV_of hM1 rfl]; exact nI_toInt (by omega)
        have hA_26 : (cV 9 M oa 2).toInt = (v1_2 : Int32).toInt := by rw [cV_of hM1 rfl]
        have hA_27 : (cV 9 M oa 3).toInt = (v1_3 : Int32).toInt := by rw [cV_of hM1 rfl]
        have hA_28 : (cV 9 M oa 4).toInt = (v1_4 : Int32).toInt := by rw [cV_of hM1 rfl]
        have hA_29 : (cV 9 M oa 5).toInt = (v1_5 : Int32).toInt := by rw [cV_of hM1 rfl]
        have hA_30 : (cV 9 M oa 6).toInt = (v1_6 : Int32).toInt := by rw [cV_of hM1 rfl]
        have hA_31 : (cV 9 M oa 7).toInt = (v1_7 : Int32).toInt := by rw [cV_of hM1 rfl]
        rw [hQ]
        exact W.zret (v := 0) hx hb hr rfl (fun t ht hW9 => ⟨⟨0, (), rfl, (Or.inr ⟨rfl, by omega⟩), ⟨by rw [ht]; exact hP, hD⟩⟩, hS.F ht⟩) hS.2.2 dX9_isIn_29
      · have hz := rfl (a := 0)
        refine lv_iconst (v := 1) hx hb dX9_isIn_24 (by decide) ?_
        refine lv_goto (tgt := 29) hx hb dX9_isIn_25 (by decide) ?_
        have hI_32 : (v1_3 : Int32).toInt ≤ (k1 : Int32).toInt := inltI rfl rfl c_2
        have hI_33 : (v1_5 : Int32).toInt ≠ (-1) := ineI rfl rfl c_11
        have hI_34 : (k1 : Int32).toInt < (v1_5 : Int32).toInt := inleI rfl rfl c_21
        have hA_35 : (cV 9 M oa 0).toInt = ((v1_0 : Nat) : Int) := by rw [cV_of hM1 rfl]; exact nI_toInt (by omega)
        have hA_36 : (cV 9 M oa 2).toInt = (v1_2 : Int32).toInt := by rw [cV_of hM1 rfl]
        have hA_37 : (cV 9 M oa 3).toInt = (v1_3 : Int32).toInt := by rw [cV_of hM1 rfl]
        have hA_38 : (cV 9 M oa 4).toInt = (v1_4 : Int32).toInt := by rw [cV_of hM1 rfl]
        have hA_39 : (cV 9 M oa 5).toInt = (v1_5 : Int32).toInt := by rw [cV_of hM1 rfl]
        have hA_40 : (cV 9 M oa 6).toInt = (v1_6 : Int32).toInt := by rw [cV_of hM1 rfl]
        have hA_41 : (cV 9 M oa 7).toInt = (v1_7 : Int32).toInt := by rw [cV_of hM1 rfl]
        rw [hQ]
        exact W.zret (v := 1) hx hb hr rfl (fun t ht hW9 => ⟨⟨1, (), rfl, (Or.inl ⟨rfl, by omega⟩), ⟨by rw [ht]; exact hP, hD⟩⟩, hS.F ht⟩) hS.2.2 dX9_isIn_29
set_option maxHeartbeats 4000000 in
set_option maxRecDepth 100000 in
theorem e_X3_lacksEntries (l : Launch) (D : va_G) (cy : Nat → ClassId) (K : Kp) (L : List Nat) (M : Hp) (sz : Nat) (oa : Nat) (xn : Nat) (x0 : Int32) (x1 : Nat) (x2 : Nat) (hW : WOK cy K L M) (ia : isk K L oa 3 0) (hMo : M oa = (b3_3 x0 x1 (nI x2))) (ho1 : isk K L x1 53 xn) (ho2 : x2 ≤ xn) (hoe0 : xn ≤ 6) : Met l yX3_lacksEntries (wsM yX3_lacksEntries cX3_lacksEntries 1 (some .boolean)) ({ frames := 0, cells := 0, slots := 0, locals := 0 }) (va_Pc [.ref oa] (PG D cy [] L M sz)) (va_Qi (fun (r : Int32) (_ : Unit) => (r = 1 ∧ ((cV 3 M oa 2).toInt < (ALc (M (rA 3 M oa 1)) : Int)) ∧ x2 < xn) ∨ (r = 0 ∧ ¬ ((cV 3 M oa 2).toInt < (ALc (M (rA 3 M oa 1)) : Int)))) (fun _ t => PQ D [] L M (va_A ([] ++ va_pl L M) sz) t) (va_A ([] ++ va_pl L M) sz)) 0 0 (va_A ([] ++ va_pl L M) sz) := by
  refine Met.ofW (cc := cX3_lacksEntries) (maxL := 1) (ret := (some .boolean)) (by decide) rfl ?_
  intro p e s m args below meth c s₁ B hml hv
  obtain ⟨rfl, hsz, hP, hK, hD0, hN⟩ := hv
  have hx := B.exec
  have hb := B.bytes
  have hr := B.returns
  have hts := atoms_spec (ws := (wsM yX3_lacksEntries cX3_lacksEntries 1 (some .boolean))) B.pre
  have hg : ∀ w ∈ lw_good, w.before _ s = true := fun w h => hts w (List.mem_cons_of_mem _ h)
  have hown : s.vm.findClass RX3 = some m.cls := findClass_of_methodNamed B.named
  have hlocks := B.notSynchronized
  subst hsz
  have hD := hD0.self (sz := s.heap.size)
  generalize hAe : va_A ([] ++ va_pl L M) s.heap.size = A at hD ⊢
  have hA : ∀ q : Nat, s.heap.size ≤ q → A q := fun q h => by rw [← hAe]; exact Or.inr h
  have hS : va_S A s.heap s.heap [] := va_S.rf
  have hl := lv_entry ([.ref oa]) (n := 1) (Nat.le_of_ble_eq_true rfl)
  rw [lg_entry_eq]
  generalize (lg_sl ([.ref oa]) ++ List.replicate (1 - (lg_sl ([.ref oa])).length) Slot.unset).toArray = ls at hl ⊢
  refine W.nameQ (fun Q hQ => ?_)
  refine W.nameR (fun R hR => ?_)
  have hRf : 0 ≤ R.frames := by rw [hR]; exact Nat.le_of_ble_eq_true rfl
  have hRl : 0 ≤ R.locals := by rw [hR]; exact Nat.le_of_ble_eq_true rfl
  have hRc : 0 ≤ R.cells := by rw [hR]; exact Nat.le_of_ble_eq_true rfl
  have hRs : 0 ≤ R.slots := by rw [hR]; exact Nat.le_of_ble_eq_true rfl
  have hl : lv_has ls 1 [(0, .ref oa)] := hl
  refine lv_aload_n hx hb dX3_lacksEntries_0 rfl (lv_at hl 0 rfl) ?_
  refine pg_get (D := D) (ci := 3) (v := .int (nI x2)) (C := RX3) (T := TX3) (N := 3) hx hb hg inG3 hown hK hP ia.1 hMo rfl 2 (by decide) (hg _ wd_33) (fun _ h9 => h9) rfl dX3_lacksEntries_1 ?_
  refine lv_aload_n hx hb dX3_lacksEntries_4 rfl (lv_at hl 0 rfl) ?_
  refine pg_get (D := D) (ci := 3) (v := .ref x1) (C := RX3) (T := TX3) (N := 3) hx hb hg inG3 hown hK hP ia.1 hMo rfl 1 (by decide) (hg _ wd_34) (fun _ h9 => h9) rfl dX3_lacksEntries_5 ?_
  obtain ⟨f1, hM1⟩ := hW.open_53 ho1
  refine pg_alen (v := (nI xn)) hx hb hK hP ho1.1 0 hM1 rfl (by rfl) dX3_lacksEntries_8 ?_
  refine lv_icmp_ge (tgt := 16) hx hb dX3_lacksEntries_9 (by decide) (fun c_2 => ?_) (fun c_2 => ?_)
  · have hz := rfl (a := 0)
    have n_3 : xn ≤ x2 := (iLE (a := xn) (b := x2) (by omega) (by omega)).mp c_2
    refine lv_iconst (v := 0) hx hb dX3_lacksEntries_16 (by decide) ?_
    have hI_4 : ((xn : Nat) : Int) ≤ ((x2 : Nat) : Int) := ileI (nI_toInt (by omega)) (nI_toInt (by omega)) c_2
    have hA_5 : (cV 3 M oa 0).toInt = (x0 : Int32).toInt := by rw [cV_of hMo rfl]
    have hA_6 : (ALc (M (rA 3 M oa 1)) : Int) = ((xn : Nat) : Int) := by rw [rA_of hMo rfl, hM1]; rfl
    have hA_7 : (cV 3 M oa 2).toInt = ((x2 : Nat) : Int) := by rw [cV_of hMo rfl]; exact nI_toInt (by omega)
    rw [hQ]
    exact W.zret (v := 0) hx hb hr rfl (fun t ht hW9 => ⟨⟨0, (), rfl, (Or.inr ⟨rfl, by omega⟩), ⟨by rw [ht]; exact hP, hD⟩⟩, hS.F ht⟩) hS.2.2 dX3_lacksEntries_17
  · have hz := rfl (a := 0)
    have n_8 : ¬ (xn ≤ x2) := fun q => c_2 ((iLE (a := xn) (b := x2) (by omega) (by omega)).mpr q)
    refine lv_iconst (v := 1) hx hb dX3_lacksEntries_12 (by decide) ?_
    refine lv_goto (tgt := 17) hx hb dX3_lacksEntries_13 (by decide) ?_
    have hI_9 : ((x2 : Nat) : Int) < ((xn : Nat) : Int) := inleI (nI_toInt (by omega)) (nI_toInt (by omega)) c_2
    have hA_10 : (cV 3 M oa 0).toInt = (x0 : Int32).toInt := by rw [cV_of hMo rfl]
    have hA_11 : (ALc (M (rA 3 M oa 1)) : Int) = ((xn : Nat) : Int) := by rw [rA_of hMo rfl, hM1]; rfl
    have hA_12 : (cV 3 M oa 2).toInt = ((x2 : Nat) : Int) := by rw [cV_of hMo rfl]; exact nI_toInt (by omega)
    rw [hQ]
    exact W.zret (v := 1) hx hb hr rfl (fun t ht hW9 => ⟨⟨1, (), rfl, (Or.inl ⟨rfl, by omega, (by omega)⟩), ⟨by rw [ht]; exact hP, hD⟩⟩, hS.F ht⟩) hS.2.2 dX3_lacksEntries_17
set_option maxHeartbeats 4000000 in
set_option maxRecDepth 100000 in
theorem e_X3_canHold (l : Launch) (D : va_G) (cy : Nat → ClassId) (K : Kp) (L : List Nat) (M : Hp) (sz : Nat) (oa : Nat) (k1 : Int32) (hW : WOK cy K L M) (ia : isk K L oa 3 0) : Met l yX3_canHold (wsM yX3_canHold cX3_canHold 2 (some .boolean)) ({ frames := 0, cells := 0, slots := 0, locals := 0 }) (va_Pc [.ref oa, .int k1] (PG D cy [] L M sz)) (va_Qi (fun (r : Int32) (_ : Unit) => (r = 1 ∧ ((cV 3 M oa 0).toInt ≠ 0 ∨ (-32768 ≤ k1.toInt ∧ k1.toInt ≤ 32767))) ∨ (r = 0 ∧ ¬ ((cV 3 M oa 0).toInt ≠ 0 ∨ (-32768 ≤ k1.toInt ∧ k1.toInt ≤ 32767)))) (fun _ t => PQ D [] L M (va_A ([] ++ va_pl L M) sz) t) (va_A ([] ++ va_pl L M) sz)) 0 0 (va_A ([] ++ va_pl L M) sz) := by
  refine Met.ofW (cc := cX3_canHold) (maxL := 2) (ret := (some .boolean)) (by decide) rfl ?_
  intro p e s m args below meth c s₁ B hml hv
  obtain ⟨rfl, hsz, hP, hK, hD0, hN⟩ := hv
  have hx := B.exec
  have hb := B.bytes
  have hr := B.returns
  have hts := atoms_spec (ws := (wsM yX3_canHold cX3_canHold 2 (some .boolean))) B.pre
  have hg : ∀ w ∈ lw_good, w.before _ s = true := fun w h => hts w (List.mem_cons_of_mem _ h)
  have hown : s.vm.findClass RX3 = some m.cls := findClass_of_methodNamed B.named
  have hlocks := B.notSynchronized
  subst hsz
  have hD := hD0.self (sz := s.heap.size)
  generalize hAe : va_A ([] ++ va_pl L M) s.heap.size = A at hD ⊢
  have hA : ∀ q : Nat, s.heap.size ≤ q → A q := fun q h => by rw [← hAe]; exact Or.inr h
  have hS : va_S A s.heap s.heap [] := va_S.rf
  have hl := lv_entry ([.ref oa, .int k1]) (n := 2) (Nat.le_of_ble_eq_true rfl)
  rw [lg_entry_eq]
  generalize (lg_sl ([.ref oa, .int k1]) ++ List.replicate (2 - (lg_sl ([.ref oa, .int k1])).length) Slot.unset).toArray = ls at hl ⊢
  refine W.nameQ (fun Q hQ => ?_)
  refine W.nameR (fun R hR => ?_)
  have hRf : 0 ≤ R.frames := by rw [hR]; exact Nat.le_of_ble_eq_true rfl
  have hRl : 0 ≤ R.locals := by rw [hR]; exact Nat.le_of_ble_eq_true rfl
  have hRc : 0 ≤ R.cells := by rw [hR]; exact Nat.le_of_ble_eq_true rfl
  have hRs : 0 ≤ R.slots := by rw [hR]; exact Nat.le_of_ble_eq_true rfl
  have hl : lv_has ls 2 [(0, .ref oa), (1, .int k1)] := hl
  refine lv_aload_n hx hb dX3_canHold_0 rfl (lv_at hl 0 rfl) ?_
  obtain ⟨n1, v1_0, v1_1, v1_2, hM1, h1_1, h1_2, y1_0⟩ := hW.open_3 ia
  refine pg_get (D := D) (ci := 3) (v := .int v1_0) (C := RX3) (T := TX3) (N := 3) hx hb hg inG3 hown hK hP ia.1 hM1 rfl 0 (by decide) (hg _ wd_35) (fun _ h9 => h9) rfl dX3_canHold_1 ?_
  refine lv_if_ne (tgt := 21) hx hb dX3_canHold_4 (by decide) (fun c_2 => ?_) (fun c_2 => ?_)
  · have hz := rfl (a := 0)
    refine lv_iconst (v := 1) hx hb dX3_canHold_21 (by decide) ?_
    refine lv_goto (tgt := 26) hx hb dX3_canHold_22 (by decide) ?_
    obtain ⟨f3, hM3⟩ := hW.open_53 h1_1
    have hI_4 : (v1_0 : Int32).toInt ≠ (0 : Int) := ineI rfl rfl c_2
    have hA_5 : (cV 3 M oa 0).toInt = (v1_0 : Int32).toInt := by rw [cV_of hM1 rfl]
    have hA_6 : (ALc (M (rA 3 M oa 1)) : Int) = ((n1 : Nat) : Int) := by rw [rA_of hM1 rfl, hM3]; rfl
    have hA_7 : (cV 3 M oa 2).toInt = ((v1_2 : Nat) : Int) := by rw [cV_of hM1 rfl]; exact nI_toInt (by omega)
    rw [hQ]
    exact W.zret (v := 1) hx hb hr rfl (fun t ht hW9 => ⟨⟨1, (), rfl, (Or.inl ⟨rfl, by omega⟩), ⟨by rw [ht]; exact hP, hD⟩⟩, hS.F ht⟩) hS.2.2 dX3_canHold_26
  · have hz := rfl (a := 0)
    refine lv_iload_n hx hb dX3_canHold_7 rfl (lv_at hl 1 rfl) ?_
    refine lv_sipush (v := (-32768)) hx hb dX3_canHold_8 (by decide) ?_
    refine lv_icmp_lt (tgt := 25) hx hb dX3_canHold_11 (by decide) (fun c_8 => ?_) (fun c_8 => ?_)
    · have hz := rfl (a := 0)
      refine lv_iconst (v := 0) hx hb dX3_canHold_25 (by decide) ?_
      obtain ⟨f9, hM9⟩ := hW.open_53 h1_1
      have hI_10 : (v1_0 : Int32).toInt = (0 : Int) := ieqI rfl rfl c_2
      have hI_11 : (k1 : Int32).toInt < (-32768) := iltI rfl rfl c_8
      have hA_12 : (cV 3 M oa 0).toInt = (v1_0 : Int32).toInt := by rw [cV_of hM1 rfl]
      have hA_13 : (ALc (M (rA 3 M oa 1)) : Int) = ((n1 : Nat) : Int) := by rw [rA_of hM1 rfl, hM9]; rfl
      have hA_14 : (cV 3 M oa 2).toInt = ((v1_2 : Nat) : Int) := by rw [cV_of hM1 rfl]; exact nI_toInt (by omega)
      rw [hQ]
      exact W.zret (v := 0) hx hb hr rfl (fun t ht hW9 => ⟨⟨0, (), rfl, (Or.inr ⟨rfl, by omega⟩), ⟨by rw [ht]; exact hP, hD⟩⟩, hS.F ht⟩) hS.2.2 dX3_canHold_26
    · have hz := rfl (a := 0)
      refine lv_iload_n hx hb dX3_canHold_14 rfl (lv_at hl 1 rfl) ?_
      refine lv_sipush (v := 32767) hx hb dX3_canHold_15 (by decide) ?_
      refine lv_icmp_gt (tgt := 25) hx hb dX3_canHold_18 (by decide) (fun c_15 => ?_) (fun c_15 => ?_)
      · have hz := rfl (a := 0)
        refine lv_iconst (v := 0) hx hb dX3_canHold_25 (by decide) ?_
        obtain ⟨f16, hM16⟩ := hW.open_53 h1_1
        have hI_17 : (v1_0 : Int32).toInt = (0 : Int) := ieqI rfl rfl c_2
        have hI_18 : (-32768) ≤ (k1 : Int32).toInt := inltI rfl rfl c_8
        have hI_19 : (32767 : Int) < (k1 : Int32).toInt := iltI rfl rfl c_15
        have hA_20 : (cV 3 M oa 0).toInt = (v1_0 : Int32).toInt := by rw [cV_of hM1 rfl]
        have hA_21 : (ALc (M (rA 3 M oa 1)) : Int) = ((n1 : Nat) : Int) := by rw [rA_of hM1 rfl, hM16]; rfl
        have hA_22 : (cV 3 M oa 2).toInt = ((v1_2 : Nat) : Int) := by rw [cV_of hM1 rfl]; exact nI_toInt (by omega)
        rw [hQ]
        exact W.zret (v := 0) hx hb hr rfl (fun t ht hW9 => ⟨⟨0, (), rfl, (Or.inr ⟨rfl, by omega⟩), ⟨by rw [ht]; exact hP, hD⟩⟩, hS.F ht⟩) hS.2.2 dX3_canHold_26
      · have hz := rfl (a := 0)
        refine lv_iconst (v := 1) hx hb dX3_canHold_21 (by decide) ?_
        refine lv_goto (tgt := 26) hx hb dX3_canHold_22 (by decide) ?_
        obtain ⟨f23, hM23⟩ := hW.open_53 h1_1
        have hI_24 : (v1_0 : Int32).toInt = (0 : Int) := ieqI rfl rfl c_2
        have hI_25 : (-32768) ≤ (k1 : Int32).toInt := inltI rfl rfl c_8
        have hI_26 : (k1 : Int32).toInt ≤ (32767 : Int) := inltI rfl rfl c_15
        have hA_27 : (cV 3 M oa 0).toInt = (v1_0 : Int32).toInt := by rw [cV_of hM1 rfl]
        have hA_28 : (ALc (M (rA 3 M oa 1)) : Int) = ((n1 : Nat) : Int) := by rw [rA_of hM1 rfl, hM23]; rfl
        have hA_29 : (cV 3 M oa 2).toInt = ((v1_2 : Nat) : Int) := by rw [cV_of hM1 rfl]; exact nI_toInt (by omega)
        rw [hQ]
        exact W.zret (v := 1) hx hb hr rfl (fun t ht hW9 => ⟨⟨1, (), rfl, (Or.inl ⟨rfl, by omega⟩), ⟨by rw [ht]; exact hP, hD⟩⟩, hS.F ht⟩) hS.2.2 dX3_canHold_26
set_option maxHeartbeats 4000000 in
set_option maxRecDepth 100000 in
theorem e_X1_isFull (l : Launch) (D : va_G) (cy : Nat → ClassId) (K : Kp) (L : List Nat) (M : Hp) (sz : Nat) (oa : Nat) (xn : Nat) (x0 : Nat) (x1 : Nat) (x2 : Nat) (x3 : Nat) (hW : WOK cy K L M) (ia : isk K L oa 1 0) (hMo : M oa = (b1_4 x0 x1 x2 (nI x3))) (ho0 : isk K L x0 63 xn) (ho1 : isk K L x1 56 xn) (ho2 : isk K L x2 57 xn) (ho3 : x3 ≤ xn) (hoe0 : xn ≤ 120) : Met l yX1_isFull (wsM yX1_isFull cX1_isFull 1 (some .boolean)) ({ frames := 0, cells := 0, slots := 0, locals := 0 }) (va_Pc [.ref oa] (PG D cy [] L M sz)) (va_Qi (fun (r : Int32) (_ : Unit) => (r = 1 ∧ ((ALc (M (rA 1 M oa 1)) : Int) ≤ (cV 1 M oa 3).toInt)) ∨ (r = 0 ∧ ¬ ((ALc (M (rA 1 M oa 1)) : Int) ≤ (cV 1 M oa 3).toInt) ∧ x3 < xn)) (fun _ t => PQ D [] L M (va_A ([] ++ va_pl L M) sz) t) (va_A ([] ++ va_pl L M) sz)) 0 0 (va_A ([] ++ va_pl L M) sz) := by
  refine Met.ofW (cc := cX1_isFull) (maxL := 1) (ret := (some .boolean)) (by decide) rfl ?_
  intro p e s m args below meth c s₁ B hml hv
  obtain ⟨rfl, hsz, hP, hK, hD0, hN⟩ := hv
  have hx := B.exec
  have hb := B.bytes
  have hr := B.returns
  have hts := atoms_spec (ws := (wsM yX1_isFull cX1_isFull 1 (some .boolean))) B.pre
  have hg : ∀ w ∈ lw_good, w.before _ s = true := fun w h => hts w (List.mem_cons_of_mem _ h)
  have hown : s.vm.findClass RX1 = some m.cls := findClass_of_methodNamed B.named
  have hlocks := B.notSynchronized
  subst hsz
  have hD := hD0.self (sz := s.heap.size)
  generalize hAe : va_A ([] ++ va_pl L M) s.heap.size = A at hD ⊢
  have hA : ∀ q : Nat, s.heap.size ≤ q → A q := fun q h => by rw [← hAe]; exact Or.inr h
  have hS : va_S A s.heap s.heap [] := va_S.rf
  have hl := lv_entry ([.ref oa]) (n := 1) (Nat.le_of_ble_eq_true rfl)
  rw [lg_entry_eq]
  generalize (lg_sl ([.ref oa]) ++ List.replicate (1 - (lg_sl ([.ref oa])).length) Slot.unset).toArray = ls at hl ⊢
  refine W.nameQ (fun Q hQ => ?_)
  refine W.nameR (fun R hR => ?_)
  have hRf : 0 ≤ R.frames := by rw [hR]; exact Nat.le_of_ble_eq_true rfl
  have hRl : 0 ≤ R.locals := by rw [hR]; exact Nat.le_of_ble_eq_true rfl
  have hRc : 0 ≤ R.cells := by rw [hR]; exact Nat.le_of_ble_eq_true rfl
  have hRs : 0 ≤ R.slots := by rw [hR]; exact Nat.le_of_ble_eq_true rfl
  have hl : lv_has ls 1 [(0, .ref oa)] := hl
  refine lv_aload_n hx hb dX1_isFull_0 rfl (lv_at hl 0 rfl) ?_
  refine pg_get (D := D) (ci := 1) (v := .int (nI x3)) (C := RX1) (T := TX1) (N := 4) hx hb hg inG1 hown hK hP ia.1 hMo rfl 3 (by decide) (hg _ wd_118) (fun _ h9 => h9) rfl dX1_isFull_1 ?_
  refine lv_aload_n hx hb dX1_isFull_4 rfl (lv_at hl 0 rfl) ?_
  refine pg_get (D := D) (ci := 1) (v := .ref x1) (C := RX1) (T := TX1) (N := 4) hx hb hg inG1 hown hK hP ia.1 hMo rfl 1 (by decide) (hg _ wd_119) (fun _ h9 => h9) rfl dX1_isFull_5 ?_
  obtain ⟨f1, hM1⟩ := hW.open_56 ho1
  refine pg_alen (v := (nI xn)) hx hb hK hP ho1.1 0 hM1 rfl (by rfl) dX1_isFull_8 ?_
  refine lv_icmp_lt (tgt := 16) hx hb dX1_isFull_9 (by decide) (fun c_2 => ?_) (fun c_2 => ?_)
  · have hz := rfl (a := 0)
    have n_3 : x3 < xn := (iLT (a := x3) (b := xn) (by omega) (by omega)).mp c_2
    refine lv_iconst (v := 0) hx hb dX1_isFull_16 (by decide) ?_
    have hI_4 : ((x3 : Nat) : Int) < ((xn : Nat) : Int) := iltI (nI_toInt (by omega)) (nI_toInt (by omega)) c_2
    have hA_5 : (ALc (M (rA 1 M oa 1)) : Int) = ((xn : Nat) : Int) := by rw [rA_of hMo rfl, hM1]; rfl
    have hA_6 : (cV 1 M oa 3).toInt = ((x3 : Nat) : Int) := by rw [cV_of hMo rfl]; exact nI_toInt (by omega)
    rw [hQ]
    exact W.zret (v := 0) hx hb hr rfl (fun t ht hW9 => ⟨⟨0, (), rfl, (Or.inr ⟨rfl, by omega, (by omega)⟩), ⟨by rw [ht]; exact hP, hD⟩⟩, hS.F ht⟩) hS.2.2 dX1_isFull_17
  · have hz := rfl (a := 0)
    have n_7 : ¬ (x3 < xn) := fun q => c_2 ((iLT (a := x3) (b := xn) (by omega) (by omega)).mpr q)
    refine lv_iconst (v := 1) hx hb dX1_isFull_12 (by decide) ?_
    refine lv_goto (tgt := 17) hx hb dX1_isFull_13 (by decide) ?_
    have hI_8 : ((xn : Nat) : Int) ≤ ((x3 : Nat) : Int) := inltI (nI_toInt (by omega)) (nI_toInt (by omega)) c_2
    have hA_9 : (ALc (M (rA 1 M oa 1)) : Int) = ((xn : Nat) : Int) := by rw [rA_of hMo rfl, hM1]; rfl
    have hA_10 : (cV 1 M oa 3).toInt = ((x3 : Nat) : Int) := by rw [cV_of hMo rfl]; exact nI_toInt (by omega)
    rw [hQ]
    exact W.zret (v := 1) hx hb hr rfl (fun t ht hW9 => ⟨⟨1, (), rfl, (Or.inl ⟨rfl, by omega⟩), ⟨by rw [ht]; exact hP, hD⟩⟩, hS.F ht⟩) hS.2.2 dX1_isFull_17
set_option maxHeartbeats 4000000 in
set_option maxRecDepth 100000 in
theorem e_X2_isFree (l : Launch) (D : va_G) (cy : Nat → ClassId) (K : Kp) (L : List Nat) (M : Hp) (sz : Nat) (oa : Nat) (k1 : Int32) (hW : WOK cy K L M) (ia : isk K L oa 2 0) : Met l yX2_isFree (wsM yX2_isFree cX2_isFree 2 (some .boolean)) ({ frames := 1, cells := 0, slots := 0, locals := 20 }) (va_Pc [.ref oa, .int k1] (PG D cy [] L M sz)) (va_Qi (fun (r : Int32) (_ : Unit) => (r = 1 ∧ ((cV 2 M oa 2).toInt < k1.toInt ∧ 0 ≤ k1.toInt ∧ k1.toInt ≤ 999) ∧ ¬ k1 < 0 ∧ ¬ 999 < k1) ∨ (r = 0 ∧ ¬ ((cV 2 M oa 2).toInt < k1.toInt ∧ 0 ≤ k1.toInt ∧ k1.toInt ≤ 999))) (fun _ t => PQ D [] L M (va_A ([] ++ va_pl L M) sz) t) (va_A ([] ++ va_pl L M) sz)) 0 0 (va_A ([] ++ va_pl L M) sz) := by
  refine Met.ofW (cc := cX2_isFree) (maxL := 2) (ret := (some .boolean)) (by decide) rfl ?_
  intro p e s m args below meth c s₁ B hml hv
  obtain ⟨rfl, hsz, hP, hK, hD0, hN⟩ := hv
  have hx := B.exec
  have hb := B.bytes
  have hr := B.returns
  have hts := atoms_spec (ws := (wsM yX2_isFree cX2_isFree 2 (some .boolean))) B.pre
  have hg : ∀ w ∈ lw_good, w.before _ s = true := fun w h => hts w (List.mem_cons_of_mem _ h)
  have hown : s.vm.findClass RX2 = some m.cls := findClass_of_methodNamed B.named
  have hlocks := B.notSynchronized
  subst hsz
  have hD := hD0.self (sz := s.heap.size)
  generalize hAe : va_A ([] ++ va_pl L M) s.heap.size = A at hD ⊢
  have hA : ∀ q : Nat, s.heap.size ≤ q → A q := fun q h => by rw [← hAe]; exact Or.inr h
  have hS : va_S A s.heap s.heap [] := va_S.rf
  have hl := lv_entry ([.ref oa, .int k1]) (n := 2) (Nat.le_of_ble_eq_true rfl)
  rw [lg_entry_eq]
  generalize (lg_sl ([.ref oa, .int k1]) ++ List.replicate (2 - (lg_sl ([.ref oa, .int k1])).length) Slot.unset).toArray = ls at hl ⊢
  refine W.nameQ (fun Q hQ => ?_)
  refine W.nameR (fun R hR => ?_)
  have hRf : 1 ≤ R.frames := by rw [hR]; exact Nat.le_of_ble_eq_true rfl
  have hRl : 20 ≤ R.locals := by rw [hR]; exact Nat.le_of_ble_eq_true rfl
  have hRc : 0 ≤ R.cells := by rw [hR]; exact Nat.le_of_ble_eq_true rfl
  have hRs : 0 ≤ R.slots := by rw [hR]; exact Nat.le_of_ble_eq_true rfl
  have hl : lv_has ls 2 [(0, .ref oa), (1, .int k1)] := hl
  refine lv_iload_n hx hb dX2_isFree_0 rfl (lv_at hl 1 rfl) ?_
  refine lv_aload_n hx hb dX2_isFree_1 rfl (lv_at hl 0 rfl) ?_
  obtain ⟨v1_0, v1_1, v1_2, v1_3, v1_4, v1_5, v1_6, v1_7, v1_8, v1_9, v1_10, v1_11, v1_12, v1_13, v1_14, v1_15, v1_16, v1_17, v1_18, v1_19, hM1, h1_3, h1_4, h1_5, h1_6, h1_7, h1_8, h1_9, h1_10, h1_11, h1_12, h1_13, h1_16, h1_17, h1_18, h1_19⟩ := hW.open_2 ia
  refine pg_get (D := D) (ci := 2) (v := .int v1_2) (C := RX2) (T := TX2) (N := 20) hx hb hg inG2 hown hK hP ia.1 hM1 rfl 2 (by decide) (hg _ wd_41) (fun _ h9 => h9) rfl dX2_isFree_2 ?_
  refine lv_icmp_le (tgt := 19) hx hb dX2_isFree_5 (by decide) (fun c_2 => ?_) (fun c_2 => ?_)
  · have hz := rfl (a := 0)
    refine lv_iconst (v := 0) hx hb dX2_isFree_19 (by decide) ?_
    have hI_3 : (k1 : Int32).toInt ≤ (v1_2 : Int32).toInt := ileI rfl rfl c_2
    have hA_4 : (cV 2 M oa 0).toInt = (v1_0 : Int32).toInt := by rw [cV_of hM1 rfl]
    have hA_5 : (cV 2 M oa 1).toInt = (v1_1 : Int32).toInt := by rw [cV_of hM1 rfl]
    have hA_6 : (cV 2 M oa 2).toInt = (v1_2 : Int32).toInt := by rw [cV_of hM1 rfl]
    have hA_7 : (cV 2 M oa 4).toInt = ((v1_4 : Nat) : Int) := by rw [cV_of hM1 rfl]; exact nI_toInt (by omega)
    have hA_8 : (cV 2 M oa 5).toInt = ((v1_5 : Nat) : Int) := by rw [cV_of hM1 rfl]; exact nI_toInt (by omega)
    have hA_9 : (cV 2 M oa 9).toInt = ((v1_9 : Nat) : Int) := by rw [cV_of hM1 rfl]; exact nI_toInt (by omega)
    have hA_10 : (cV 2 M oa 11).toInt = ((v1_11 : Nat) : Int) := by rw [cV_of hM1 rfl]; exact nI_toInt (by omega)
    have hA_11 : (cV 2 M oa 15).toInt = (v1_15 : Int32).toInt := by rw [cV_of hM1 rfl]
    rw [hQ]
    exact W.zret (v := 0) hx hb hr rfl (fun t ht hW9 => ⟨⟨0, (), rfl, (Or.inr ⟨rfl, by omega⟩), ⟨by rw [ht]; exact hP, hD⟩⟩, hS.F ht⟩) hS.2.2 dX2_isFree_20
  · have hz := rfl (a := 0)
    refine lv_iload_n hx hb dX2_isFree_8 rfl (lv_at hl 1 rfl) ?_
    have hPc : va_P D vwCl ([] ++ va_pl L M) s.heap := hP
    have hDc : va_D A ([] ++ va_pl L M) := hD
    have hFc : ∀ q, va_A ([] ++ va_pl L M) s.heap.size q → A q := pg_free hDc hS hA
    refine va_calli (va_runSN (As := [.int k1]) (rest := []) ⟨hx, hb, hml, hown, hg⟩ (e_X11_isDay l D cy K L M s.heap.size k1  hW ) ⟨va_cnB 1 hg (gB wd_42) rfl rfl rfl (hN _ (List.mem_of_getElem? (i := 4) rfl) : va_Nw (Cond.methodLinkNest RX2 81 yX11_isDay RX11) s) (hg _ wd_3) (by decide +kernel) ⟨(Nat.le_trans (Nat.le_of_ble_eq_true rfl) hRf), (Nat.le_trans (Nat.le_of_ble_eq_true rfl) hRl)⟩, hg _ wd_43, trivial⟩ ⟨PG.blind, fun U hU hW => ⟨rfl, PG.at hPc hK hDc hN hU hW⟩⟩ rfl rfl hl.1 rfl (lv_room (Nat.le_of_ble_eq_true rfl)) dX2_isFree_9 ⟨(Nat.le_trans (Nat.le_of_ble_eq_true rfl) hRc), (Nat.le_trans (Nat.le_of_ble_eq_true rfl) hRs)⟩) hS (fun q _ h => hFc q h) hFc (fun r_13 M_14 t H_12 locs ht hvm hw hB hz1 hk1 hS => ?_)
    have hp_15 := hw
    obtain ⟨hP1, hD1⟩ := hB
    rw [ht] at hP1
    have hP : va_P D vwCl ([] ++ va_pl L M) H_12 := hP1
    have hD : va_D A ([] ++ va_pl L M) := hD1.mono hFc
    rcases hp_15 with ⟨rfl, c_16, c_17, c_18⟩ | ⟨rfl, c_19⟩
    · have hz := rfl (a := 0)
      refine lv_if_eq (tgt := 19) hx hb dX2_isFree_12 (by decide) (fun c_20 => absurd c_20 (by decide)) (fun _ => ?_)
      refine lv_iconst (v := 1) hx hb dX2_isFree_15 (by decide) ?_
      refine lv_goto (tgt := 20) hx hb dX2_isFree_16 (by decide) ?_
      have hI_21 : (v1_2 : Int32).toInt < (k1 : Int32).toInt := inleI rfl rfl c_2
      have hI_22 : (0 : Int) ≤ (k1 : Int32).toInt := inltI rfl rfl c_17
      have hI_23 : (k1 : Int32).toInt ≤ (999 : Int) := inltI rfl rfl c_18
      have hA_24 : (cV 2 M oa 0).toInt = (v1_0 : Int32).toInt := by rw [cV_of hM1 rfl]
      have hA_25 : (cV 2 M oa 1).toInt = (v1_1 : Int32).toInt := by rw [cV_of hM1 rfl]
      have hA_26 : (cV 2 M oa 2).toInt = (v1_2 : Int32).toInt := by rw [cV_of hM1 rfl]
      have hA_27 : (cV 2 M oa 4).toInt = ((v1_4 : Nat) : Int) := by rw [cV_of hM1 rfl]; exact nI_toInt (by omega)
      have hA_28 : (cV 2 M oa 5).toInt = ((v1_5 : Nat) : Int) := by rw [cV_of hM1 rfl]; exact nI_toInt (by omega)
      have hA_29 : (cV 2 M oa 9).toInt = ((v1_9 : Nat) : Int) := by rw [cV_of hM1 rfl]; exact nI_toInt (by omega)
      have hA_30 : (cV 2 M oa 11).toInt = ((v1_11 : Nat) : Int) := by rw [cV_of hM1 rfl]; exact nI_toInt (by omega)
      have hA_31 : (cV 2 M oa 15).toInt = (v1_15 : Int32).toInt := by rw [cV_of hM1 rfl]
      rw [hQ]
      exact W.zret (v := 1) hx hb hr rfl (fun t ht hW9 => ⟨⟨1, (), rfl, (Or.inl ⟨rfl, by omega, c_17, c_18⟩), ⟨by rw [ht]; exact hP, hD⟩⟩, hS.F ht⟩) hS.2.2 dX2_isFree_20
    · have hz := rfl (a := 0)
      refine lv_if_eq (tgt := 19) hx hb dX2_isFree_12 (by decide) (fun _ => ?_) (fun c_32 => absurd c_32 (by decide))
      refine lv_iconst (v := 0) hx hb dX2_isFree_19 (by decide) ?_
      have hI_33 : (v1_2 : Int32).toInt < (k1 : Int32).toInt := inleI rfl rfl c_2
      have hA_34 : (cV 2 M oa 0).toInt = (v1_0 : Int32).toInt := by rw [cV_of hM1 rfl]
      have hA_35 : (cV 2 M oa 1).toInt = (v1_1 : Int32).toInt := by rw [cV_of hM1 rfl]
      have hA_36 : (cV 2 M oa 2).toInt = (v1_2 : Int32).toInt := by rw [cV_of hM1 rfl]
      have hA_37 : (cV 2 M oa 4).toInt = ((v1_4 : Nat) : Int) := by rw [cV_of hM1 rfl]; exact nI_toInt (by omega)
      have hA_38 : (cV 2 M oa 5).toInt = ((v1_5 : Nat) : Int) := by rw [cV_of hM1 rfl]; exact nI_toInt (by omega)
      have hA_39 : (cV 2 M oa 9).toInt = ((v1_9 : Nat) : Int) := by rw [cV_of hM1 rfl]; exact nI_toInt (by omega)
      have hA_40 : (cV 2 M oa 11).toInt = ((v1_11 : Nat) : Int) := by rw [cV_of hM1 rfl]; exact nI_toInt (by omega)
      have hA_41 : (cV 2 M oa 15).toInt = (v1_15 : Int32).toInt := by rw [cV_of hM1 rfl]
      rw [hQ]
      exact W.zret (v := 0) hx hb hr rfl (fun t ht hW9 => ⟨⟨0, (), rfl, (Or.inr ⟨rfl, by omega⟩), ⟨by rw [ht]; exact hP, hD⟩⟩, hS.F ht⟩) hS.2.2 dX2_isFree_20
set_option maxHeartbeats 4000000 in
set_option maxRecDepth 100000 in
theorem e_X2_tenureAt (l : Launch) (D : va_G) (cy : Nat → ClassId) (K : Kp) (L : List Nat) (M : Hp) (sz : Nat) (oa : Nat) (k1 : Int32) (hW : WOK cy K L M) (ia : isk K L oa 2 0) : Met l yX2_tenureAt (wsM yX2_tenureAt cX2_tenureAt 2 (some (.object "PartnersBook$Tenure"))) ({ frames := 0, cells := 0, slots := 0, locals := 0 }) (va_Pc [.ref oa, .int k1] (PG D cy [] L M sz)) (va_Qq (fun (r : Option Nat) (_ : Unit) => iskN K L r 9 0 ∧ (∀ t9, r = some t9 → (0 ≤ k1.toInt ∧ k1.toInt < (cV 2 M oa 9).toInt ∧ k1.toInt < 24) ∧ RFc (M (rA 2 M oa 8)) k1.toNatClampNeg = some t9) ∧ (r = none → ¬ (0 ≤ k1.toInt ∧ k1.toInt < (cV 2 M oa 9).toInt ∧ k1.toInt < 24) ∨ RFc (M (rA 2 M oa 8)) k1.toNatClampNeg = none)) (fun _ t => PQ D [] L M (va_A ([] ++ va_pl L M) sz) t) (va_A ([] ++ va_pl L M) sz)) 0 0 (va_A ([] ++ va_pl L M) sz) := by
  refine Met.ofW (cc := cX2_tenureAt) (maxL := 2) (ret := (some (.object "PartnersBook$Tenure"))) (by decide) rfl ?_
  intro p e s m args below meth c s₁ B hml hv
  obtain ⟨rfl, hsz, hP, hK, hD0, hN⟩ := hv
  have hx := B.exec
  have hb := B.bytes
  have hr := B.returns
  have hts := atoms_spec (ws := (wsM yX2_tenureAt cX2_tenureAt 2 (some (.object "PartnersBook$Tenure")))) B.pre
  have hg : ∀ w ∈ lw_good, w.before _ s = true := fun w h => hts w (List.mem_cons_of_mem _ h)
  have hown : s.vm.findClass RX2 = some m.cls := findClass_of_methodNamed B.named
  have hlocks := B.notSynchronized
  subst hsz
  have hD := hD0.self (sz := s.heap.size)
  generalize hAe : va_A ([] ++ va_pl L M) s.heap.size = A at hD ⊢
  have hA : ∀ q : Nat, s.heap.size ≤ q → A q := fun q h => by rw [← hAe]; exact Or.inr h
  have hS : va_S A s.heap s.heap [] := va_S.rf
  have hl := lv_entry ([.ref oa, .int k1]) (n := 2) (Nat.le_of_ble_eq_true rfl)
  rw [lg_entry_eq]
  generalize (lg_sl ([.ref oa, .int k1]) ++ List.replicate (2 - (lg_sl ([.ref oa, .int k1])).length) Slot.unset).toArray = ls at hl ⊢
  refine W.nameQ (fun Q hQ => ?_)
  refine W.nameR (fun R hR => ?_)
  have hRf : 0 ≤ R.frames := by rw [hR]; exact Nat.le_of_ble_eq_true rfl
  have hRl : 0 ≤ R.locals := by rw [hR]; exact Nat.le_of_ble_eq_true rfl
  have hRc : 0 ≤ R.cells := by rw [hR]; exact Nat.le_of_ble_eq_true rfl
  have hRs : 0 ≤ R.slots := by rw [hR]; exact Nat.le_of_ble_eq_true rfl
  have hl : lv_has ls 2 [(0, .ref oa), (1, .int k1)] := hl
  refine lv_iload_n hx hb dX2_tenureAt_0 rfl (lv_at hl 1 rfl) ?_
  refine lv_if_lt (tgt := 27) hx hb dX2_tenureAt_1 (by decide) (fun c_1 => ?_) (fun c_1 => ?_)
  · have hz := rfl (a := 0)
    refine lv_null hx hb dX2_tenureAt_27 ?_
    have hI_2 : (k1 : Int32).toInt < (0 : Int) := iltI rfl rfl c_1
    rw [hQ]
    exact W.aret (v := .null) hx hb hr (Or.inl ⟨_, rfl⟩) (Or.inl rfl) (fun t ht hW9 => ⟨⟨none, (), rfl, ⟨iskN.none, ⟨(fun t9 q9 => by cases q9), fun _ => Or.inl (by omega)⟩⟩, ⟨by rw [ht]; exact hP, hD⟩⟩, hS.F ht⟩) hS.2.2 dX2_tenureAt_28
  · have hz := rfl (a := 0)
    refine lv_iload_n hx hb dX2_tenureAt_4 rfl (lv_at hl 1 rfl) ?_
    refine lv_aload_n hx hb dX2_tenureAt_5 rfl (lv_at hl 0 rfl) ?_
    obtain ⟨v3_0, v3_1, v3_2, v3_3, v3_4, v3_5, v3_6, v3_7, v3_8, v3_9, v3_10, v3_11, v3_12, v3_13, v3_14, v3_15, v3_16, v3_17, v3_18, v3_19, hM3, h3_3, h3_4, h3_5, h3_6, h3_7, h3_8, h3_9, h3_10, h3_11, h3_12, h3_13, h3_16, h3_17, h3_18, h3_19⟩ := hW.open_2 ia
    refine pg_get (D := D) (ci := 2) (v := .int (nI v3_9)) (C := RX2) (T := TX2) (N := 20) hx hb hg inG2 hown hK hP ia.1 hM3 rfl 9 (by decide) (hg _ wd_44) (fun _ h9 => h9) rfl dX2_tenureAt_6 ?_
    refine lv_icmp_ge (tgt := 27) hx hb dX2_tenureAt_9 (by decide) (fun c_4 => ?_) (fun c_4 => ?_)
    · have hz := rfl (a := 0)
      refine lv_null hx hb dX2_tenureAt_27 ?_
      have hI_5 : (0 : Int) ≤ (k1 : Int32).toInt := inltI rfl rfl c_1
      have hI_6 : ((v3_9 : Nat) : Int) ≤ (k1 : Int32).toInt := ileI (nI_toInt (by omega)) rfl c_4
      have hA_7 : (cV 2 M oa 0).toInt = (v3_0 : Int32).toInt := by rw [cV_of hM3 rfl]
      have hA_8 : (cV 2 M oa 1).toInt = (v3_1 : Int32).toInt := by rw [cV_of hM3 rfl]
      have hA_9 : (cV 2 M oa 2).toInt = (v3_2 : Int32).toInt := by rw [cV_of hM3 rfl]
      have hA_10 : (cV 2 M oa 4).toInt = ((v3_4 : Nat) : Int) := by rw [cV_of hM3 rfl]; exact nI_toInt (by omega)
      have hA_11 : (cV 2 M oa 5).toInt = ((v3_5 : Nat) : Int) := by rw [cV_of hM3 rfl]; exact nI_toInt (by omega)
      have hA_12 : (cV 2 M oa 9).toInt = ((v3_9 : Nat) : Int) := by rw [cV_of hM3 rfl]; exact nI_toInt (by omega)
      have hA_13 : (cV 2 M oa 11).toInt = ((v3_11 : Nat) : Int) := by rw [cV_of hM3 rfl]; exact nI_toInt (by omega)
      have hA_14 : (cV 2 M oa 15).toInt = (v3_15 : Int32).toInt := by rw [cV_of hM3 rfl]
      rw [hQ]
      exact W.aret (v := .null) hx hb hr (Or.inl ⟨_, rfl⟩) (Or.inl rfl) (fun t ht hW9 => ⟨⟨none, (), rfl, ⟨iskN.none, ⟨(fun t9 q9 => by cases q9), fun _ => Or.inl (by omega)⟩⟩, ⟨by rw [ht]; exact hP, hD⟩⟩, hS.F ht⟩) hS.2.2 dX2_tenureAt_28
    · have hz := rfl (a := 0)
      refine lv_iload_n hx hb dX2_tenureAt_12 rfl (lv_at hl 1 rfl) ?_
      refine lv_bipush (v := 24) hx hb dX2_tenureAt_13 (by decide) ?_
      refine lv_icmp_ge (tgt := 27) hx hb dX2_tenureAt_15 (by decide) (fun c_15 => ?_) (fun c_15 => ?_)
      · have hz := rfl (a := 0)
        refine lv_null hx hb dX2_tenureAt_27 ?_
        have hI_16 : (0 : Int) ≤ (k1 : Int32).toInt := inltI rfl rfl c_1
        have hI_17 : (k1 : Int32).toInt < ((v3_9 : Nat) : Int) := inleI (nI_toInt (by omega)) rfl c_4
        have hI_18 : (24 : Int) ≤ (k1 : Int32).toInt := ileI rfl rfl c_15
        have hA_19 : (cV 2 M oa 0).toInt = (v3_0 : Int32).toInt := by rw [cV_of hM3 rfl]
        have hA_20 : (cV 2 M oa 1).toInt = (v3_1 : Int32).toInt := by rw [cV_of hM3 rfl]
        have hA_21 : (cV 2 M oa 2).toInt = (v3_2 : Int32).toInt := by rw [cV_of hM3 rfl]
        have hA_22 : (cV 2 M oa 4).toInt = ((v3_4 : Nat) : Int) := by rw [cV_of hM3 rfl]; exact nI_toInt (by omega)
        have hA_23 : (cV 2 M oa 5).toInt = ((v3_5 : Nat) : Int) := by rw [cV_of hM3 rfl]; exact nI_toInt (by omega)
        have hA_24 : (cV 2 M oa 9).toInt = ((v3_9 : Nat) : Int) := by rw [cV_of hM3 rfl]; exact nI_toInt (by omega)
        have hA_25 : (cV 2 M oa 11).toInt = ((v3_11 : Nat) : Int) := by rw [cV_of hM3 rfl]; exact nI_toInt (by omega)
        have hA_26 : (cV 2 M oa 15).toInt = (v3_15 : Int32).toInt := by rw [cV_of hM3 rfl]
        rw [hQ]
        exact W.aret (v := .null) hx hb hr (Or.inl ⟨_, rfl⟩) (Or.inl rfl) (fun t ht hW9 => ⟨⟨none, (), rfl, ⟨iskN.none, ⟨(fun t9 q9 => by cases q9), fun _ => Or.inl (by omega)⟩⟩, ⟨by rw [ht]; exact hP, hD⟩⟩, hS.F ht⟩) hS.2.2 dX2_tenureAt_28
      · have hz := rfl (a := 0)
        refine lv_aload_n hx hb dX2_tenureAt_18 rfl (lv_at hl 0 rfl) ?_
        refine pg_get (D := D) (ci := 2) (v := .ref v3_8) (C := RX2) (T := TX2) (N := 20) hx hb hg inG2 hown hK hP ia.1 hM3 rfl 8 (by decide) (hg _ wd_45) (fun _ h9 => h9) rfl dX2_tenureAt_19 ?_
        refine lv_iload_n hx hb dX2_tenureAt_22 rfl (lv_at hl 1 rfl) ?_
        obtain ⟨f27, hM27, hf27⟩ := hW.open_62 h3_8
        have hi_28 : vp_in k1 24 := (inb k1 24 (by omega) c_1 c_15)
        refine pg_aldq hx hb hK hP h3_8.1 8 hM27 rfl hi_28 dX2_tenureAt_23 ?_
        obtain ⟨q_29, ho_30⟩ : ∃ q : Option Nat, q = f27 (k1 : Int32).toNatClampNeg := ⟨_, rfl⟩
        rw [← ho_30]
        have hq_31 : iskN K L q_29 9 0 := by rw [ho_30]; exact hf27 _ (vp_lt hi_28)
        rcases q_29 with _ | bq_29
        · have hz := rfl (a := 0)
          refine lv_goto (tgt := 28) hx hb dX2_tenureAt_24 (by decide) ?_
          have hI_33 : (0 : Int) ≤ (k1 : Int32).toInt := inltI rfl rfl c_1
          have hI_34 : (k1 : Int32).toInt < ((v3_9 : Nat) : Int) := inleI (nI_toInt (by omega)) rfl c_4
          have hI_35 : (k1 : Int32).toInt < (24 : Int) := inleI rfl rfl c_15
          have hA_36 : (cV 2 M oa 0).toInt = (v3_0 : Int32).toInt := by rw [cV_of hM3 rfl]
          have hA_37 : (cV 2 M oa 1).toInt = (v3_1 : Int32).toInt := by rw [cV_of hM3 rfl]
          have hA_38 : (cV 2 M oa 2).toInt = (v3_2 : Int32).toInt := by rw [cV_of hM3 rfl]
          have hA_39 : (cV 2 M oa 4).toInt = ((v3_4 : Nat) : Int) := by rw [cV_of hM3 rfl]; exact nI_toInt (by omega)
          have hA_40 : (cV 2 M oa 5).toInt = ((v3_5 : Nat) : Int) := by rw [cV_of hM3 rfl]; exact nI_toInt (by omega)
          have hA_41 : (cV 2 M oa 9).toInt = ((v3_9 : Nat) : Int) := by rw [cV_of hM3 rfl]; exact nI_toInt (by omega)
          have hA_42 : (cV 2 M oa 11).toInt = ((v3_11 : Nat) : Int) := by rw [cV_of hM3 rfl]; exact nI_toInt (by omega)
          have hA_43 : (cV 2 M oa 15).toInt = (v3_15 : Int32).toInt := by rw [cV_of hM3 rfl]
          rw [hQ]
          exact W.aret (v := .null) hx hb hr (Or.inl ⟨_, rfl⟩) (Or.inl rfl) (fun t ht hW9 => ⟨⟨none, (), rfl, ⟨iskN.none, ⟨(fun t9 q9 => by cases q9), fun _ => Or.inr (by rw [rA_of (j := 8) hM3 rfl, RFc_of hM27]; exact Eq.symm ho_30)⟩⟩, ⟨by rw [ht]; exact hP, hD⟩⟩, hS.F ht⟩) hS.2.2 dX2_tenureAt_28
        · have hb_32 := hq_31 bq_29 rfl
          refine lv_goto (tgt := 28) hx hb dX2_tenureAt_24 (by decide) ?_
          have hI_44 : (0 : Int) ≤ (k1 : Int32).toInt := inltI rfl rfl c_1
          have hI_45 : (k1 : Int32).toInt < ((v3_9 : Nat) : Int) := inleI (nI_toInt (by omega)) rfl c_4
          have hI_46 : (k1 : Int32).toInt < (24 : Int) := inleI rfl rfl c_15
          have hA_47 : (cV 2 M oa 0).toInt = (v3_0 : Int32).toInt := by rw [cV_of hM3 rfl]
          have hA_48 : (cV 2 M oa 1).toInt = (v3_1 : Int32).toInt := by rw [cV_of hM3 rfl]
          have hA_49 : (cV 2 M oa 2).toInt = (v3_2 : Int32).toInt := by rw [cV_of hM3 rfl]
          have hA_50 : (cV 2 M oa 4).toInt = ((v3_4 : Nat) : Int) := by rw [cV_of hM3 rfl]; exact nI_toInt (by omega)
          have hA_51 : (cV 2 M oa 5).toInt = ((v3_5 : Nat) : Int) := by rw [cV_of hM3 rfl]; exact nI_toInt (by omega)
          have hA_52 : (cV 2 M oa 9).toInt = ((v3_9 : Nat) : Int) := by rw [cV_of hM3 rfl]; exact nI_toInt (by omega)
          have hA_53 : (cV 2 M oa 11).toInt = ((v3_11 : Nat) : Int) := by rw [cV_of hM3 rfl]; exact nI_toInt (by omega)
          have hA_54 : (cV 2 M oa 15).toInt = (v3_15 : Int32).toInt := by rw [cV_of hM3 rfl]
          rw [hQ]
          exact W.aret (v := .ref bq_29) hx hb hr (Or.inl ⟨_, rfl⟩) (Or.inr ⟨_, rfl⟩) (fun t ht hW9 => ⟨⟨(some bq_29), (), rfl, ⟨iskN.some hb_32, ⟨(fun t9 q9 => by cases q9; exact ⟨by omega, (by rw [rA_of (j := 8) hM3 rfl, RFc_of hM27]; exact (Eq.symm ho_30))⟩), (fun q9 => by cases q9)⟩⟩, ⟨by rw [ht]; exact hP, hD⟩⟩, hS.F ht⟩) hS.2.2 dX2_tenureAt_28
set_option maxHeartbeats 4000000 in
set_option maxRecDepth 100000 in
theorem e_X2_leafOn (l : Launch) (D : va_G) (cy : Nat → ClassId) (K : Kp) (L : List Nat) (M : Hp) (sz : Nat) (oa : Nat) (k1 : Int32) (hW : WOK cy K L M) (ia : isk K L oa 2 0) : Met l yX2_leafOn (wsM yX2_leafOn cX2_leafOn 2 (some (.object "PartnersBook$Leaf"))) ({ frames := 1, cells := 0, slots := 0, locals := 20 }) (va_Pc [.ref oa, .int k1] (PG D cy [] L M sz)) (va_Qq (fun (r : Option Nat) (_ : Unit) => iskN K L r 3 0 ∧ (∀ t9, r = some t9 → (0 ≤ k1.toInt ∧ k1.toInt ≤ 999) ∧ RFc (M (rA 2 M oa 12)) k1.toNatClampNeg = some t9) ∧ (r = none → ¬ (0 ≤ k1.toInt ∧ k1.toInt ≤ 999) ∨ RFc (M (rA 2 M oa 12)) k1.toNatClampNeg = none)) (fun _ t => PQ D [] L M (va_A ([] ++ va_pl L M) sz) t) (va_A ([] ++ va_pl L M) sz)) 0 0 (va_A ([] ++ va_pl L M) sz) := by
  refine Met.ofW (cc := cX2_leafOn) (maxL := 2) (ret := (some (.object "PartnersBook$Leaf"))) (by decide) rfl ?_
  intro p e s m args below meth c s₁ B hml hv
  obtain ⟨rfl, hsz, hP, hK, hD0, hN⟩ := hv
  have hx := B.exec
  have hb := B.bytes
  have hr := B.returns
  have hts := atoms_spec (ws := (wsM yX2_leafOn cX2_leafOn 2 (some (.object "PartnersBook$Leaf")))) B.pre
  have hg : ∀ w ∈ lw_good, w.before _ s = true := fun w h => hts w (List.mem_cons_of_mem _ h)
  have hown : s.vm.findClass RX2 = some m.cls := findClass_of_methodNamed B.named
  have hlocks := B.notSynchronized
  subst hsz
  have hD := hD0.self (sz := s.heap.size)
  generalize hAe : va_A ([] ++ va_pl L M) s.heap.size = A at hD ⊢
  have hA : ∀ q : Nat, s.heap.size ≤ q → A q := fun q h => by rw [← hAe]; exact Or.inr h
  have hS : va_S A s.heap s.heap [] := va_S.rf
  have hl := lv_entry ([.ref oa, .int k1]) (n := 2) (Nat.le_of_ble_eq_true rfl)
  rw [lg_entry_eq]
  generalize (lg_sl ([.ref oa, .int k1]) ++ List.replicate (2 - (lg_sl ([.ref oa, .int k1])).length) Slot.unset).toArray = ls at hl ⊢
  refine W.nameQ (fun Q hQ => ?_)
  refine W.nameR (fun R hR => ?_)
  have hRf : 1 ≤ R.frames := by rw [hR]; exact Nat.le_of_ble_eq_true rfl
  have hRl : 20 ≤ R.locals := by rw [hR]; exact Nat.le_of_ble_eq_true rfl
  have hRc : 0 ≤ R.cells := by rw [hR]; exact Nat.le_of_ble_eq_true rfl
  have hRs : 0 ≤ R.slots := by rw [hR]; exact Nat.le_of_ble_eq_true rfl
  have hl : lv_has ls 2 [(0, .ref oa), (1, .int k1)] := hl
  refine lv_iload_n hx hb dX2_leafOn_0 rfl (lv_at hl 1 rfl) ?_
  have hPc : va_P D vwCl ([] ++ va_pl L M) s.heap := hP
  have hDc : va_D A ([] ++ va_pl L M) := hD
  have hFc : ∀ q, va_A ([] ++ va_pl L M) s.heap.size q → A q := pg_free hDc hS hA
  refine va_calli (va_runSN (As := [.int k1]) (rest := []) ⟨hx, hb, hml, hown, hg⟩ (e_X11_isDay l D cy K L M s.heap.size k1  hW ) ⟨va_cnB 1 hg (gB wd_42) rfl rfl rfl (hN _ (List.mem_of_getElem? (i := 4) rfl) : va_Nw (Cond.methodLinkNest RX2 81 yX11_isDay RX11) s) (hg _ wd_3) (by decide +kernel) ⟨(Nat.le_trans (Nat.le_of_ble_eq_true rfl) hRf), (Nat.le_trans (Nat.le_of_ble_eq_true rfl) hRl)⟩, hg _ wd_43, trivial⟩ ⟨PG.blind, fun U hU hW => ⟨rfl, PG.at hPc hK hDc hN hU hW⟩⟩ rfl rfl hl.1 rfl (lv_room (Nat.le_of_ble_eq_true rfl)) dX2_leafOn_1 ⟨(Nat.le_trans (Nat.le_of_ble_eq_true rfl) hRc), (Nat.le_trans (Nat.le_of_ble_eq_true rfl) hRs)⟩) hS (fun q _ h => hFc q h) hFc (fun r_2 M_3 t H_1 locs ht hvm hw hB hz1 hk1 hS => ?_)
  have hp_4 := hw
  obtain ⟨hP1, hD1⟩ := hB
  rw [ht] at hP1
  have hP : va_P D vwCl ([] ++ va_pl L M) H_1 := hP1
  have hD : va_D A ([] ++ va_pl L M) := hD1.mono hFc
  rcases hp_4 with ⟨rfl, c_5, c_6, c_7⟩ | ⟨rfl, c_8⟩
  · have hz := rfl (a := 0)
    refine lv_if_eq (tgt := 16) hx hb dX2_leafOn_4 (by decide) (fun c_9 => absurd c_9 (by decide)) (fun _ => ?_)
    refine lv_aload_n hx hb dX2_leafOn_7 rfl (lv_at hl 0 rfl) ?_
    obtain ⟨v10_0, v10_1, v10_2, v10_3, v10_4, v10_5, v10_6, v10_7, v10_8, v10_9, v10_10, v10_11, v10_12, v10_13, v10_14, v10_15, v10_16, v10_17, v10_18, v10_19, hM10, h10_3, h10_4, h10_5, h10_6, h10_7, h10_8, h10_9, h10_10, h10_11, h10_12, h10_13, h10_16, h10_17, h10_18, h10_19⟩ := hW.open_2 ia
    refine pg_get (D := D) (ci := 2) (v := .ref v10_12) (C := RX2) (T := TX2) (N := 20) hx hb hg inG2 hown hK hP ia.1 hM10 rfl 12 (by decide) (hg _ wd_69) (fun _ h9 => h9) rfl dX2_leafOn_8 ?_
    refine lv_iload_n hx hb dX2_leafOn_11 rfl (lv_at hl 1 rfl) ?_
    obtain ⟨f11, hM11, hf11⟩ := hW.open_18 h10_12
    have hi_12 : vp_in k1 1000 := (inbE k1 999 1000 (by decide) (by decide) c_6 (Int32.not_lt.mp c_7))
    refine pg_aldq hx hb hK hP h10_12.1 4 hM11 rfl hi_12 dX2_leafOn_12 ?_
    obtain ⟨q_13, ho_14⟩ : ∃ q : Option Nat, q = f11 (k1 : Int32).toNatClampNeg := ⟨_, rfl⟩
    rw [← ho_14]
    have hq_15 : iskN K L q_13 3 0 := by rw [ho_14]; exact hf11 _ (vp_lt hi_12)
    rcases q_13 with _ | bq_13
    · have hz := rfl (a := 0)
      refine lv_goto (tgt := 17) hx hb dX2_leafOn_13 (by decide) ?_
      have hI_17 : (0 : Int) ≤ (k1 : Int32).toInt := inltI rfl rfl c_6
      have hI_18 : (k1 : Int32).toInt ≤ (999 : Int) := inltI rfl rfl c_7
      have hA_19 : (cV 2 M oa 0).toInt = (v10_0 : Int32).toInt := by rw [cV_of hM10 rfl]
      have hA_20 : (cV 2 M oa 1).toInt = (v10_1 : Int32).toInt := by rw [cV_of hM10 rfl]
      have hA_21 : (cV 2 M oa 2).toInt = (v10_2 : Int32).toInt := by rw [cV_of hM10 rfl]
      have hA_22 : (cV 2 M oa 4).toInt = ((v10_4 : Nat) : Int) := by rw [cV_of hM10 rfl]; exact nI_toInt (by omega)
      have hA_23 : (cV 2 M oa 5).toInt = ((v10_5 : Nat) : Int) := by rw [cV_of hM10 rfl]; exact nI_toInt (by omega)
      have hA_24 : (cV 2 M oa 9).toInt = ((v10_9 : Nat) : Int) := by rw [cV_of hM10 rfl]; exact nI_toInt (by omega)
      have hA_25 : (cV 2 M oa 11).toInt = ((v10_11 : Nat) : Int) := by rw [cV_of hM10 rfl]; exact nI_toInt (by omega)
      have hA_26 : (cV 2 M oa 15).toInt = (v10_15 : Int32).toInt := by rw [cV_of hM10 rfl]
      rw [hQ]
      exact W.aret (v := .null) hx hb hr (Or.inl ⟨_, rfl⟩) (Or.inl rfl) (fun t ht hW9 => ⟨⟨none, (), rfl, ⟨iskN.none, ⟨(fun t9 q9 => by cases q9), fun _ => Or.inr (by rw [rA_of (j := 12) hM10 rfl, RFc_of hM11]; exact Eq.symm ho_14)⟩⟩, ⟨by rw [ht]; exact hP, hD⟩⟩, hS.F ht⟩) hS.2.2 dX2_leafOn_17
    · have hb_16 := hq_15 bq_13 rfl
      refine lv_goto (tgt := 17) hx hb dX2_leafOn_13 (by decide) ?_
      have hI_27 : (0 : Int) ≤ (k1 : Int32).toInt := inltI rfl rfl c_6
      have hI_28 : (k1 : Int32).toInt ≤ (999 : Int) := inltI rfl rfl c_7
      have hA_29 : (cV 2 M oa 0).toInt = (v10_0 : Int32).toInt := by rw [cV_of hM10 rfl]
      have hA_30 : (cV 2 M oa 1).toInt = (v10_1 : Int32).toInt := by rw [cV_of hM10 rfl]
      have hA_31 : (cV 2 M oa 2).toInt = (v10_2 : Int32).toInt := by rw [cV_of hM10 rfl]
      have hA_32 : (cV 2 M oa 4).toInt = ((v10_4 : Nat) : Int) := by rw [cV_of hM10 rfl]; exact nI_toInt (by omega)
      have hA_33 : (cV 2 M oa 5).toInt = ((v10_5 : Nat) : Int) := by rw [cV_of hM10 rfl]; exact nI_toInt (by omega)
      have hA_34 : (cV 2 M oa 9).toInt = ((v10_9 : Nat) : Int) := by rw [cV_of hM10 rfl]; exact nI_toInt (by omega)
      have hA_35 : (cV 2 M oa 11).toInt = ((v10_11 : Nat) : Int) := by rw [cV_of hM10 rfl]; exact nI_toInt (by omega)
      have hA_36 : (cV 2 M oa 15).toInt = (v10_15 : Int32).toInt := by rw [cV_of hM10 rfl]
      rw [hQ]
      exact W.aret (v := .ref bq_13) hx hb hr (Or.inl ⟨_, rfl⟩) (Or.inr ⟨_, rfl⟩) (fun t ht hW9 => ⟨⟨(some bq_13), (), rfl, ⟨iskN.some hb_16, ⟨(fun t9 q9 => by cases q9; exact ⟨by omega, (by rw [rA_of (j := 12) hM10 rfl, RFc_of hM11]; exact (Eq.symm ho_14))⟩), (fun q9 => by cases q9)⟩⟩, ⟨by rw [ht]; exact hP, hD⟩⟩, hS.F ht⟩) hS.2.2 dX2_leafOn_17
  · have hz := rfl (a := 0)
    refine lv_if_eq (tgt := 16) hx hb dX2_leafOn_4 (by decide) (fun _ => ?_) (fun c_37 => absurd c_37 (by decide))
    refine lv_null hx hb dX2_leafOn_16 ?_
    rw [hQ]
    exact W.aret (v := .null) hx hb hr (Or.inl ⟨_, rfl⟩) (Or.inl rfl) (fun t ht hW9 => ⟨⟨none, (), rfl, ⟨iskN.none, ⟨(fun t9 q9 => by cases q9), fun _ => Or.inl (by omega)⟩⟩, ⟨by rw [ht]; exact hP, hD⟩⟩, hS.F ht⟩) hS.2.2 dX2_leafOn_17
set_option maxHeartbeats 4000000 in
set_option maxRecDepth 100000 in
theorem e_finish (l : Launch) (D : va_G) (cy : Nat → ClassId) (K : Kp) (L : List Nat) (M : Hp) (sz : Nat) (oa : Nat) (k1 : Int32) (k2 : Int32) (k3 : Int32) (Bo : Nat → Nat × Nat) (Mb : Hp) (ha : Nat) (Xv : Nat → Int) (Yv : Nat → Nat → Int32) (di : Nat) (hW : WOK cy K L M) (ia : isk K L oa 9 0) (iH : isk K L ha 2 0) (hV : VC Bo K L Mb M ha Xv Yv) (hs : RFc (M (rA 2 M ha 8)) di = some oa) (hdi : di < 24) : Met l yX9_finish (wsM yX9_finish cX9_finish 4 none) ({ frames := 0, cells := 0, slots := 0, locals := 0 }) (va_Pc [.ref oa, .int k1, .int k2, .int k3] (PG D cy [] L M sz)) (va_Qv (fun (M9 : Hp) => WOK cy K L M9 ∧ fr K L [9] M M9 ∧ fT 9 K L [5, 6, 7] M M9 ∧ (VC Bo K L Mb M9 ha Xv (va_up (va_up (va_up Yv 22 (upd (Yv 22) di k1)) 23 (upd (Yv 23) di k2)) 24 (upd (Yv 24) di k3))) ∧ (True)) (fun M9 t => PQ D [] L M9 (va_A ([] ++ va_pl L M) sz) t) (va_A ([] ++ va_pl L M) sz)) 0 0 (va_A ([] ++ va_pl L M) sz) := by
  refine Met.ofW (cc := cX9_finish) (maxL := 4) (ret := none) (by decide) rfl ?_
  intro p e s m args below meth c s₁ B hml hv
  obtain ⟨rfl, hsz, hP, hK, hD0, hN⟩ := hv
  have hx := B.exec
  have hb := B.bytes
  have hr := B.returns
  have hts := atoms_spec (ws := (wsM yX9_finish cX9_finish 4 none)) B.pre
  have hg : ∀ w ∈ lw_good, w.before _ s = true := fun w h => hts w (List.mem_cons_of_mem _ h)
  have hown : s.vm.findClass RX9 = some m.cls := findClass_of_methodNamed B.named
  have hlocks := B.notSynchronized
  subst hsz
  have hD := hD0.self (sz := s.heap.size)
  generalize hAe : va_A ([] ++ va_pl L M) s.heap.size = A at hD ⊢
  have hA : ∀ q : Nat, s.heap.size ≤ q → A q := fun q h => by rw [← hAe]; exact Or.inr h
  have hS : va_S A s.heap s.heap [] := va_S.rf
  have hl := lv_entry ([.ref oa, .int k1, .int k2, .int k3]) (n := 4) (Nat.le_of_ble_eq_true rfl)
  rw [lg_entry_eq]
  generalize (lg_sl ([.ref oa, .int k1, .int k2, .int k3]) ++ List.replicate (4 - (lg_sl ([.ref oa, .int k1, .int k2, .int k3])).length) Slot.unset).toArray = ls at hl ⊢
  refine W.nameQ (fun Q hQ => ?_)
  refine W.nameR (fun R hR => ?_)
  have hRf : 0 ≤ R.frames := by rw [hR]; exact Nat.le_of_ble_eq_true rfl
  have hRl : 0 ≤ R.locals := by rw [hR]; exact Nat.le_of_ble_eq_true rfl
  have hRc : 0 ≤ R.cells := by rw [hR]; exact Nat.le_of_ble_eq_true rfl
  have hRs : 0 ≤ R.slots := by rw [hR]; exact Nat.le_of_ble_eq_true rfl
  have hF : fr K L [9] M M := fr.rf
  have hT9 : fT 9 K L [5, 6, 7] M M := fT.rf
  have hl : lv_has ls 4 [(0, .ref oa), (1, .int k1), (2, .int k2), (3, .int k3)] := hl
  refine lv_aload_n hx hb dX9_finish_0 rfl (lv_at hl 0 rfl) ?_
  refine lv_iload_n hx hb dX9_finish_1 rfl (lv_at hl 1 rfl) ?_
  obtain ⟨v2_0, v2_1, v2_2, v2_3, v2_4, v2_5, v2_6, v2_7, v2_8, v2_9, v2_10, v2_11, v2_12, v2_13, v2_14, v2_15, hM2, h2_0, h2_1, h2_4, h2_8⟩ := hW.open_9 ia
  refine pg_put (D := D) (ci := 9) (v := .int k1) (ty := .int) (C := RX9) (T := TX9) (N := 16) hx hb hg inG9 tyX9 tyX9_ok nmX9 hown hK hP hD hS ia.1 hM2 rfl 5 (by decide) (hg _ wd_5) (fun _ h9 => h9) rfl (by decide +kernel) rfl rfl (Nat.le_of_ble_eq_true rfl) dX9_finish_2 (fun H_1 locs hP hD hS => ?_)
  obtain ⟨M_3, eM_3⟩ : ∃ M1 : Hp, M1 = va_up M oa ((b9_9 (nI v2_0) v2_1 v2_2 v2_3 v2_4 k1 v2_6 v2_7 v2_8 v2_9 v2_10 v2_11 v2_12 v2_13 v2_14 v2_15)) := ⟨_, rfl⟩
  have sM_3 : M_3 = sF M oa 5 (.int k1) := eM_3.trans (sF_of (j := 5) (v := .int k1) hM2 rfl)
  have hV : VC Bo K L Mb M_3 ha Xv (va_up Yv 22 (upd (Yv 22) di k1)) := by rw [sM_3]; exact VC.s9_5 hV hW iH hdi hs hM2 (Nat.le_of_ble_eq_true rfl)
  have hs_4 : RFc (M_3 (rA 2 M_3 ha 8)) di = some oa := by rw [sM_3, rA_c (cVt_sF hM2 2 _ 8 (Or.inl (by decide))), RFc_sF]; exact hs
  have hP : va_P D vwCl ([] ++ va_pl L M_3) H_1 := by rw [eM_3]; exact hP
  have hD : va_D A ([] ++ va_pl L M_3) := by rw [eM_3]; exact hD
  have hW : WOK cy K L M_3 := by rw [eM_3]; exact hW.up_9 ia ⟨v2_0, v2_1, v2_2, v2_3, v2_4, k1, v2_6, v2_7, v2_8, v2_9, v2_10, v2_11, v2_12, v2_13, v2_14, v2_15, rfl, h2_0, h2_1, h2_4, h2_8⟩
  have hF : fr K L [9] M M_3 := by rw [eM_3]; exact hF.up ia (by decide)
  have hT9 : fT 9 K L [5, 6, 7] M M_3 := by rw [eM_3]; exact hT9.up (i := 5) hM2 rfl (by decide)
  have hM_5 : M_3 oa = (b9_9 (nI v2_0) v2_1 v2_2 v2_3 v2_4 k1 v2_6 v2_7 v2_8 v2_9 v2_10 v2_11 v2_12 v2_13 v2_14 v2_15) := by rw [eM_3]; exact va_up_self _ _ _
  refine lv_aload_n hx hb dX9_finish_5 rfl (lv_at hl 0 rfl) ?_
  refine lv_iload_n hx hb dX9_finish_6 rfl (lv_at hl 2 rfl) ?_
  refine pg_put (D := D) (ci := 9) (v := .int k2) (ty := .int) (C := RX9) (T := TX9) (N := 16) hx hb hg inG9 tyX9 tyX9_ok nmX9 hown hK hP hD hS ia.1 hM_5 rfl 6 (by decide) (hg _ wd_14) (fun _ h9 => h9) rfl (by decide +kernel) rfl rfl (Nat.le_of_ble_eq_true rfl) dX9_finish_7 (fun H_6 locs hP hD hS => ?_)
  obtain ⟨M_7, eM_7⟩ : ∃ M1 : Hp, M1 = va_up M_3 oa ((b9_9 (nI v2_0) v2_1 v2_2 v2_3 v2_4 k1 k2 v2_7 v2_8 v2_9 v2_10 v2_11 v2_12 v2_13 v2_14 v2_15)) := ⟨_, rfl⟩
  have sM_7 : M_7 = sF M_3 oa 6 (.int k2) := eM_7.trans (sF_of (j := 6) (v := .int k2) hM_5 rfl)
  have hV : VC Bo K L Mb M_7 ha Xv (va_up (va_up Yv 22 (upd (Yv 22) di k1)) 23 (upd (Yv 23) di k2)) := by rw [sM_7]; exact VC.s9_6 hV hW iH hdi hs_4 hM_5 (Nat.le_of_ble_eq_true rfl)
  have hs_8 : RFc (M_7 (rA 2 M_7 ha 8)) di = some oa := by rw [sM_7, rA_c (cVt_sF hM_5 2 _ 8 (Or.inl (by decide))), RFc_sF]; exact hs_4
  have hP : va_P D vwCl ([] ++ va_pl L M_7) H_6 := by rw [eM_7]; exact hP
  have hD : va_D A ([] ++ va_pl L M_7) := by rw [eM_7]; exact hD
  have hW : WOK cy K L M_7 := by rw [eM_7]; exact hW.up_9 ia ⟨v2_0, v2_1, v2_2, v2_3, v2_4, k1, k2, v2_7, v2_8, v2_9, v2_10, v2_11, v2_12, v2_13, v2_14, v2_15, rfl, h2_0, h2_1, h2_4, h2_8⟩
  have hF : fr K L [9] M M_7 := by rw [eM_7]; exact hF.up ia (by decide)
  have hT9 : fT 9 K L [5, 6, 7] M M_7 := by rw [eM_7]; exact hT9.up (i := 6) hM_5 rfl (by decide)
  have hM_9 : M_7 oa = (b9_9 (nI v2_0) v2_1 v2_2 v2_3 v2_4 k1 k2 v2_7 v2_8 v2_9 v2_10 v2_11 v2_12 v2_13 v2_14 v2_15) := by rw [eM_7]; exact va_up_self _ _ _
  refine lv_aload_n hx hb dX9_finish_10 rfl (lv_at hl 0 rfl) ?_
  refine lv_iload_n hx hb dX9_finish_11 rfl (lv_at hl 3 rfl) ?_
  refine pg_put (D := D) (ci := 9) (v := .int k3) (ty := .int) (C := RX9) (T := TX9) (N := 16) hx hb hg inG9 tyX9 tyX9_ok nmX9 hown hK hP hD hS ia.1 hM_9 rfl 7 (by decide) (hg _ wd_15) (fun _ h9 => h9) rfl (by decide +kernel) rfl rfl (Nat.le_of_ble_eq_true rfl) dX9_finish_12 (fun H_10 locs hP hD hS => ?_)
  obtain ⟨M_11, eM_11⟩ : ∃ M1 : Hp, M1 = va_up M_7 oa ((b9_9 (nI v2_0) v2_1 v2_2 v2_3 v2_4 k1 k2 k3 v2_8 v2_9 v2_10 v2_11 v2_12 v2_13 v2_14 v2_15)) := ⟨_, rfl⟩
  have sM_11 : M_11 = sF M_7 oa 7 (.int k3) := eM_11.trans (sF_of (j := 7) (v := .int k3) hM_9 rfl)
  have hV : VC Bo K L Mb M_11 ha Xv (va_up (va_up (va_up Yv 22 (upd (Yv 22) di k1)) 23 (upd (Yv 23) di k2)) 24 (upd (Yv 24) di k3)) := by rw [sM_11]; exact VC.s9_7 hV hW iH hdi hs_8 hM_9 (Nat.le_of_ble_eq_true rfl)
  have hs_12 : RFc (M_11 (rA 2 M_11 ha 8)) di = some oa := by rw [sM_11, rA_c (cVt_sF hM_9 2 _ 8 (Or.inl (by decide))), RFc_sF]; exact hs_8
  have hP : va_P D vwCl ([] ++ va_pl L M_11) H_10 := by rw [eM_11]; exact hP
  have hD : va_D A ([] ++ va_pl L M_11) := by rw [eM_11]; exact hD
  have hW : WOK cy K L M_11 := by rw [eM_11]; exact hW.up_9 ia ⟨v2_0, v2_1, v2_2, v2_3, v2_4, k1, k2, k3, v2_8, v2_9, v2_10, v2_11, v2_12, v2_13, v2_14, v2_15, rfl, h2_0, h2_1, h2_4, h2_8⟩
  have hF : fr K L [9] M M_11 := by rw [eM_11]; exact hF.up ia (by decide)
  have hT9 : fT 9 K L [5, 6, 7] M M_11 := by rw [eM_11]; exact hT9.up (i := 7) hM_9 rfl (by decide)
  have hM_13 : M_11 oa = (b9_9 (nI v2_0) v2_1 v2_2 v2_3 v2_4 k1 k2 k3 v2_8 v2_9 v2_10 v2_11 v2_12 v2_13 v2_14 v2_15) := by rw [eM_11]; exact va_up_self _ _ _
  rw [hQ]
  exact W.vret hx hb hr (fun t ht hW9 => ⟨⟨M_11, rfl, ⟨hW, hF, hT9, hV, trivial⟩, ⟨by rw [ht]; exact hP, hD⟩⟩, hS.F ht⟩) hS.2.2 dX9_finish_15
set_option maxHeartbeats 4000000 in
set_option maxRecDepth 100000 in
theorem e_append (l : Launch) (D : va_G) (cy : Nat → ClassId) (K : Kp) (L : List Nat) (M : Hp) (sz : Nat) (oa : Nat) (k1 : Int32) (Bo : Nat → Nat × Nat) (Mb : Hp) (ha : Nat) (Xv : Nat → Int) (Yv : Nat → Nat → Int32) (di : Nat) (yn : Nat) (y0 : Int32) (y1 : Nat) (y2 : Nat) (hW : WOK cy K L M) (ia : isk K L oa 3 0) (iH : isk K L ha 2 0) (hV : VC Bo K L Mb M ha Xv Yv) (hs : RFc (M (rA 2 M ha 12)) di = some oa) (hdi : di < 1000) (hlt : (cV 3 M oa 2).toInt < (ALc (M (rA 3 M oa 1)) : Int)) (hMy : M oa = (b3_3 y0 y1 (nI y2))) (hy1 : isk K L y1 53 yn) (hy2 : y2 ≤ yn) (hey0 : yn ≤ 6) : Met l yX3_append (wsM yX3_append cX3_append 2 none) ({ frames := 1, cells := 0, slots := 0, locals := 20 }) (va_Pc [.ref oa, .int k1] (PG D cy [] L M sz)) (va_Qv (fun (M9 : Hp) => WOK cy K L M9 ∧ fr K L [3, 53] M M9 ∧ fT 3 K L [2] M M9 ∧ (VC Bo K L Mb M9 ha Xv (va_up (va_up Yv 60 (upd (Yv 60) (1000 * (cV 3 M oa 2).toNatClampNeg + di) k1)) 3 (upd (Yv 3) di (cV 3 M oa 2 + 1)))) ∧ (True)) (fun M9 t => PQ D [] L M9 (va_A ([] ++ va_pl L M) sz) t) (va_A ([] ++ va_pl L M) sz)) 0 0 (va_A ([] ++ va_pl L M) sz) := by
  refine Met.ofW (cc := cX3_append) (maxL := 2) (ret := none) (by decide) rfl ?_
  intro p e s m args below meth c s₁ B hml hv
  obtain ⟨rfl, hsz, hP, hK, hD0, hN⟩ := hv
  have hx := B.exec
  have hb := B.bytes
  have hr := B.returns
  have hts := atoms_spec (ws := (wsM yX3_append cX3_append 2 none)) B.pre
  have hg : ∀ w ∈ lw_good, w.before _ s = true := fun w h => hts w (List.mem_cons_of_mem _ h)
  have hown : s.vm.findClass RX3 = some m.cls := findClass_of_methodNamed B.named
  have hlocks := B.notSynchronized
  subst hsz
  have hD := hD0.self (sz := s.heap.size)
  generalize hAe : va_A ([] ++ va_pl L M) s.heap.size = A at hD ⊢
  have hA : ∀ q : Nat, s.heap.size ≤ q → A q := fun q h => by rw [← hAe]; exact Or.inr h
  have hS : va_S A s.heap s.heap [] := va_S.rf
  have hl := lv_entry ([.ref oa, .int k1]) (n := 2) (Nat.le_of_ble_eq_true rfl)
  rw [lg_entry_eq]
  generalize (lg_sl ([.ref oa, .int k1]) ++ List.replicate (2 - (lg_sl ([.ref oa, .int k1])).length) Slot.unset).toArray = ls at hl ⊢
  refine W.nameQ (fun Q hQ => ?_)
  refine W.nameR (fun R hR => ?_)
  have hRf : 1 ≤ R.frames := by rw [hR]; exact Nat.le_of_ble_eq_true rfl
  have hRl : 20 ≤ R.locals := by rw [hR]; exact Nat.le_of_ble_eq_true rfl
  have hRc : 0 ≤ R.cells := by rw [hR]; exact Nat.le_of_ble_eq_true rfl
  have hRs : 0 ≤ R.slots := by rw [hR]; exact Nat.le_of_ble_eq_true rfl
  have hF : fr K L [3, 53] M M := fr.rf
  have hT3 : fT 3 K L [2] M M := fT.rf
  have hl : lv_has ls 2 [(0, .ref oa), (1, .int k1)] := hl
  obtain ⟨f1, hM1⟩ := hW.open_53 hy1
  have hA_2 : (cV 3 M oa 0).toInt = (y0 : Int32).toInt := by rw [cV_of hMy rfl]
  have hA_3 : (ALc (M (rA 3 M oa 1)) : Int) = ((yn : Nat) : Int) := by rw [rA_of hMy rfl, hM1]; rfl
  have hA_4 : (cV 3 M oa 2).toInt = ((y2 : Nat) : Int) := by rw [cV_of hMy rfl]; exact nI_toInt (by omega)
  refine lv_aload_n hx hb dX3_append_0 rfl (lv_at hl 0 rfl) ?_
  have hPc : va_P D vwCl ([] ++ va_pl L M) s.heap := hP
  have hDc : va_D A ([] ++ va_pl L M) := hD
  have hFc : ∀ q, va_A ([] ++ va_pl L M) s.heap.size q → A q := pg_free hDc hS hA
  refine va_calli (va_runV (As := []) (rest := []) ⟨hx, hb, hml, hown, hg⟩ (e_X3_lacksEntries l D cy K L M s.heap.size oa yn y0 y1 y2 hW ia hMy hy1 hy2 hey0) (cwV 0 hg (gV wd_36 wd_37 wd_38 wd_39 wd_40) rfl rfl rfl (by decide +kernel) ⟨(Nat.le_trans (Nat.le_of_ble_eq_true rfl) hRf), (Nat.le_trans (Nat.le_of_ble_eq_true rfl) hRl)⟩) ⟨PG.blind, pg_recv hK hP ia.1 hMy rfl, fun U hU hW => ⟨rfl, PG.at hPc hK hDc hN hU hW⟩⟩ rfl rfl hl.1 rfl (lv_room (Nat.le_of_ble_eq_true rfl)) dX3_append_1 ⟨(Nat.le_trans (Nat.le_of_ble_eq_true rfl) hRc), (Nat.le_trans (Nat.le_of_ble_eq_true rfl) hRs)⟩) hS (fun q _ h => hFc q h) hFc (fun r_6 M_7 t H_5 locs ht hvm hw hB hz1 hk1 hS => ?_)
  have hp_8 := hw
  obtain ⟨hP1, hD1⟩ := hB
  rw [ht] at hP1
  have hP : va_P D vwCl ([] ++ va_pl L M) H_5 := hP1
  have hD : va_D A ([] ++ va_pl L M) := hD1.mono hFc
  rcases hp_8 with ⟨rfl, c_9, c_10⟩ | ⟨rfl, c_11⟩
  · have hz := rfl (a := 0)
    refine lv_if_eq (tgt := 27) hx hb dX3_append_4 (by decide) (fun c_12 => absurd c_12 (by decide)) (fun _ => ?_)
    refine lv_aload_n hx hb dX3_append_7 rfl (lv_at hl 0 rfl) ?_
    refine pg_get (D := D) (ci := 3) (v := .ref y1) (C := RX3) (T := TX3) (N := 3) hx hb hg inG3 hown hK hP ia.1 hMy rfl 1 (by decide) (hg _ wd_34) (fun _ h9 => h9) rfl dX3_append_8 ?_
    refine lv_aload_n hx hb dX3_append_11 rfl (lv_at hl 0 rfl) ?_
    refine pg_get (D := D) (ci := 3) (v := .int (nI y2)) (C := RX3) (T := TX3) (N := 3) hx hb hg inG3 hown hK hP ia.1 hMy rfl 2 (by decide) (hg _ wd_33) (fun _ h9 => h9) rfl dX3_append_12 ?_
    refine lv_iload_n hx hb dX3_append_15 rfl (lv_at hl 1 rfl) ?_
    refine pg_iast hx hb hK hP hD hS hy1.1 0 hM1 rfl (inbN y2 yn (by omega) (by omega)) dX3_append_16 (fun H_13 locs hP hD hS => ?_)
    obtain ⟨M_14, eM_14⟩ : ∃ M1 : Hp, M1 = va_up M y1 (.inl (cy 14, yn, .inl (upd f1 ((nI y2) : Int32).toNatClampNeg k1))) := ⟨_, rfl⟩
    have sM_14 : M_14 = sA M y1 ((nI y2) : Int32).toNatClampNeg k1 := eM_14.trans (sA_of hM1)
    have hV : VC Bo K L Mb M_14 ha Xv (va_up Yv 60 (upd (Yv 60) (1000 * ((nI y2) : Int32).toNatClampNeg + di) k1)) := by rw [sM_14]; exact VC.a_53 hV hW iH hdi hs (rA_of (j := 1) hMy rfl) hM1
    have hs_15 : RFc (M_14 (rA 2 M_14 ha 12)) di = some oa := by rw [sM_14, rA_c (cVt_sA _ _ _ _ _ _ _), RFc_sA]; exact hs
    have hP : va_P D vwCl ([] ++ va_pl L M_14) H_13 := by rw [eM_14]; exact hP
    have hD : va_D A ([] ++ va_pl L M_14) := by rw [eM_14]; exact hD
    have hW : WOK cy K L M_14 := by rw [eM_14]; exact hW.up_53 hy1 ⟨_, rfl⟩
    have hF : fr K L [3, 53] M M_14 := by rw [eM_14]; exact hF.up hy1 (by decide)
    have hT3 : fT 3 K L [2] M M_14 := by rw [eM_14]; exact hT3.ne hy1 (by decide)
    have hM_16 : M_14 y1 = .inl (cy 14, yn, .inl (upd f1 ((nI y2) : Int32).toNatClampNeg k1)) := by rw [eM_14]; exact va_up_self _ _ _
    have hM_17 : M_14 oa = (b3_3 y0 y1 (nI y2)) := by rw [eM_14, va_up_ne _ _ (ia.neT hy1 (by decide))]; exact hMy
    obtain ⟨f_18, ef_18⟩ : ∃ f : Nat → Int32, f = upd f1 ((nI y2) : Int32).toNatClampNeg k1 := ⟨_, rfl⟩
    rw [← ef_18] at hM_16
    clear ef_18
    refine lv_aload_n hx hb dX3_append_17 rfl (lv_at hl 0 rfl) ?_
    refine lv_dup hx hb dX3_append_18 rfl ?_
    refine pg_get (D := D) (ci := 3) (v := .int (nI y2)) (C := RX3) (T := TX3) (N := 3) hx hb hg inG3 hown hK hP ia.1 hM_17 rfl 2 (by decide) (hg _ wd_33) (fun _ h9 => h9) rfl dX3_append_19 ?_
    refine lv_iconst (v := 1) hx hb dX3_append_22 (by decide) ?_
    refine lv_iadd hx hb dX3_append_23 ?_
    refine lv_topi (fun f_19 ef_19 => ?_)
    obtain rfl : f_19 = (nI (y2 + 1)) := ef_19.trans (nI_add y2 1)
    refine pg_put (D := D) (ci := 3) (v := .int (nI (y2 + 1))) (ty := .int) (C := RX3) (T := TX3) (N := 3) hx hb hg inG3 tyX3 tyX3_ok nmX3 hown hK hP hD hS ia.1 hM_17 rfl 2 (by decide) (hg _ wd_33) (fun _ h9 => h9) rfl (by decide +kernel) rfl rfl (Nat.le_of_ble_eq_true rfl) dX3_append_24 (fun H_20 locs hP hD hS => ?_)
    obtain ⟨M_21, eM_21⟩ : ∃ M1 : Hp, M1 = va_up M_14 oa ((b3_3 y0 y1 (nI (y2 + 1)))) := ⟨_, rfl⟩
    have sM_21 : M_21 = sF M_14 oa 2 (.int (nI (y2 + 1))) := eM_21.trans (sF_of (j := 2) (v := .int (nI (y2 + 1))) hM_17 rfl)
    have hV : VC Bo K L Mb M_21 ha Xv (va_up (va_up Yv 60 (upd (Yv 60) (1000 * ((nI y2) : Int32).toNatClampNeg + di) k1)) 3 (upd (Yv 3) di (nI (y2 + 1)))) := by rw [sM_21]; exact VC.s3_2 hV hW iH hdi hs_15 hM_17 (Nat.le_of_ble_eq_true rfl)
    have hs_22 : RFc (M_21 (rA 2 M_21 ha 12)) di = some oa := by rw [sM_21, rA_c (cVt_sF hM_17 2 _ 12 (Or.inl (by decide))), RFc_sF]; exact hs_15
    have hP : va_P D vwCl ([] ++ va_pl L M_21) H_20 := by rw [eM_21]; exact hP
    have hD : va_D A ([] ++ va_pl L M_21) := by rw [eM_21]; exact hD
    have hW : WOK cy K L M_21 := by rw [eM_21]; exact hW.up_3 ia ⟨yn, y0, y1, (y2 + 1), rfl, hy1, (by omega), hey0⟩
    have hF : fr K L [3, 53] M M_21 := by rw [eM_21]; exact hF.up ia (by decide)
    have hT3 : fT 3 K L [2] M M_21 := by rw [eM_21]; exact hT3.up (i := 2) hM_17 rfl (by decide)
    have hM_23 : M_21 oa = (b3_3 y0 y1 (nI (y2 + 1))) := by rw [eM_21]; exact va_up_self _ _ _
    have hM_24 : M_21 y1 = .inl (cy 14, yn, .inl (f_18)) := by rw [eM_21, va_up_ne _ _ (hy1.neT ia (by decide))]; exact hM_16
    have hb_25 : (y2 + 1) ≤ yn := by omega
    have hA_26 : (cV 3 M_21 oa 0).toInt = (y0 : Int32).toInt := by rw [cV_of hM_23 rfl]
    have hA_27 : (ALc (M_21 (rA 3 M_21 oa 1)) : Int) = ((yn : Nat) : Int) := by rw [rA_of hM_23 rfl, hM_24]; rfl
    have hA_28 : (cV 3 M_21 oa 2).toInt = (((y2 + 1) : Nat) : Int) := by rw [cV_of hM_23 rfl]; exact nI_toInt (by omega)
    rw [hQ]
    exact W.vret hx hb hr (fun t ht hW9 => ⟨⟨M_21, rfl, ⟨hW, hF, hT3, (hV.cg rfl (by rw [show cV 3 M oa 2 = nI y2 from cV_of hMy rfl, nI_1 y2]; first | done | rfl)), trivial⟩, ⟨by rw [ht]; exact hP, hD⟩⟩, hS.F ht⟩) hS.2.2 dX3_append_27
  · have hz := rfl (a := 0)
    refine lv_if_eq (tgt := 27) hx hb dX3_append_4 (by decide) (fun _ => ?_) (fun c_29 => absurd c_29 (by decide))
    rw [hQ]
    exact W.vret hx hb hr (fun t ht hW9 => ⟨⟨M, rfl, ⟨hW, hF, hT3, (by exfalso; omega), trivial⟩, ⟨by rw [ht]; exact hP, hD⟩⟩, hS.F ht⟩) hS.2.2 dX3_append_27
set_option maxHeartbeats 4000000 in
set_option maxRecDepth 100000 in
theorem e_dropl (l : Launch) (D : va_G) (cy : Nat → ClassId) (K : Kp) (L : List Nat) (M : Hp) (sz : Nat) (oa : Nat) (Bo : Nat → Nat × Nat) (Mb : Hp) (ha : Nat) (Xv : Nat → Int) (Yv : Nat → Nat → Int32) (di : Nat) (yn : Nat) (y0 : Int32) (y1 : Nat) (y2 : Nat) (hW : WOK cy K L M) (ia : isk K L oa 3 0) (iH : isk K L ha 2 0) (hV : VC Bo K L Mb M ha Xv Yv) (hs : RFc (M (rA 2 M ha 12)) di = some oa) (hdi : di < 1000) (hlt : 0 < (cV 3 M oa 2).toInt) (hMy : M oa = (b3_3 y0 y1 (nI y2))) (hy1 : isk K L y1 53 yn) (hy2 : y2 ≤ yn) (hey0 : yn ≤ 6) : Met l yX3_dropLatest (wsM yX3_dropLatest cX3_dropLatest 1 none) ({ frames := 0, cells := 0, slots := 0, locals := 0 }) (va_Pc [.ref oa] (PG D cy [] L M sz)) (va_Qv (fun (M9 : Hp) => WOK cy K L M9 ∧ fr K L [3] M M9 ∧ fT 3 K L [2] M M9 ∧ (VC Bo K L Mb M9 ha Xv (va_up Yv 3 (upd (Yv 3) di (cV 3 M oa 2 - 1)))) ∧ (True)) (fun M9 t => PQ D [] L M9 (va_A ([] ++ va_pl L M) sz) t) (va_A ([] ++ va_pl L M) sz)) 0 0 (va_A ([] ++ va_pl L M) sz) := by
  refine Met.ofW (cc := cX3_dropLatest) (maxL := 1) (ret := none) (by decide) rfl ?_
  intro p e s m args below meth c s₁ B hml hv
  obtain ⟨rfl, hsz, hP, hK, hD0, hN⟩ := hv
  have hx := B.exec
  have hb := B.bytes
  have hr := B.returns
  have hts := atoms_spec (ws := (wsM yX3_dropLatest cX3_dropLatest 1 none)) B.pre
  have hg : ∀ w ∈ lw_good, w.before _ s = true := fun w h => hts w (List.mem_cons_of_mem _ h)
  have hown : s.vm.findClass RX3 = some m.cls := findClass_of_methodNamed B.named
  have hlocks := B.notSynchronized
  subst hsz
  have hD := hD0.self (sz := s.heap.size)
  generalize hAe : va_A ([] ++ va_pl L M) s.heap.size = A at hD ⊢
  have hA : ∀ q : Nat, s.heap.size ≤ q → A q := fun q h => by rw [← hAe]; exact Or.inr h
  have hS : va_S A s.heap s.heap [] := va_S.rf
  have hl := lv_entry ([.ref oa]) (n := 1) (Nat.le_of_ble_eq_true rfl)
  rw [lg_entry_eq]
  generalize (lg_sl ([.ref oa]) ++ List.replicate (1 - (lg_sl ([.ref oa])).length) Slot.unset).toArray = ls at hl ⊢
  refine W.nameQ (fun Q hQ => ?_)
  refine W.nameR (fun R hR => ?_)
  have hRf : 0 ≤ R.frames := by rw [hR]; exact Nat.le_of_ble_eq_true rfl
  have hRl : 0 ≤ R.locals := by rw [hR]; exact Nat.le_of_ble_eq_true rfl
  have hRc : 0 ≤ R.cells := by rw [hR]; exact Nat.le_of_ble_eq_true rfl
  have hRs : 0 ≤ R.slots := by rw [hR]; exact Nat.le_of_ble_eq_true rfl
  have hF : fr K L [3] M M := fr.rf
  have hT3 : fT 3 K L [2] M M := fT.rf
  have hl : lv_has ls 1 [(0, .ref oa)] := hl
  have hA_1 : (cV 3 M oa 0).toInt = (y0 : Int32).toInt := by rw [cV_of hMy rfl]
  have hA_2 : (cV 3 M oa 2).toInt = ((y2 : Nat) : Int) := by rw [cV_of hMy rfl]; exact nI_toInt (by omega)
  refine lv_aload_n hx hb dX3_dropLatest_0 rfl (lv_at hl 0 rfl) ?_
  refine pg_get (D := D) (ci := 3) (v := .int (nI y2)) (C := RX3) (T := TX3) (N := 3) hx hb hg inG3 hown hK hP ia.1 hMy rfl 2 (by decide) (hg _ wd_33) (fun _ h9 => h9) rfl dX3_dropLatest_1 ?_
  refine lv_if_le (tgt := 17) hx hb dX3_dropLatest_4 (by decide) (fun c_3 => ?_) (fun c_3 => ?_)
  · have hz := rfl (a := 0)
    have n_4 : y2 ≤ 0 := (iLE (a := y2) (b := 0) (by omega) (by omega)).mp c_3
    have hI_5 : ((y2 : Nat) : Int) ≤ (0 : Int) := ileI (nI_toInt (by omega)) rfl c_3
    rw [hQ]
    exact W.vret hx hb hr (fun t ht hW9 => ⟨⟨M, rfl, ⟨hW, hF, hT3, (by exfalso; omega), trivial⟩, ⟨by rw [ht]; exact hP, hD⟩⟩, hS.F ht⟩) hS.2.2 dX3_dropLatest_17
  · have hz := rfl (a := 0)
    have n_6 : ¬ (y2 ≤ 0) := fun q => c_3 ((iLE (a := y2) (b := 0) (by omega) (by omega)).mpr q)
    refine lv_aload_n hx hb dX3_dropLatest_7 rfl (lv_at hl 0 rfl) ?_
    refine lv_dup hx hb dX3_dropLatest_8 rfl ?_
    refine pg_get (D := D) (ci := 3) (v := .int (nI y2)) (C := RX3) (T := TX3) (N := 3) hx hb hg inG3 hown hK hP ia.1 hMy rfl 2 (by decide) (hg _ wd_33) (fun _ h9 => h9) rfl dX3_dropLatest_9 ?_
    refine lv_iconst (v := 1) hx hb dX3_dropLatest_12 (by decide) ?_
    refine lv_isub hx hb dX3_dropLatest_13 ?_
    refine lv_topi (fun f_7 ef_7 => ?_)
    obtain rfl : f_7 = (nI (y2 - 1)) := ef_7.trans (nI_prd (by omega))
    refine pg_put (D := D) (ci := 3) (v := .int (nI (y2 - 1))) (ty := .int) (C := RX3) (T := TX3) (N := 3) hx hb hg inG3 tyX3 tyX3_ok nmX3 hown hK hP hD hS ia.1 hMy rfl 2 (by decide) (hg _ wd_33) (fun _ h9 => h9) rfl (by decide +kernel) rfl rfl (Nat.le_of_ble_eq_true rfl) dX3_dropLatest_14 (fun H_8 locs hP hD hS => ?_)
    obtain ⟨M_9, eM_9⟩ : ∃ M1 : Hp, M1 = va_up M oa ((b3_3 y0 y1 (nI (y2 - 1)))) := ⟨_, rfl⟩
    have sM_9 : M_9 = sF M oa 2 (.int (nI (y2 - 1))) := eM_9.trans (sF_of (j := 2) (v := .int (nI (y2 - 1))) hMy rfl)
    have hV : VC Bo K L Mb M_9 ha Xv (va_up Yv 3 (upd (Yv 3) di (nI (y2 - 1)))) := by rw [sM_9]; exact VC.s3_2 hV hW iH hdi hs hMy (Nat.le_of_ble_eq_true rfl)
    have hs_10 : RFc (M_9 (rA 2 M_9 ha 12)) di = some oa := by rw [sM_9, rA_c (cVt_sF hMy 2 _ 12 (Or.inl (by decide))), RFc_sF]; exact hs
    have hP : va_P D vwCl ([] ++ va_pl L M_9) H_8 := by rw [eM_9]; exact hP
    have hD : va_D A ([] ++ va_pl L M_9) := by rw [eM_9]; exact hD
    have hW : WOK cy K L M_9 := by rw [eM_9]; exact hW.up_3 ia ⟨yn, y0, y1, (y2 - 1), rfl, hy1, (by omega), hey0⟩
    have hF : fr K L [3] M M_9 := by rw [eM_9]; exact hF.up ia (by decide)
    have hT3 : fT 3 K L [2] M M_9 := by rw [eM_9]; exact hT3.up (i := 2) hMy rfl (by decide)
    have hM_11 : M_9 oa = (b3_3 y0 y1 (nI (y2 - 1))) := by rw [eM_9]; exact va_up_self _ _ _
    have hb_12 : (y2 - 1) ≤ yn := by omega
    have hI_13 : (0 : Int) < ((y2 : Nat) : Int) := inleI (nI_toInt (by omega)) rfl c_3
    have hA_14 : (cV 3 M_9 oa 0).toInt = (y0 : Int32).toInt := by rw [cV_of hM_11 rfl]
    have hA_15 : (cV 3 M_9 oa 2).toInt = (((y2 - 1) : Nat) : Int) := by rw [cV_of hM_11 rfl]; exact nI_toInt (by omega)
    rw [hQ]
    exact W.vret hx hb hr (fun t ht hW9 => ⟨⟨M_9, rfl, ⟨hW, hF, hT3, (hV.cg rfl (by rw [show cV 3 M oa 2 = nI y2 from cV_of hMy rfl, nI_prd (by omega)])), trivial⟩, ⟨by rw [ht]; exact hP, hD⟩⟩, hS.F ht⟩) hS.2.2 dX3_dropLatest_17
set_option maxHeartbeats 4000000 in
set_option maxRecDepth 100000 in
theorem e_clear (l : Launch) (D : va_G) (cy : Nat → ClassId) (K : Kp) (L : List Nat) (M : Hp) (sz : Nat) (oa : Nat) (Bo : Nat → Nat × Nat) (Mb : Hp) (ha : Nat) (Xv : Nat → Int) (Yv : Nat → Nat → Int32) (hW : WOK cy K L M) (ia : isk K L oa 10 0) (iH : isk K L ha 2 0) (hV : VC Bo K L Mb M ha Xv Yv) (hs : rA 2 M ha 18 = oa) : Met l yX10_clear (wsM yX10_clear cX10_clear 1 none) ({ frames := 0, cells := 0, slots := 0, locals := 0 }) (va_Pc [.ref oa] (PG D cy [] L M sz)) (va_Qv (fun (M9 : Hp) => WOK cy K L M9 ∧ fr K L [10] M M9 ∧ fT 10 K L [1, 2] M M9 ∧ (VC Bo K L Mb M9 ha (va_up (va_up Xv 19 (0 : Int)) 16 (0 : Int)) Yv) ∧ (True)) (fun M9 t => PQ D [] L M9 (va_A ([] ++ va_pl L M) sz) t) (va_A ([] ++ va_pl L M) sz)) 0 0 (va_A ([] ++ va_pl L M) sz) := by
  refine Met.ofW (cc := cX10_clear) (maxL := 1) (ret := none) (by decide) rfl ?_
  intro p e s m args below meth c s₁ B hml hv
  obtain ⟨rfl, hsz, hP, hK, hD0, hN⟩ := hv
  have hx := B.exec
  have hb := B.bytes
  have hr := B.returns
  have hts := atoms_spec (ws := (wsM yX10_clear cX10_clear 1 none)) B.pre
  have hg : ∀ w ∈ lw_good, w.before _ s = true := fun w h => hts w (List.mem_cons_of_mem _ h)
  have hown : s.vm.findClass RX10 = some m.cls := findClass_of_methodNamed B.named
  have hlocks := B.notSynchronized
  subst hsz
  have hD := hD0.self (sz := s.heap.size)
  generalize hAe : va_A ([] ++ va_pl L M) s.heap.size = A at hD ⊢
  have hA : ∀ q : Nat, s.heap.size ≤ q → A q := fun q h => by rw [← hAe]; exact Or.inr h
  have hS : va_S A s.heap s.heap [] := va_S.rf
  have hl := lv_entry ([.ref oa]) (n := 1) (Nat.le_of_ble_eq_true rfl)
  rw [lg_entry_eq]
  generalize (lg_sl ([.ref oa]) ++ List.replicate (1 - (lg_sl ([.ref oa])).length) Slot.unset).toArray = ls at hl ⊢
  refine W.nameQ (fun Q hQ => ?_)
  refine W.nameR (fun R hR => ?_)
  have hRf : 0 ≤ R.frames := by rw [hR]; exact Nat.le_of_ble_eq_true rfl
  have hRl : 0 ≤ R.locals := by rw [hR]; exact Nat.le_of_ble_eq_true rfl
  have hRc : 0 ≤ R.cells := by rw [hR]; exact Nat.le_of_ble_eq_true rfl
  have hRs : 0 ≤ R.slots := by rw [hR]; exact Nat.le_of_ble_eq_true rfl
  have hF : fr K L [10] M M := fr.rf
  have hT10 : fT 10 K L [1, 2] M M := fT.rf
  have hl : lv_has ls 1 [(0, .ref oa)] := hl
  refine lv_aload_n hx hb dX10_clear_0 rfl (lv_at hl 0 rfl) ?_
  refine lv_iconst (v := 0) hx hb dX10_clear_1 (by decide) ?_
  obtain ⟨v2_0, v2_1, v2_2, hM2, h2_0⟩ := hW.open_10 ia
  refine pg_put (D := D) (ci := 10) (v := .int 0) (ty := .int) (C := RX10) (T := TX10) (N := 3) hx hb hg inG10 tyX10 tyX10_ok nmX10 hown hK hP hD hS ia.1 hM2 rfl 1 (by decide) (hg _ wd_104) (fun _ h9 => h9) rfl (by decide +kernel) rfl rfl (Nat.le_of_ble_eq_true rfl) dX10_clear_2 (fun H_1 locs hP hD hS => ?_)
  obtain ⟨M_3, eM_3⟩ : ∃ M1 : Hp, M1 = va_up M oa ((b10_15 v2_0 0 v2_2)) := ⟨_, rfl⟩
  have sM_3 : M_3 = sF M oa 1 (.int 0) := eM_3.trans (sF_of (j := 1) (v := .int 0) hM2 rfl)
  have hV : VC Bo K L Mb M_3 ha (va_up Xv 19 (0 : Int)) Yv := by rw [sM_3]; have h9 := VC.u1 (v := 0) hV hW iH hs hM2 (Nat.le_of_ble_eq_true rfl); rw [show (0 : Int32).toInt = (0 : Int) from rfl] at h9; exact h9
  have hs_4 : rA 2 M_3 ha 18 = oa := by rw [sM_3, rA_c (cVt_sF hM2 2 _ 18 (Or.inl (by decide)))]; exact hs
  have hP : va_P D vwCl ([] ++ va_pl L M_3) H_1 := by rw [eM_3]; exact hP
  have hD : va_D A ([] ++ va_pl L M_3) := by rw [eM_3]; exact hD
  have hW : WOK cy K L M_3 := by rw [eM_3]; exact hW.up_10 ia ⟨v2_0, 0, v2_2, rfl, h2_0⟩
  have hF : fr K L [10] M M_3 := by rw [eM_3]; exact hF.up ia (by decide)
  have hT10 : fT 10 K L [1, 2] M M_3 := by rw [eM_3]; exact hT10.up (i := 1) hM2 rfl (by decide)
  have hM_5 : M_3 oa = (b10_15 v2_0 0 v2_2) := by rw [eM_3]; exact va_up_self _ _ _
  refine lv_aload_n hx hb dX10_clear_5 rfl (lv_at hl 0 rfl) ?_
  refine lv_iconst (v := 0) hx hb dX10_clear_6 (by decide) ?_
  refine pg_put (D := D) (ci := 10) (v := .int 0) (ty := .int) (C := RX10) (T := TX10) (N := 3) hx hb hg inG10 tyX10 tyX10_ok nmX10 hown hK hP hD hS ia.1 hM_5 rfl 2 (by decide) (hg _ wd_105) (fun _ h9 => h9) rfl (by decide +kernel) rfl rfl (Nat.le_of_ble_eq_true rfl) dX10_clear_7 (fun H_6 locs hP hD hS => ?_)
  obtain ⟨M_7, eM_7⟩ : ∃ M1 : Hp, M1 = va_up M_3 oa ((b10_15 v2_0 0 0)) := ⟨_, rfl⟩
  have sM_7 : M_7 = sF M_3 oa 2 (.int 0) := eM_7.trans (sF_of (j := 2) (v := .int 0) hM_5 rfl)
  have hV : VC Bo K L Mb M_7 ha (va_up (va_up Xv 19 (0 : Int)) 16 (0 : Int)) Yv := by rw [sM_7]; have h9 := VC.u2 (v := 0) hV hW iH hs_4 hM_5 (Nat.le_of_ble_eq_true rfl); rw [show (0 : Int32).toInt = (0 : Int) from rfl] at h9; exact h9
  have hs_8 : rA 2 M_7 ha 18 = oa := by rw [sM_7, rA_c (cVt_sF hM_5 2 _ 18 (Or.inl (by decide)))]; exact hs_4
  have hP : va_P D vwCl ([] ++ va_pl L M_7) H_6 := by rw [eM_7]; exact hP
  have hD : va_D A ([] ++ va_pl L M_7) := by rw [eM_7]; exact hD
  have hW : WOK cy K L M_7 := by rw [eM_7]; exact hW.up_10 ia ⟨v2_0, 0, 0, rfl, h2_0⟩
  have hF : fr K L [10] M M_7 := by rw [eM_7]; exact hF.up ia (by decide)
  have hT10 : fT 10 K L [1, 2] M M_7 := by rw [eM_7]; exact hT10.up (i := 2) hM_5 rfl (by decide)
  have hM_9 : M_7 oa = (b10_15 v2_0 0 0) := by rw [eM_7]; exact va_up_self _ _ _
  rw [hQ]
  exact W.vret hx hb hr (fun t ht hW9 => ⟨⟨M_7, rfl, ⟨hW, hF, hT10, hV, trivial⟩, ⟨by rw [ht]; exact hP, hD⟩⟩, hS.F ht⟩) hS.2.2 dX10_clear_10
set_option maxHeartbeats 4000000 in
set_option maxRecDepth 100000 in
theorem e_floorMod (l : Launch) (D : va_G) (cy : Nat → ClassId) (K : Kp) (L : List Nat) (M : Hp) (sz : Nat) (k1 : Int32) (hW : WOK cy K L M) (hk0 : 0 ≤ k1.toInt) : Met l yJ9_floorMod_7cf53 (wsM yJ9_floorMod_7cf53 cJ9_floorMod_7cf53 3 (some .int)) ({ frames := 0, cells := 0, slots := 0, locals := 0 }) (va_Pc [.int k1, .int 60] (PG D cy [] L M sz)) (va_Qi (fun (r : Int32) (_ : Unit) => (r = (nI (k1.toInt.toNat % 60)))) (fun _ t => PQ D [] L M (va_A ([] ++ va_pl L M) sz) t) (va_A ([] ++ va_pl L M) sz)) 0 0 (va_A ([] ++ va_pl L M) sz) := by
  refine va_MetF (cc := cJ9_floorMod_7cf53) (maxL := 3) (ret := (some .int)) (by decide +kernel) rfl ?_
  intro p e s m args below meth c s₁ B hml hv
  obtain ⟨rfl, hsz, hP, hK, hD0, hN⟩ := hv
  have hx := B.exec
  have hb := B.bytes
  have hr := B.returns
  have hts := atoms_spec (ws := (wsM yJ9_floorMod_7cf53 cJ9_floorMod_7cf53 3 (some .int))) B.pre
  have hg : ∀ w ∈ lw_good, w.before _ s = true := fun w h => hts w (List.mem_cons_of_mem _ h)
  have hown : s.vm.findClass RJ9 = some m.cls := findClass_of_methodNamed B.named
  have hlocks := B.notSynchronized
  subst hsz
  have hD := hD0.self (sz := s.heap.size)
  generalize hAe : va_A ([] ++ va_pl L M) s.heap.size = A at hD ⊢
  have hA : ∀ q : Nat, s.heap.size ≤ q → A q := fun q h => by rw [← hAe]; exact Or.inr h
  have hS : va_S A s.heap s.heap [] := va_S.rf
  have hl := lv_entry ([.int k1, .int 60]) (n := 3) (Nat.le_of_ble_eq_true rfl)
  rw [lg_entry_eq]
  generalize (lg_sl ([.int k1, .int 60]) ++ List.replicate (3 - (lg_sl ([.int k1, .int 60])).length) Slot.unset).toArray = ls at hl ⊢
  refine W.nameQ (fun Q hQ => ?_)
  refine W.nameR (fun R hR => ?_)
  have hRf : 0 ≤ R.frames := by rw [hR]; exact Nat.le_of_ble_eq_true rfl
  have hRl : 0 ≤ R.locals := by rw [hR]; exact Nat.le_of_ble_eq_true rfl
  have hRc : 0 ≤ R.cells := by rw [hR]; exact Nat.le_of_ble_eq_true rfl
  have hRs : 0 ≤ R.slots := by rw [hR]; exact Nat.le_of_ble_eq_true rfl
  have hl : lv_has ls 3 [(0, .int k1), (1, .int 60)] := hl
  refine lv_iload_n hx hb dJ9_floorMod_7cf53_0 rfl (lv_at hl 0 rfl) ?_
  refine lv_iload_n hx hb dJ9_floorMod_7cf53_1 rfl (lv_at hl 1 rfl) ?_
  refine lv_irem hx hb dJ9_floorMod_7cf53_2 (by decide) ?_
  refine lv_topi (fun f_1 ef_1 => ?_)
  refine lv_istore_n (lv' := [(2, .int f_1), (0, .int k1), (1, .int 60)]) hx hb dJ9_floorMod_7cf53_3 rfl hl (by decide) rfl (fun ls hl => ?_)
  refine lv_iload_n hx hb dJ9_floorMod_7cf53_4 rfl (lv_at hl 1 rfl) ?_
  refine lv_iload_n hx hb dJ9_floorMod_7cf53_5 rfl (lv_at hl 2 rfl) ?_
  refine lv_ixor hx hb dJ9_floorMod_7cf53_6 ?_
  refine lv_topi (fun f_2 ef_2 => ?_)
  refine lv_if_ge (tgt := 18) hx hb dJ9_floorMod_7cf53_7 (by decide) (fun c_3 => ?_) (fun c_3 => ?_)
  · have hz := rfl (a := 0)
    refine lv_iload_n hx hb dJ9_floorMod_7cf53_18 rfl (lv_at hl 0 rfl) ?_
    rw [hQ]
    exact W.iret (v := f_1) hx hb hr (fun t ht hW9 => ⟨⟨f_1, (), rfl, (fm60n ef_1 hk0), ⟨by rw [ht]; exact hP, hD⟩⟩, hS.F ht⟩) hS.2.2 dJ9_floorMod_7cf53_19
  · have hz := rfl (a := 0)
    refine lv_iload_n hx hb dJ9_floorMod_7cf53_10 rfl (lv_at hl 0 rfl) ?_
    refine lv_if_eq (tgt := 18) hx hb dJ9_floorMod_7cf53_11 (by decide) (fun c_4 => ?_) (fun c_4 => ?_)
    · have hz := rfl (a := 0)
      refine lv_iload_n hx hb dJ9_floorMod_7cf53_18 rfl (lv_at hl 0 rfl) ?_
      rw [hQ]
      exact W.iret (v := f_1) hx hb hr (fun t ht hW9 => ⟨⟨f_1, (), rfl, (by exfalso; exact c_3 (by rw [ef_2]; exact (xs60 k1).mpr hk0)), ⟨by rw [ht]; exact hP, hD⟩⟩, hS.F ht⟩) hS.2.2 dJ9_floorMod_7cf53_19
    · have hz := rfl (a := 0)
      refine lv_iload_n hx hb dJ9_floorMod_7cf53_14 rfl (lv_at hl 0 rfl) ?_
      refine lv_iload_n hx hb dJ9_floorMod_7cf53_15 rfl (lv_at hl 2 rfl) ?_
      refine lv_iadd hx hb dJ9_floorMod_7cf53_16 ?_
      refine lv_topi (fun f_5 ef_5 => ?_)
      rw [hQ]
      exact W.iret (v := f_5) hx hb hr (fun t ht hW9 => ⟨⟨f_5, (), rfl, (by exfalso; exact c_3 (by rw [ef_2]; exact (xs60 k1).mpr hk0)), ⟨by rw [ht]; exact hP, hD⟩⟩, hS.F ht⟩) hS.2.2 dJ9_floorMod_7cf53_17
set_option maxHeartbeats 4000000 in
set_option maxRecDepth 100000 in
theorem e_note (l : Launch) (D : va_G) (cy : Nat → ClassId) (K : Kp) (L : List Nat) (M : Hp) (sz : Nat) (oa : Nat) (k1 : Int32) (Bo : Nat → Nat × Nat) (Mb : Hp) (ha : Nat) (Xv : Nat → Int) (Yv : Nat → Nat → Int32) (y0 : Nat) (y1 : Int32) (y2 : Int32) (hW : WOK cy K L M) (ia : isk K L oa 10 0) (iH : isk K L ha 2 0) (hV : VC Bo K L Mb M ha Xv Yv) (hs : rA 2 M ha 18 = oa) (hc : (0 ≤ Xv 16 ∧ Xv 16 ≤ 60)) (hn : (0 ≤ Xv 19 ∧ Xv 19 ≤ 1000000)) (hMy : M oa = (b10_15 y0 y1 y2)) (hy0 : isk K L y0 55 60) : Met l yX10_noteEntry (wsM yX10_noteEntry cX10_noteEntry 2 none) ({ frames := 1, cells := 0, slots := 0, locals := 22 }) (va_Pc [.ref oa, .int k1] (PG D cy [] L M sz)) (va_Qv (fun (M9 : Hp) => WOK cy K L M9 ∧ fr K L [10, 55] M M9 ∧ fT 10 K L [1, 2] M M9 ∧ (VC Bo K L Mb M9 ha (va_up (va_up Xv 19 (Xv 19 + 1)) 16 (min 60 (Xv 16 + 1))) (va_up Yv 43 (upd (Yv 43) ((Xv 19).toNat % 60) k1))) ∧ (True)) (fun M9 t => PQ D [] L M9 (va_A ([] ++ va_pl L M) sz) t) (va_A ([] ++ va_pl L M) sz)) 0 0 (va_A ([] ++ va_pl L M) sz) := by
  refine Met.ofW (cc := cX10_noteEntry) (maxL := 2) (ret := none) (by decide) rfl ?_
  intro p e s m args below meth c s₁ B hml hv
  obtain ⟨rfl, hsz, hP, hK, hD0, hN⟩ := hv
  have hx := B.exec
  have hb := B.bytes
  have hr := B.returns
  have hts := atoms_spec (ws := (wsM yX10_noteEntry cX10_noteEntry 2 none)) B.pre
  have hg : ∀ w ∈ lw_good, w.before _ s = true := fun w h => hts w (List.mem_cons_of_mem _ h)
  have hown : s.vm.findClass RX10 = some m.cls := findClass_of_methodNamed B.named
  have hlocks := B.notSynchronized
  subst hsz
  have hD := hD0.self (sz := s.heap.size)
  generalize hAe : va_A ([] ++ va_pl L M) s.heap.size = A at hD ⊢
  have hA : ∀ q : Nat, s.heap.size ≤ q → A q := fun q h => by rw [← hAe]; exact Or.inr h
  have hS : va_S A s.heap s.heap [] := va_S.rf
  have hl := lv_entry ([.ref oa, .int k1]) (n := 2) (Nat.le_of_ble_eq_true rfl)
  rw [lg_entry_eq]
  generalize (lg_sl ([.ref oa, .int k1]) ++ List.replicate (2 - (lg_sl ([.ref oa, .int k1])).length) Slot.unset).toArray = ls at hl ⊢
  refine W.nameQ (fun Q hQ => ?_)
  refine W.nameR (fun R hR => ?_)
  have hRf : 1 ≤ R.frames := by rw [hR]; exact Nat.le_of_ble_eq_true rfl
  have hRl : 22 ≤ R.locals := by rw [hR]; exact Nat.le_of_ble_eq_true rfl
  have hRc : 0 ≤ R.cells := by rw [hR]; exact Nat.le_of_ble_eq_true rfl
  have hRs : 0 ≤ R.slots := by rw [hR]; exact Nat.le_of_ble_eq_true rfl
  have hF : fr K L [10, 55] M M := fr.rf
  have hT10 : fT 10 K L [1, 2] M M := fT.rf
  have hl : lv_has ls 2 [(0, .ref oa), (1, .int k1)] := hl
  have hX16 : (cV 10 M oa 2).toInt = Xv 16 := by rw [← hs]; exact congrFun hV.2.1 16
  have hX19 : (cV 10 M oa 1).toInt = Xv 19 := by rw [← hs]; exact congrFun hV.2.1 19
  have hA_1 : (cV 10 M oa 1).toInt = (y1 : Int32).toInt := by rw [cV_of hMy rfl]
  have hA_2 : (cV 10 M oa 2).toInt = (y2 : Int32).toInt := by rw [cV_of hMy rfl]
  refine lv_aload_n hx hb dX10_noteEntry_0 rfl (lv_at hl 0 rfl) ?_
  refine pg_get (D := D) (ci := 10) (v := .ref y0) (C := RX10) (T := TX10) (N := 3) hx hb hg inG10 hown hK hP ia.1 hMy rfl 0 (by decide) (hg _ wd_106) (fun _ h9 => h9) rfl dX10_noteEntry_1 ?_
  refine lv_aload_n hx hb dX10_noteEntry_4 rfl (lv_at hl 0 rfl) ?_
  refine pg_get (D := D) (ci := 10) (v := .int y1) (C := RX10) (T := TX10) (N := 3) hx hb hg inG10 hown hK hP ia.1 hMy rfl 1 (by decide) (hg _ wd_104) (fun _ h9 => h9) rfl dX10_noteEntry_5 ?_
  refine lv_bipush (v := 60) hx hb dX10_noteEntry_8 (by decide) ?_
  have hPc : va_P D vwCl ([] ++ va_pl L M) s.heap := hP
  have hDc : va_D A ([] ++ va_pl L M) := hD
  have hFc : ∀ q, va_A ([] ++ va_pl L M) s.heap.size q → A q := pg_free hDc hS hA
  refine va_calli (va_runS (As := [.int y1, .int 60]) (rest := [.ref y0]) ⟨hx, hb, hml, hown, hg⟩ (e_floorMod l D cy K L M s.heap.size y1  hW (by omega)) (va_cwS 2 hg (gS wd_107 wd_108 wd_12 wd_109) rfl rfl rfl (by decide +kernel) ⟨(Nat.le_trans (Nat.le_of_ble_eq_true rfl) hRf), (Nat.le_trans (Nat.le_of_ble_eq_true rfl) hRl)⟩) ⟨PG.blind, fun U hU hW => ⟨rfl, PG.at hPc hK hDc hN hU hW⟩⟩ rfl rfl hl.1 rfl (lv_room (Nat.le_of_ble_eq_true rfl)) dX10_noteEntry_10 ⟨(Nat.le_trans (Nat.le_of_ble_eq_true rfl) hRc), (Nat.le_trans (Nat.le_of_ble_eq_true rfl) hRs)⟩) hS (fun q _ h => hFc q h) hFc (fun r_4 M_5 t H_3 locs ht hvm hw hB hz1 hk1 hS => ?_)
  have hp_6 := hw
  obtain ⟨hP1, hD1⟩ := hB
  rw [ht] at hP1
  have hP : va_P D vwCl ([] ++ va_pl L M) H_3 := hP1
  have hD : va_D A ([] ++ va_pl L M) := hD1.mono hFc
  obtain rfl := hp_6
  refine lv_iload_n hx hb dX10_noteEntry_13 rfl (lv_at hl 1 rfl) ?_
  obtain ⟨f7, hM7⟩ := hW.open_55 hy0
  refine pg_iast hx hb hK hP hD hS hy0.1 0 hM7 rfl (inbN (y1.toInt.toNat % 60) 60 (by omega) (by omega)) dX10_noteEntry_14 (fun H_8 locs hP hD hS => ?_)
  obtain ⟨M_9, eM_9⟩ : ∃ M1 : Hp, M1 = va_up M y0 (.inl (cy 14, 60, .inl (upd f7 ((nI (y1.toInt.toNat % 60)) : Int32).toNatClampNeg k1))) := ⟨_, rfl⟩
  have sM_9 : M_9 = sA M y0 ((nI (y1.toInt.toNat % 60)) : Int32).toNatClampNeg k1 := eM_9.trans (sA_of hM7)
  have hV : VC Bo K L Mb M_9 ha Xv (va_up Yv 43 (upd (Yv 43) ((nI (y1.toInt.toNat % 60)) : Int32).toNatClampNeg k1)) := by rw [sM_9]; exact VC.a_un hV hW iH (by rw [hs]; exact rA_of (j := 0) hMy rfl) hM7
  have hs_10 : rA 2 M_9 ha 18 = oa := by rw [sM_9, rA_c (cVt_sA _ _ _ _ _ _ _)]; exact hs
  have hP : va_P D vwCl ([] ++ va_pl L M_9) H_8 := by rw [eM_9]; exact hP
  have hD : va_D A ([] ++ va_pl L M_9) := by rw [eM_9]; exact hD
  have hW : WOK cy K L M_9 := by rw [eM_9]; exact hW.up_55 hy0 ⟨_, rfl⟩
  have hF : fr K L [10, 55] M M_9 := by rw [eM_9]; exact hF.up hy0 (by decide)
  have hT10 : fT 10 K L [1, 2] M M_9 := by rw [eM_9]; exact hT10.ne hy0 (by decide)
  have hM_11 : M_9 y0 = .inl (cy 14, 60, .inl (upd f7 ((nI (y1.toInt.toNat % 60)) : Int32).toNatClampNeg k1)) := by rw [eM_9]; exact va_up_self _ _ _
  have hM_12 : M_9 oa = (b10_15 y0 y1 y2) := by rw [eM_9, va_up_ne _ _ (ia.neT hy0 (by decide))]; exact hMy
  obtain ⟨f_13, ef_13⟩ : ∃ f : Nat → Int32, f = upd f7 ((nI (y1.toInt.toNat % 60)) : Int32).toNatClampNeg k1 := ⟨_, rfl⟩
  rw [← ef_13] at hM_11
  clear ef_13
  refine lv_aload_n hx hb dX10_noteEntry_15 rfl (lv_at hl 0 rfl) ?_
  refine lv_dup hx hb dX10_noteEntry_16 rfl ?_
  refine pg_get (D := D) (ci := 10) (v := .int y1) (C := RX10) (T := TX10) (N := 3) hx hb hg inG10 hown hK hP ia.1 hM_12 rfl 1 (by decide) (hg _ wd_104) (fun _ h9 => h9) rfl dX10_noteEntry_17 ?_
  refine lv_iconst (v := 1) hx hb dX10_noteEntry_20 (by decide) ?_
  refine lv_iadd hx hb dX10_noteEntry_21 ?_
  refine lv_topi (fun f_14 ef_14 => ?_)
  refine pg_put (D := D) (ci := 10) (v := .int f_14) (ty := .int) (C := RX10) (T := TX10) (N := 3) hx hb hg inG10 tyX10 tyX10_ok nmX10 hown hK hP hD hS ia.1 hM_12 rfl 1 (by decide) (hg _ wd_104) (fun _ h9 => h9) rfl (by decide +kernel) rfl rfl (Nat.le_of_ble_eq_true rfl) dX10_noteEntry_22 (fun H_15 locs hP hD hS => ?_)
  obtain ⟨M_16, eM_16⟩ : ∃ M1 : Hp, M1 = va_up M_9 oa ((b10_15 y0 f_14 y2)) := ⟨_, rfl⟩
  have sM_16 : M_16 = sF M_9 oa 1 (.int f_14) := eM_16.trans (sF_of (j := 1) (v := .int f_14) hM_12 rfl)
  have hV : VC Bo K L Mb M_16 ha (va_up Xv 19 (f_14 : Int32).toInt) (va_up Yv 43 (upd (Yv 43) ((nI (y1.toInt.toNat % 60)) : Int32).toNatClampNeg k1)) := by rw [sM_16]; have h9 := VC.u1 (v := f_14) hV hW iH hs_10 hM_12 (Nat.le_of_ble_eq_true rfl); rw [show (f_14 : Int32).toInt = (f_14 : Int32).toInt from rfl] at h9; exact h9
  have hs_17 : rA 2 M_16 ha 18 = oa := by rw [sM_16, rA_c (cVt_sF hM_12 2 _ 18 (Or.inl (by decide)))]; exact hs_10
  have hP : va_P D vwCl ([] ++ va_pl L M_16) H_15 := by rw [eM_16]; exact hP
  have hD : va_D A ([] ++ va_pl L M_16) := by rw [eM_16]; exact hD
  have hW : WOK cy K L M_16 := by rw [eM_16]; exact hW.up_10 ia ⟨y0, f_14, y2, rfl, hy0⟩
  have hF : fr K L [10, 55] M M_16 := by rw [eM_16]; exact hF.up ia (by decide)
  have hT10 : fT 10 K L [1, 2] M M_16 := by rw [eM_16]; exact hT10.up (i := 1) hM_12 rfl (by decide)
  have hM_18 : M_16 oa = (b10_15 y0 f_14 y2) := by rw [eM_16]; exact va_up_self _ _ _
  have hM_19 : M_16 y0 = .inl (cy 14, 60, .inl (f_13)) := by rw [eM_16, va_up_ne _ _ (hy0.neT ia (by decide))]; exact hM_11
  refine lv_aload_n hx hb dX10_noteEntry_25 rfl (lv_at hl 0 rfl) ?_
  refine lv_bipush (v := 60) hx hb dX10_noteEntry_26 (by decide) ?_
  refine lv_aload_n hx hb dX10_noteEntry_28 rfl (lv_at hl 0 rfl) ?_
  refine pg_get (D := D) (ci := 10) (v := .int y2) (C := RX10) (T := TX10) (N := 3) hx hb hg inG10 hown hK hP ia.1 hM_18 rfl 2 (by decide) (hg _ wd_105) (fun _ h9 => h9) rfl dX10_noteEntry_29 ?_
  refine lv_iconst (v := 1) hx hb dX10_noteEntry_32 (by decide) ?_
  refine lv_iadd hx hb dX10_noteEntry_33 ?_
  refine lv_topi (fun f_20 ef_20 => ?_)
  refine va_mmin hx hb (by rw [hml]; exact hl.1.symm) hown (hg _ wd_110) (hg _ wd_90) (hg _ wd_12) (hg _ wd_91) (Nat.le_trans (Nat.le_of_ble_eq_true rfl) hRf) (Nat.le_trans (Nat.le_of_ble_eq_true rfl) hRl) (Nat.le_trans (Nat.le_of_ble_eq_true rfl) hRc) (Nat.le_trans (Nat.le_of_ble_eq_true rfl) hRs) dX10_noteEntry_34 ?_
  refine lv_topi (fun f_21 ef_21 => ?_)
  have hm_22 : f_21 ≤ 60 := minL ef_21
  have hxf_21 : ((f_20 : Int32).toInt < (60 : Int) ∧ (f_21 : Int32).toInt = (f_20 : Int32).toInt) ∨ ((60 : Int) ≤ (f_20 : Int32).toInt ∧ (f_21 : Int32).toInt = (60 : Int)) := minx ef_21
  refine pg_put (D := D) (ci := 10) (v := .int f_21) (ty := .int) (C := RX10) (T := TX10) (N := 3) hx hb hg inG10 tyX10 tyX10_ok nmX10 hown hK hP hD hS ia.1 hM_18 rfl 2 (by decide) (hg _ wd_105) (fun _ h9 => h9) rfl (by decide +kernel) rfl rfl (Nat.le_of_ble_eq_true rfl) dX10_noteEntry_37 (fun H_23 locs hP hD hS => ?_)
  obtain ⟨M_24, eM_24⟩ : ∃ M1 : Hp, M1 = va_up M_16 oa ((b10_15 y0 f_14 f_21)) := ⟨_, rfl⟩
  have sM_24 : M_24 = sF M_16 oa 2 (.int f_21) := eM_24.trans (sF_of (j := 2) (v := .int f_21) hM_18 rfl)
  have hV : VC Bo K L Mb M_24 ha (va_up (va_up Xv 19 (f_14 : Int32).toInt) 16 (f_21 : Int32).toInt) (va_up Yv 43 (upd (Yv 43) ((nI (y1.toInt.toNat % 60)) : Int32).toNatClampNeg k1)) := by rw [sM_24]; have h9 := VC.u2 (v := f_21) hV hW iH hs_17 hM_18 (Nat.le_of_ble_eq_true rfl); rw [show (f_21 : Int32).toInt = (f_21 : Int32).toInt from rfl] at h9; exact h9
  have hs_25 : rA 2 M_24 ha 18 = oa := by rw [sM_24, rA_c (cVt_sF hM_18 2 _ 18 (Or.inl (by decide)))]; exact hs_17
  have hP : va_P D vwCl ([] ++ va_pl L M_24) H_23 := by rw [eM_24]; exact hP
  have hD : va_D A ([] ++ va_pl L M_24) := by rw [eM_24]; exact hD
  have hW : WOK cy K L M_24 := by rw [eM_24]; exact hW.up_10 ia ⟨y0, f_14, f_21, rfl, hy0⟩
  have hF : fr K L [10, 55] M M_24 := by rw [eM_24]; exact hF.up ia (by decide)
  have hT10 : fT 10 K L [1, 2] M M_24 := by rw [eM_24]; exact hT10.up (i := 2) hM_18 rfl (by decide)
  have hM_26 : M_24 oa = (b10_15 y0 f_14 f_21) := by rw [eM_24]; exact va_up_self _ _ _
  have hM_27 : M_24 y0 = .inl (cy 14, 60, .inl (f_13)) := by rw [eM_24, va_up_ne _ _ (hy0.neT ia (by decide))]; exact hM_19
  have hI_28 : (f_14 : Int32).toInt = (y1 : Int32).toInt + (1 : Int) := iaddI rfl rfl ef_14 (by omega) (by omega)
  have hI_29 : (f_20 : Int32).toInt = (y2 : Int32).toInt + (1 : Int) := iaddI rfl rfl ef_20 (by omega) (by omega)
  have hI_30 : (f_21 : Int32).toInt ≤ (60 : Int) := ileI rfl rfl hm_22
  rw [hQ]
  exact W.vret hx hb hr (fun t ht hW9 => ⟨⟨M_24, rfl, ⟨hW, hF, hT10, (hV.cg (by rw [show (f_14 : Int32).toInt = Xv 19 + 1 by omega, show (f_21 : Int32).toInt = min 60 (Xv 16 + 1) by omega]) (by rw [nI_cl (by omega), show (y1 : Int32).toInt = Xv 19 by omega])), trivial⟩, ⟨by rw [ht]; exact hP, hD⟩⟩, hS.F ht⟩) hS.2.2 dX10_noteEntry_40
set_option maxHeartbeats 4000000 in
set_option maxRecDepth 100000 in
theorem e_noteM (l : Launch) (D : va_G) (cy : Nat → ClassId) (K : Kp) (L : List Nat) (M : Hp) (sz : Nat) (oa : Nat) (Bo : Nat → Nat × Nat) (Mb : Hp) (ha : Nat) (Xv : Nat → Int) (Yv : Nat → Nat → Int32) (hW : WOK cy K L M) (ia : isk K L oa 10 0) (iH : isk K L ha 2 0) (hV : VC Bo K L Mb M ha Xv Yv) (hs : rA 2 M ha 18 = oa) (hc : (0 ≤ Xv 16 ∧ Xv 16 ≤ 60)) (hn : (0 ≤ Xv 19 ∧ Xv 19 ≤ 1000000)) : Met l yX10_noteMove (wsM yX10_noteMove cX10_noteMove 1 none) ({ frames := 2, cells := 0, slots := 0, locals := 43 }) (va_Pc [.ref oa] (PG D cy [] L M sz)) (va_Qv (fun (M9 : Hp) => WOK cy K L M9 ∧ fr K L [10, 55] M M9 ∧ fT 10 K L [1, 2] M M9 ∧ (VC Bo K L Mb M9 ha (va_up (va_up Xv 19 (Xv 19 + 1)) 16 (min 60 (Xv 16 + 1))) (va_up Yv 43 (upd (Yv 43) ((Xv 19).toNat % 60) (-1)))) ∧ (True)) (fun M9 t => PQ D [] L M9 (va_A ([] ++ va_pl L M) sz) t) (va_A ([] ++ va_pl L M) sz)) 0 0 (va_A ([] ++ va_pl L M) sz) := by
  refine Met.ofW (cc := cX10_noteMove) (maxL := 1) (ret := none) (by decide) rfl ?_
  intro p e s m args below meth c s₁ B hml hv
  obtain ⟨rfl, hsz, hP, hK, hD0, hN⟩ := hv
  have hx := B.exec
  have hb := B.bytes
  have hr := B.returns
  have hts := atoms_spec (ws := (wsM yX10_noteMove cX10_noteMove 1 none)) B.pre
  have hg : ∀ w ∈ lw_good, w.before _ s = true := fun w h => hts w (List.mem_cons_of_mem _ h)
  have hown : s.vm.findClass RX10 = some m.cls := findClass_of_methodNamed B.named
  have hlocks := B.notSynchronized
  subst hsz
  have hD := hD0.self (sz := s.heap.size)
  generalize hAe : va_A ([] ++ va_pl L M) s.heap.size = A at hD ⊢
  have hA : ∀ q : Nat, s.heap.size ≤ q → A q := fun q h => by rw [← hAe]; exact Or.inr h
  have hS : va_S A s.heap s.heap [] := va_S.rf
  have hl := lv_entry ([.ref oa]) (n := 1) (Nat.le_of_ble_eq_true rfl)
  rw [lg_entry_eq]
  generalize (lg_sl ([.ref oa]) ++ List.replicate (1 - (lg_sl ([.ref oa])).length) Slot.unset).toArray = ls at hl ⊢
  refine W.nameQ (fun Q hQ => ?_)
  refine W.nameR (fun R hR => ?_)
  have hRf : 2 ≤ R.frames := by rw [hR]; exact Nat.le_of_ble_eq_true rfl
  have hRl : 43 ≤ R.locals := by rw [hR]; exact Nat.le_of_ble_eq_true rfl
  have hRc : 0 ≤ R.cells := by rw [hR]; exact Nat.le_of_ble_eq_true rfl
  have hRs : 0 ≤ R.slots := by rw [hR]; exact Nat.le_of_ble_eq_true rfl
  have hF : fr K L [10, 55] M M := fr.rf
  have hT10 : fT 10 K L [1, 2] M M := fT.rf
  have hl : lv_has ls 1 [(0, .ref oa)] := hl
  refine lv_aload_n hx hb dX10_noteMove_0 rfl (lv_at hl 0 rfl) ?_
  refine lv_iconst (v := (-1)) hx hb dX10_noteMove_1 (by decide) ?_
  obtain ⟨v1_0, v1_1, v1_2, hM1, h1_0⟩ := hW.open_10 ia
  have hPc : va_P D vwCl ([] ++ va_pl L M) s.heap := hP
  have hDc : va_D A ([] ++ va_pl L M) := hD
  have hFc : ∀ q, va_A ([] ++ va_pl L M) s.heap.size q → A q := pg_free hDc hS hA
  have hA_2 : (cV 10 M oa 1).toInt = (v1_1 : Int32).toInt := by rw [cV_of hM1 rfl]
  have hA_3 : (cV 10 M oa 2).toInt = (v1_2 : Int32).toInt := by rw [cV_of hM1 rfl]
  have hI_4 : Xv 16 = (Xv 16) := rfl
  have hI_5 : Xv 19 = (Xv 19) := rfl
  refine va_callv (va_runV (As := [.int (-1)]) (rest := []) ⟨hx, hb, hml, hown, hg⟩ (e_note l D cy K L M s.heap.size oa (-1) Bo Mb ha Xv Yv v1_0 v1_1 v1_2 hW ia iH hV hs hc hn hM1 h1_0) (cwV 1 hg (gV wd_111 wd_112 wd_113 wd_114 wd_115) rfl rfl rfl (by decide +kernel) ⟨(Nat.le_trans (Nat.le_of_ble_eq_true rfl) hRf), (Nat.le_trans (Nat.le_of_ble_eq_true rfl) hRl)⟩) ⟨PG.blind, pg_recv hK hP ia.1 hM1 rfl, fun U hU hW => ⟨rfl, PG.at hPc hK hDc hN hU hW⟩⟩ rfl rfl hl.1 rfl (lv_room (Nat.le_of_ble_eq_true rfl)) dX10_noteMove_2 ⟨(Nat.le_trans (Nat.le_of_ble_eq_true rfl) hRc), (Nat.le_trans (Nat.le_of_ble_eq_true rfl) hRs)⟩) hS (fun q _ h => hFc q h) hFc (fun M_8 t H_6 locs ht hvm hw hB hz1 hk1 hS => ?_)
  have hWb := hW
  obtain ⟨hW, hF2, gT10, hVP, hp_9⟩ := hw
  obtain ⟨hP1, hD1⟩ := hB
  rw [ht] at hP1
  have hP : va_P D vwCl ([] ++ va_pl L M_8) H_6 := hP1
  have hD : va_D A ([] ++ va_pl L M_8) := hD1.mono hFc
  have hF : fr K L [10, 55] M M_8 := hF.tr hF2 (by decide)
  have hT10 : fT 10 K L [1, 2] M M_8 := hT10.tr gT10 (by decide)
  have hV : VC Bo K L Mb M_8 ha (va_up (va_up Xv 19 (Xv 19 + 1)) 16 (min 60 (Xv 16 + 1))) (va_up Yv 43 (upd (Yv 43) ((Xv 19).toNat % 60) (-1))) := hVP
  have hs_10 : rA 2 M_8 ha 18 = oa := by rw [rA_c ((fr.cv hF2 (by decide)) _ iH 18 rfl)]; exact hs
  rw [hQ]
  exact W.vret hx hb hr (fun t ht hW9 => ⟨⟨M_8, rfl, ⟨hW, hF, hT10, hV, trivial⟩, ⟨by rw [ht]; exact hP, hD⟩⟩, hS.F ht⟩) hS.2.2 dX10_noteMove_5
