/-- S is what the reference keeps -/
def ZSx (z1 n : Nat) (SX : Nat → Nat → Int) (SY : Nat → Nat → Nat → Int32) (M : Hp) : Prop := ∀ k a, k < n → RFc (M z1) k = some a → fx M a = SX k ∧ ax M a = SY k
theorem ZSx.fin {cy : Nat → ClassId} {K : Kp} {L : List Nat} {M M1 : Hp} {z1 n k b : Nat} {SX : Nat → Nat → Int} {SY : Nat → Nat → Nat → Int32} {X X' : Nat → Int} {Y Y' : Nat → Nat → Int32} (hW : WOM cy K L M) (i1 : isk K L z1 23 8) (hn : n ≤ 8) (h : ZSx z1 n SX SY M) (hd : ∀ i j a, i < 8 → j < 8 → RFc (M z1) i = some a → RFc (M z1) j = some a → i = j) (hk : k < n) (hb : RFc (M z1) k = some b) (hV : VW K L M M1 b X Y) (hq : M1 z1 = M z1) (eX : X = X') (eY : Y = Y') : ZSx z1 n (va_up SX k X') (va_up SY k Y') M1 := fun j a hj ha => by
  rw [hq] at ha
  by_cases z : j = k
  · subst z
    have e : a = b := Option.some.inj (ha.symm.trans hb)
    rw [va_up_self, va_up_self, e]
    exact ⟨hV.2.1.trans eX, hV.2.2.1.trans eY⟩
  · have hab : a ≠ b := fun w => z (hd j k a (by omega) (by omega) ha (by rw [w]; exact hb))
    have hv := hV.1 a (hs23 hW i1 (by omega) ha) hab
    rw [va_up_ne _ _ z, va_up_ne _ _ z, hv.1, hv.2]
    exact h j a hj ha
theorem ZSx.mv {cy : Nat → ClassId} {K : Kp} {L ts js : List Nat} {M M1 : Hp} {z1 n : Nat} {SX : Nat → Nat → Int} {SY : Nat → Nat → Nat → Int32} (hW : WOM cy K L M) (hW1 : WOM cy K L M1) (i1 : isk K L z1 23 8) (hn : n ≤ 8) (h : ZSx z1 n SX SY M) (hF : fr K L ts M M1) (hG : fG K L js M M1) (h23 : 23 ∉ ts) (ht : ∀ t ∈ ts, t ∉ [37, 35, 74, 33, 30, 31, 75, 41, 42, 76, 34, 16, 43, 77, 78, 38, 79, 80, 81, 44, 82, 36, 45, 46, 85, 84]) (hjs : ∀ j ∈ js, fi j = false ∧ tgx j = 0) : ZSx z1 n SX SY M1 := fun k a hk ha => by
  rw [hF.at i1 h23] at ha
  have hs := seen hW hW1 hF hG ht hjs (hs23 hW i1 (by omega) ha)
  rw [hs.1, hs.2.1]
  exact h k a hk ha
theorem va_upJ {α : Type} (f : Nat → α) (k : Nat) : va_up f k (f k) = f := by
  funext j
  by_cases q : j = k
  · rw [q, va_up_self]
  · rw [va_up_ne _ _ q]
set_option maxHeartbeats 4000000 in
set_option maxRecDepth 100000 in
theorem z_where (l : Launch) (D : va_G) (cy : Nat → ClassId) (K : Kp) (L : List Nat) (M : Hp) (sz : Nat) (za : Nat) (z0 : Int32) (z1 : Nat) (z2 : Nat) (z3 : Nat) (z4 : Int32) (z5 : Int32) (z6 : Nat) (z7 : Nat) (z8 : Nat) (z9 : Nat) (z10 : Nat) (z11 : Nat) (z12 : Nat) (z13 : Nat) (z14 : Nat) (z15 : Nat) (z16 : Nat) (z17 : Nat) (z18 : Int32) (z19 : Nat) (hW : WOM cy K L M) (i1 : isk K L z1 23 8) (b2 : z2 ≤ 8) (b3 : z3 ≤ 40) (i6 : isk K L z6 47 40) (i7 : isk K L z7 48 40) (i8 : isk K L z8 49 8) (i9 : isk K L z9 50 8) (b10 : z10 ≤ 8) (i11 : isk K L z11 32 24) (i12 : isk K L z12 14 24) (i13 : isk K L z13 97 24) (i14 : isk K L z14 98 24) (i15 : isk K L z15 99 24) (b16 : z16 ≤ 24) (i17 : isk K L z17 14 24) (i19 : isk K L z19 15 25) : Met l yX13_where (wsM yX13_where cX13_where 1 (some .int)) ({ frames := 0, cells := 0, slots := 0, locals := 0 }) (va_Pc [.ref za] (PG D cy [(za, (b13_0 z0 z1 (nI z2) (nI z3) z4 z5 z6 z7 z8 z9 (nI z10) z11 z12 z13 z14 z15 (nI z16) z17 z18 z19))] L M sz)) (va_Qi (fun (r : Int32) (_ : Unit) => (r = z5)) (fun _ t => PQ D [(za, (b13_0 0 z1 (nI z2) (nI z3) z4 z5 z6 z7 z8 z9 (nI z10) z11 z12 z13 z14 z15 (nI z16) z17 z18 z19))] L M (va_A ([(za, (b13_0 z0 z1 (nI z2) (nI z3) z4 z5 z6 z7 z8 z9 (nI z10) z11 z12 z13 z14 z15 (nI z16) z17 z18 z19))] ++ va_pl L M) sz) t) (va_A ([(za, (b13_0 z0 z1 (nI z2) (nI z3) z4 z5 z6 z7 z8 z9 (nI z10) z11 z12 z13 z14 z15 (nI z16) z17 z18 z19))] ++ va_pl L M) sz)) 0 0 (va_A ([(za, (b13_0 z0 z1 (nI z2) (nI z3) z4 z5 z6 z7 z8 z9 (nI z10) z11 z12 z13 z14 z15 (nI z16) z17 z18 z19))] ++ va_pl L M) sz) := by
  refine Met.ofW (cc := cX13_where) (maxL := 1) (ret := (some .int)) (by decide) rfl ?_
  intro p e s m args below meth c s₁ B hml hv
  obtain ⟨rfl, hsz, hP, hK, hD0, hN⟩ := hv
  have hx := B.exec
  have hb := B.bytes
  have hr := B.returns
  have hts := atoms_spec (ws := (wsM yX13_where cX13_where 1 (some .int))) B.pre
  have hg : ∀ w ∈ lw_good, w.before _ s = true := fun w h => hts w (List.mem_cons_of_mem _ h)
  have hown : s.vm.findClass RX13 = some m.cls := findClass_of_methodNamed B.named
  have hlocks := B.notSynchronized
  subst hsz
  have hD := hD0.self (sz := s.heap.size)
  generalize hAe : va_A ([(za, (b13_0 z0 z1 (nI z2) (nI z3) z4 z5 z6 z7 z8 z9 (nI z10) z11 z12 z13 z14 z15 (nI z16) z17 z18 z19))] ++ va_pl L M) s.heap.size = A at hD ⊢
  have hA : ∀ q : Nat, s.heap.size ≤ q → A q := fun q h => by rw [← hAe]; exact Or.inr h
  have hS : va_S A s.heap s.heap [] := va_S.rf
  have hl := lv_entry ([.ref za]) (n := 1) (Nat.le_of_ble_eq_true rfl)
  rw [lg_entry_eq]
  generalize (lg_sl ([.ref za]) ++ List.replicate (1 - (lg_sl ([.ref za])).length) Slot.unset).toArray = ls at hl ⊢
  refine W.nameQ (fun Q hQ => ?_)
  refine W.nameR (fun R hR => ?_)
  have hRf : 0 ≤ R.frames := by rw [hR]; exact Nat.le_of_ble_eq_true rfl
  have hRl : 0 ≤ R.locals := by rw [hR]; exact Nat.le_of_ble_eq_true rfl
  have hRc : 0 ≤ R.cells := by rw [hR]; exact Nat.le_of_ble_eq_true rfl
  have hRs : 0 ≤ R.slots := by rw [hR]; exact Nat.le_of_ble_eq_true rfl
  have hl : lv_has ls 1 [(0, .ref za)] := hl
  refine lv_aload_n hx hb dX13_where_0 rfl (lv_at hl 0 rfl) ?_
  refine lv_iconst (v := 0) hx hb dX13_where_1 (by decide) ?_
  refine va_put (D := D) (ci := 13) (v := .int 0) (ty := .int) (C := RX13) (T := TX13) (N := 20) hx hb hg inG13 tyX13 tyX13_ok nmX13 hown hK hP hD hS 0 rfl rfl 0 (by decide) (hg _ wd_720) (fun _ h9 => h9) rfl (by decide +kernel) rfl rfl (Nat.le_of_ble_eq_true rfl) dX13_where_2 (fun H_1 locs hP hD hS => ?_)
  have hP : va_P D vwCl ([(za, (b13_0 0 z1 (nI z2) (nI z3) z4 z5 z6 z7 z8 z9 (nI z10) z11 z12 z13 z14 z15 (nI z16) z17 z18 z19))] ++ va_pl L M) H_1 := hP
  have hD : va_D A ([(za, (b13_0 0 z1 (nI z2) (nI z3) z4 z5 z6 z7 z8 z9 (nI z10) z11 z12 z13 z14 z15 (nI z16) z17 z18 z19))] ++ va_pl L M) := hD
  refine lv_aload_n hx hb dX13_where_5 rfl (lv_at hl 0 rfl) ?_
  refine va_get (D := D) (ci := 13) (v := .int z5) (C := RX13) (T := TX13) (N := 20) hx hb hg inG13 hown hK hP 0 rfl rfl 5 (by decide) (hg _ wd_711) (fun _ h9 => h9) rfl dX13_where_6 ?_
  rw [hQ]
  exact W.iret (v := z5) hx hb hr (fun t ht hW9 => ⟨⟨z5, (), rfl, rfl, ⟨by rw [ht]; exact hP, hD⟩⟩, hS.F ht⟩) hS.2.2 dX13_where_9
set_option maxHeartbeats 4000000 in
set_option maxRecDepth 100000 in
theorem f_isHouse (l : Launch) (D : va_G) (cy : Nat → ClassId) (K : Kp) (L : List Nat) (M : Hp) (sz : Nat) (za : Nat) (z0 : Int32) (z1 : Nat) (z2 : Nat) (z3 : Nat) (z4 : Int32) (z5 : Int32) (z6 : Nat) (z7 : Nat) (z8 : Nat) (z9 : Nat) (z10 : Nat) (z11 : Nat) (z12 : Nat) (z13 : Nat) (z14 : Nat) (z15 : Nat) (z16 : Nat) (z17 : Nat) (z18 : Int32) (z19 : Nat) (k1 : Int32) (hW : WOM cy K L M) (i1 : isk K L z1 23 8) (b2 : z2 ≤ 8) (b3 : z3 ≤ 40) (i6 : isk K L z6 47 40) (i7 : isk K L z7 48 40) (i8 : isk K L z8 49 8) (i9 : isk K L z9 50 8) (b10 : z10 ≤ 8) (i11 : isk K L z11 32 24) (i12 : isk K L z12 14 24) (i13 : isk K L z13 97 24) (i14 : isk K L z14 98 24) (i15 : isk K L z15 99 24) (b16 : z16 ≤ 24) (i17 : isk K L z17 14 24) (i19 : isk K L z19 15 25) : Met l yX13_isHouse (wsM yX13_isHouse cX13_isHouse 2 (some .boolean)) ({ frames := 0, cells := 0, slots := 0, locals := 0 }) (va_Pc [.ref za, .int k1] (PG D cy [(za, (b13_0 z0 z1 (nI z2) (nI z3) z4 z5 z6 z7 z8 z9 (nI z10) z11 z12 z13 z14 z15 (nI z16) z17 z18 z19))] L M sz)) (va_Qi (fun (r : Int32) (_ : Unit) => (r = 1 ∧ (0 ≤ k1.toInt ∧ k1.toInt < (z2 : Int)) ∧ ¬ k1 < 0 ∧ ¬ (nI z2) ≤ k1) ∨ (r = 0 ∧ ¬ (0 ≤ k1.toInt ∧ k1.toInt < (z2 : Int)))) (fun _ t => PQ D [(za, (b13_0 z0 z1 (nI z2) (nI z3) z4 z5 z6 z7 z8 z9 (nI z10) z11 z12 z13 z14 z15 (nI z16) z17 z18 z19))] L M (va_A ([(za, (b13_0 z0 z1 (nI z2) (nI z3) z4 z5 z6 z7 z8 z9 (nI z10) z11 z12 z13 z14 z15 (nI z16) z17 z18 z19))] ++ va_pl L M) sz) t) (va_A ([(za, (b13_0 z0 z1 (nI z2) (nI z3) z4 z5 z6 z7 z8 z9 (nI z10) z11 z12 z13 z14 z15 (nI z16) z17 z18 z19))] ++ va_pl L M) sz)) 0 0 (va_A ([(za, (b13_0 z0 z1 (nI z2) (nI z3) z4 z5 z6 z7 z8 z9 (nI z10) z11 z12 z13 z14 z15 (nI z16) z17 z18 z19))] ++ va_pl L M) sz) := by
  refine Met.ofW (cc := cX13_isHouse) (maxL := 2) (ret := (some .boolean)) (by decide) rfl ?_
  intro p e s m args below meth c s₁ B hml hv
  obtain ⟨rfl, hsz, hP, hK, hD0, hN⟩ := hv
  have hx := B.exec
  have hb := B.bytes
  have hr := B.returns
  have hts := atoms_spec (ws := (wsM yX13_isHouse cX13_isHouse 2 (some .boolean))) B.pre
  have hg : ∀ w ∈ lw_good, w.before _ s = true := fun w h => hts w (List.mem_cons_of_mem _ h)
  have hown : s.vm.findClass RX13 = some m.cls := findClass_of_methodNamed B.named
  have hlocks := B.notSynchronized
  subst hsz
  have hD := hD0.self (sz := s.heap.size)
  generalize hAe : va_A ([(za, (b13_0 z0 z1 (nI z2) (nI z3) z4 z5 z6 z7 z8 z9 (nI z10) z11 z12 z13 z14 z15 (nI z16) z17 z18 z19))] ++ va_pl L M) s.heap.size = A at hD ⊢
  have hA : ∀ q : Nat, s.heap.size ≤ q → A q := fun q h => by rw [← hAe]; exact Or.inr h
  have hS : va_S A s.heap s.heap [] := va_S.rf
  have hl := lv_entry ([.ref za, .int k1]) (n := 2) (Nat.le_of_ble_eq_true rfl)
  rw [lg_entry_eq]
  generalize (lg_sl ([.ref za, .int k1]) ++ List.replicate (2 - (lg_sl ([.ref za, .int k1])).length) Slot.unset).toArray = ls at hl ⊢
  refine W.nameQ (fun Q hQ => ?_)
  refine W.nameR (fun R hR => ?_)
  have hRf : 0 ≤ R.frames := by rw [hR]; exact Nat.le_of_ble_eq_true rfl
  have hRl : 0 ≤ R.locals := by rw [hR]; exact Nat.le_of_ble_eq_true rfl
  have hRc : 0 ≤ R.cells := by rw [hR]; exact Nat.le_of_ble_eq_true rfl
  have hRs : 0 ≤ R.slots := by rw [hR]; exact Nat.le_of_ble_eq_true rfl
  have hl : lv_has ls 2 [(0, .ref za), (1, .int k1)] := hl
  refine lv_iload_n hx hb dX13_isHouse_0 rfl (lv_at hl 1 rfl) ?_
  refine lv_if_lt (tgt := 16) hx hb dX13_isHouse_1 (by decide) (fun c_1 => ?_) (fun c_1 => ?_)
  · have hz := rfl (a := 0)
    refine lv_iconst (v := 0) hx hb dX13_isHouse_16 (by decide) ?_
    have hI_2 : (k1 : Int32).toInt < (0 : Int) := iltI rfl rfl c_1
    rw [hQ]
    exact W.zret (v := 0) hx hb hr rfl (fun t ht hW9 => ⟨⟨0, (), rfl, (Or.inr ⟨rfl, by omega⟩), ⟨by rw [ht]; exact hP, hD⟩⟩, hS.F ht⟩) hS.2.2 dX13_isHouse_17
  · have hz := rfl (a := 0)
    refine lv_iload_n hx hb dX13_isHouse_4 rfl (lv_at hl 1 rfl) ?_
    refine lv_aload_n hx hb dX13_isHouse_5 rfl (lv_at hl 0 rfl) ?_
    refine va_get (D := D) (ci := 13) (v := .int (nI z2)) (C := RX13) (T := TX13) (N := 20) hx hb hg inG13 hown hK hP 0 rfl rfl 2 (by decide) (hg _ wd_713) (fun _ h9 => h9) rfl dX13_isHouse_6 ?_
    refine lv_icmp_ge (tgt := 16) hx hb dX13_isHouse_9 (by decide) (fun c_3 => ?_) (fun c_3 => ?_)
    · have hz := rfl (a := 0)
      refine lv_iconst (v := 0) hx hb dX13_isHouse_16 (by decide) ?_
      have hI_4 : (0 : Int) ≤ (k1 : Int32).toInt := inltI rfl rfl c_1
      have hI_5 : ((z2 : Nat) : Int) ≤ (k1 : Int32).toInt := ileI (nI_toInt (by omega)) rfl c_3
      rw [hQ]
      exact W.zret (v := 0) hx hb hr rfl (fun t ht hW9 => ⟨⟨0, (), rfl, (Or.inr ⟨rfl, by omega⟩), ⟨by rw [ht]; exact hP, hD⟩⟩, hS.F ht⟩) hS.2.2 dX13_isHouse_17
    · have hz := rfl (a := 0)
      have n_6 : ¬ 8 ≤ k1 := ltB (b := 8) (by decide) (by omega) (Int32.not_le.mp c_3)
      refine lv_iconst (v := 1) hx hb dX13_isHouse_12 (by decide) ?_
      refine lv_goto (tgt := 17) hx hb dX13_isHouse_13 (by decide) ?_
      have hI_7 : (0 : Int) ≤ (k1 : Int32).toInt := inltI rfl rfl c_1
      have hI_8 : (k1 : Int32).toInt < ((z2 : Nat) : Int) := inleI (nI_toInt (by omega)) rfl c_3
      have hI_9 : (k1 : Int32).toInt < (8 : Int) := inleI rfl rfl n_6
      rw [hQ]
      exact W.zret (v := 1) hx hb hr rfl (fun t ht hW9 => ⟨⟨1, (), rfl, (Or.inl ⟨rfl, by omega, c_1, c_3⟩), ⟨by rw [ht]; exact hP, hD⟩⟩, hS.F ht⟩) hS.2.2 dX13_isHouse_17
set_option maxHeartbeats 4000000 in
set_option maxRecDepth 100000 in
theorem f_isSeat (l : Launch) (D : va_G) (cy : Nat → ClassId) (K : Kp) (L : List Nat) (M : Hp) (sz : Nat) (za : Nat) (z0 : Int32) (z1 : Nat) (z2 : Nat) (z3 : Nat) (z4 : Int32) (z5 : Int32) (z6 : Nat) (z7 : Nat) (z8 : Nat) (z9 : Nat) (z10 : Nat) (z11 : Nat) (z12 : Nat) (z13 : Nat) (z14 : Nat) (z15 : Nat) (z16 : Nat) (z17 : Nat) (z18 : Int32) (z19 : Nat) (k1 : Int32) (k2 : Int32) (hW : WOM cy K L M) (i1 : isk K L z1 23 8) (b2 : z2 ≤ 8) (b3 : z3 ≤ 40) (i6 : isk K L z6 47 40) (i7 : isk K L z7 48 40) (i8 : isk K L z8 49 8) (i9 : isk K L z9 50 8) (b10 : z10 ≤ 8) (i11 : isk K L z11 32 24) (i12 : isk K L z12 14 24) (i13 : isk K L z13 97 24) (i14 : isk K L z14 98 24) (i15 : isk K L z15 99 24) (b16 : z16 ≤ 24) (i17 : isk K L z17 14 24) (i19 : isk K L z19 15 25) : Met l yX13_isSeat (wsM yX13_isSeat cX13_isSeat 3 (some .boolean)) ({ frames := 1, cells := 0, slots := 0, locals := 21 }) (va_Pc [.ref za, .int k1, .int k2] (PG D cy [(za, (b13_0 z0 z1 (nI z2) (nI z3) z4 z5 z6 z7 z8 z9 (nI z10) z11 z12 z13 z14 z15 (nI z16) z17 z18 z19))] L M sz)) (va_Qi (fun (r : Int32) (_ : Unit) => (r = 1 ∧ (0 ≤ k1.toInt ∧ k1.toInt < (z2 : Int) ∧ 0 ≤ k2.toInt ∧ k2.toInt < 6) ∧ ¬ k1 < 0 ∧ ¬ (nI z2) ≤ k1 ∧ ¬ k2 < 0 ∧ ¬ 6 ≤ k2) ∨ (r = 0 ∧ ¬ (0 ≤ k1.toInt ∧ k1.toInt < (z2 : Int) ∧ 0 ≤ k2.toInt ∧ k2.toInt < 6))) (fun _ t => PQ D [(za, (b13_0 z0 z1 (nI z2) (nI z3) z4 z5 z6 z7 z8 z9 (nI z10) z11 z12 z13 z14 z15 (nI z16) z17 z18 z19))] L M (va_A ([(za, (b13_0 z0 z1 (nI z2) (nI z3) z4 z5 z6 z7 z8 z9 (nI z10) z11 z12 z13 z14 z15 (nI z16) z17 z18 z19))] ++ va_pl L M) sz) t) (va_A ([(za, (b13_0 z0 z1 (nI z2) (nI z3) z4 z5 z6 z7 z8 z9 (nI z10) z11 z12 z13 z14 z15 (nI z16) z17 z18 z19))] ++ va_pl L M) sz)) 0 0 (va_A ([(za, (b13_0 z0 z1 (nI z2) (nI z3) z4 z5 z6 z7 z8 z9 (nI z10) z11 z12 z13 z14 z15 (nI z16) z17 z18 z19))] ++ va_pl L M) sz) := by
  refine Met.ofW (cc := cX13_isSeat) (maxL := 3) (ret := (some .boolean)) (by decide) rfl ?_
  intro p e s m args below meth c s₁ B hml hv
  obtain ⟨rfl, hsz, hP, hK, hD0, hN⟩ := hv
  have hx := B.exec
  have hb := B.bytes
  have hr := B.returns
  have hts := atoms_spec (ws := (wsM yX13_isSeat cX13_isSeat 3 (some .boolean))) B.pre
  have hg : ∀ w ∈ lw_good, w.before _ s = true := fun w h => hts w (List.mem_cons_of_mem _ h)
  have hown : s.vm.findClass RX13 = some m.cls := findClass_of_methodNamed B.named
  have hlocks := B.notSynchronized
  subst hsz
  have hD := hD0.self (sz := s.heap.size)
  generalize hAe : va_A ([(za, (b13_0 z0 z1 (nI z2) (nI z3) z4 z5 z6 z7 z8 z9 (nI z10) z11 z12 z13 z14 z15 (nI z16) z17 z18 z19))] ++ va_pl L M) s.heap.size = A at hD ⊢
  have hA : ∀ q : Nat, s.heap.size ≤ q → A q := fun q h => by rw [← hAe]; exact Or.inr h
  have hS : va_S A s.heap s.heap [] := va_S.rf
  have hl := lv_entry ([.ref za, .int k1, .int k2]) (n := 3) (Nat.le_of_ble_eq_true rfl)
  rw [lg_entry_eq]
  generalize (lg_sl ([.ref za, .int k1, .int k2]) ++ List.replicate (3 - (lg_sl ([.ref za, .int k1, .int k2])).length) Slot.unset).toArray = ls at hl ⊢
  refine W.nameQ (fun Q hQ => ?_)
  refine W.nameR (fun R hR => ?_)
  have hRf : 1 ≤ R.frames := by rw [hR]; exact Nat.le_of_ble_eq_true rfl
  have hRl : 21 ≤ R.locals := by rw [hR]; exact Nat.le_of_ble_eq_true rfl
  have hRc : 0 ≤ R.cells := by rw [hR]; exact Nat.le_of_ble_eq_true rfl
  have hRs : 0 ≤ R.slots := by rw [hR]; exact Nat.le_of_ble_eq_true rfl
  have hl : lv_has ls 3 [(0, .ref za), (1, .int k1), (2, .int k2)] := hl
  refine lv_aload_n hx hb dX13_isSeat_0 rfl (lv_at hl 0 rfl) ?_
  refine lv_iload_n hx hb dX13_isSeat_1 rfl (lv_at hl 1 rfl) ?_
  have hPc : va_P D vwCl ([(za, (b13_0 z0 z1 (nI z2) (nI z3) z4 z5 z6 z7 z8 z9 (nI z10) z11 z12 z13 z14 z15 (nI z16) z17 z18 z19))] ++ va_pl L M) s.heap := hP
  have hDc : va_D A ([(za, (b13_0 z0 z1 (nI z2) (nI z3) z4 z5 z6 z7 z8 z9 (nI z10) z11 z12 z13 z14 z15 (nI z16) z17 z18 z19))] ++ va_pl L M) := hD
  have hFc : ∀ q, va_A ([(za, (b13_0 z0 z1 (nI z2) (nI z3) z4 z5 z6 z7 z8 z9 (nI z10) z11 z12 z13 z14 z15 (nI z16) z17 z18 z19))] ++ va_pl L M) s.heap.size q → A q := pg_free hDc hS hA
  refine va_calli (va_runV (As := [.int k1]) (rest := []) ⟨hx, hb, hml, hown, hg⟩ (f_isHouse l D cy K L M s.heap.size za z0 z1 z2 z3 z4 z5 z6 z7 z8 z9 z10 z11 z12 z13 z14 z15 z16 z17 z18 z19 k1  hW i1 b2 b3 i6 i7 i8 i9 b10 i11 i12 i13 i14 i15 b16 i17 i19) (cwV 1 hg (gV wd_714 wd_715 wd_716 wd_717 wd_718) rfl rfl rfl (by decide +kernel) ⟨(Nat.le_trans (Nat.le_of_ble_eq_true rfl) hRf), (Nat.le_trans (Nat.le_of_ble_eq_true rfl) hRl)⟩) ⟨PG.blind, va_recv hK hP (ci := 13) (q0 := 0) rfl rfl, fun U hU hW => ⟨rfl, PG.at hPc hK hDc hN hU hW⟩⟩ rfl rfl hl.1 rfl (lv_room (Nat.le_of_ble_eq_true rfl)) dX13_isSeat_2 ⟨(Nat.le_trans (Nat.le_of_ble_eq_true rfl) hRc), (Nat.le_trans (Nat.le_of_ble_eq_true rfl) hRs)⟩) hS (fun q _ h => hFc q h) hFc (fun r_2 M_3 t H_1 locs ht hvm hw hB hz1 hk1 hS => ?_)
  have hp_4 := hw
  obtain ⟨hP1, hD1⟩ := hB
  rw [ht] at hP1
  have hP : va_P D vwCl ([(za, (b13_0 z0 z1 (nI z2) (nI z3) z4 z5 z6 z7 z8 z9 (nI z10) z11 z12 z13 z14 z15 (nI z16) z17 z18 z19))] ++ va_pl L M) H_1 := hP1
  have hD : va_D A ([(za, (b13_0 z0 z1 (nI z2) (nI z3) z4 z5 z6 z7 z8 z9 (nI z10) z11 z12 z13 z14 z15 (nI z16) z17 z18 z19))] ++ va_pl L M) := hD1.mono hFc
  rcases hp_4 with ⟨rfl, c_5, c_6, c_7⟩ | ⟨rfl, c_8⟩
  · have hz := rfl (a := 0)
    refine lv_if_eq (tgt := 22) hx hb dX13_isSeat_5 (by decide) (fun c_9 => absurd c_9 (by decide)) (fun _ => ?_)
    refine lv_iload_n hx hb dX13_isSeat_8 rfl (lv_at hl 2 rfl) ?_
    refine lv_if_lt (tgt := 22) hx hb dX13_isSeat_9 (by decide) (fun c_10 => ?_) (fun c_10 => ?_)
    · have hz := rfl (a := 0)
      refine lv_iconst (v := 0) hx hb dX13_isSeat_22 (by decide) ?_
      have hI_11 : (0 : Int) ≤ (k1 : Int32).toInt := inltI rfl rfl c_6
      have hI_12 : (k1 : Int32).toInt < ((z2 : Nat) : Int) := inleI (nI_toInt (by omega)) rfl c_7
      have hI_13 : (k2 : Int32).toInt < (0 : Int) := iltI rfl rfl c_10
      rw [hQ]
      exact W.zret (v := 0) hx hb hr rfl (fun t ht hW9 => ⟨⟨0, (), rfl, (Or.inr ⟨rfl, by omega⟩), ⟨by rw [ht]; exact hP, hD⟩⟩, hS.F ht⟩) hS.2.2 dX13_isSeat_23
    · have hz := rfl (a := 0)
      refine lv_iload_n hx hb dX13_isSeat_12 rfl (lv_at hl 2 rfl) ?_
      refine lv_bipush (v := 6) hx hb dX13_isSeat_13 (by decide) ?_
      refine lv_icmp_ge (tgt := 22) hx hb dX13_isSeat_15 (by decide) (fun c_14 => ?_) (fun c_14 => ?_)
      · have hz := rfl (a := 0)
        refine lv_iconst (v := 0) hx hb dX13_isSeat_22 (by decide) ?_
        have hI_15 : (0 : Int) ≤ (k1 : Int32).toInt := inltI rfl rfl c_6
        have hI_16 : (k1 : Int32).toInt < ((z2 : Nat) : Int) := inleI (nI_toInt (by omega)) rfl c_7
        have hI_17 : (0 : Int) ≤ (k2 : Int32).toInt := inltI rfl rfl c_10
        have hI_18 : (6 : Int) ≤ (k2 : Int32).toInt := ileI rfl rfl c_14
        rw [hQ]
        exact W.zret (v := 0) hx hb hr rfl (fun t ht hW9 => ⟨⟨0, (), rfl, (Or.inr ⟨rfl, by omega⟩), ⟨by rw [ht]; exact hP, hD⟩⟩, hS.F ht⟩) hS.2.2 dX13_isSeat_23
      · have hz := rfl (a := 0)
        refine lv_iconst (v := 1) hx hb dX13_isSeat_18 (by decide) ?_
        refine lv_goto (tgt := 23) hx hb dX13_isSeat_19 (by decide) ?_
        have hI_19 : (0 : Int) ≤ (k1 : Int32).toInt := inltI rfl rfl c_6
        have hI_20 : (k1 : Int32).toInt < ((z2 : Nat) : Int) := inleI (nI_toInt (by omega)) rfl c_7
        have hI_21 : (0 : Int) ≤ (k2 : Int32).toInt := inltI rfl rfl c_10
        have hI_22 : (k2 : Int32).toInt < (6 : Int) := inleI rfl rfl c_14
        rw [hQ]
        exact W.zret (v := 1) hx hb hr rfl (fun t ht hW9 => ⟨⟨1, (), rfl, (Or.inl ⟨rfl, by omega, c_6, c_7, c_10, c_14⟩), ⟨by rw [ht]; exact hP, hD⟩⟩, hS.F ht⟩) hS.2.2 dX13_isSeat_23
  · have hz := rfl (a := 0)
    refine lv_if_eq (tgt := 22) hx hb dX13_isSeat_5 (by decide) (fun _ => ?_) (fun c_23 => absurd c_23 (by decide))
    refine lv_iconst (v := 0) hx hb dX13_isSeat_22 (by decide) ?_
    rw [hQ]
    exact W.zret (v := 0) hx hb hr rfl (fun t ht hW9 => ⟨⟨0, (), rfl, (Or.inr ⟨rfl, by omega⟩), ⟨by rw [ht]; exact hP, hD⟩⟩, hS.F ht⟩) hS.2.2 dX13_isSeat_23
set_option maxHeartbeats 4000000 in
set_option maxRecDepth 100000 in
theorem f_holder (l : Launch) (D : va_G) (cy : Nat → ClassId) (K : Kp) (L : List Nat) (M : Hp) (sz : Nat) (za : Nat) (z0 : Int32) (z1 : Nat) (z2 : Nat) (z3 : Nat) (z4 : Int32) (z5 : Int32) (z6 : Nat) (z7 : Nat) (z8 : Nat) (z9 : Nat) (z10 : Nat) (z11 : Nat) (z12 : Nat) (z13 : Nat) (z14 : Nat) (z15 : Nat) (z16 : Nat) (z17 : Nat) (z18 : Int32) (z19 : Nat) (k1 : Nat) (k2 : Nat) (hW : WOM cy K L M) (i1 : isk K L z1 23 8) (b2 : z2 ≤ 8) (b3 : z3 ≤ 40) (i6 : isk K L z6 47 40) (i7 : isk K L z7 48 40) (i8 : isk K L z8 49 8) (i9 : isk K L z9 50 8) (b10 : z10 ≤ 8) (i11 : isk K L z11 32 24) (i12 : isk K L z12 14 24) (i13 : isk K L z13 97 24) (i14 : isk K L z14 98 24) (i15 : isk K L z15 99 24) (b16 : z16 ≤ 24) (i17 : isk K L z17 14 24) (i19 : isk K L z19 15 25) (ik1 : isk K L k1 12 0) (nk2 : k2 < 6) : Met l yX13_holder (wsM yX13_holder cX13_holder 4 (some .int)) ({ frames := 0, cells := 0, slots := 0, locals := 0 }) (va_Pc [.ref za, .ref k1, .int (nI k2)] (PG D cy [(za, (b13_0 z0 z1 (nI z2) (nI z3) z4 z5 z6 z7 z8 z9 (nI z10) z11 z12 z13 z14 z15 (nI z16) z17 z18 z19))] L M sz)) (va_Qi (fun (r : Int32) (_ : Unit) => (∃ (j : Nat), r = (nI j) ∧ j < 24 ∧ ((ax M k1 9 k2).toInt = (j : Int) + 1) ∧ (hold (ax M k1) k2)) ∨ (r = (-1) ∧ (¬ hold (ax M k1) k2))) (fun _ t => PQ D [(za, (b13_0 z0 z1 (nI z2) (nI z3) z4 z5 z6 z7 z8 z9 (nI z10) z11 z12 z13 z14 z15 (nI z16) z17 z18 z19))] L M (va_A ([(za, (b13_0 z0 z1 (nI z2) (nI z3) z4 z5 z6 z7 z8 z9 (nI z10) z11 z12 z13 z14 z15 (nI z16) z17 z18 z19))] ++ va_pl L M) sz) t) (va_A ([(za, (b13_0 z0 z1 (nI z2) (nI z3) z4 z5 z6 z7 z8 z9 (nI z10) z11 z12 z13 z14 z15 (nI z16) z17 z18 z19))] ++ va_pl L M) sz)) 0 0 (va_A ([(za, (b13_0 z0 z1 (nI z2) (nI z3) z4 z5 z6 z7 z8 z9 (nI z10) z11 z12 z13 z14 z15 (nI z16) z17 z18 z19))] ++ va_pl L M) sz) := by
  refine Met.ofW (cc := cX13_holder) (maxL := 4) (ret := (some .int)) (by decide) rfl ?_
  intro p e s m args below meth c s₁ B hml hv
  obtain ⟨rfl, hsz, hP, hK, hD0, hN⟩ := hv
  have hx := B.exec
  have hb := B.bytes
  have hr := B.returns
  have hts := atoms_spec (ws := (wsM yX13_holder cX13_holder 4 (some .int))) B.pre
  have hg : ∀ w ∈ lw_good, w.before _ s = true := fun w h => hts w (List.mem_cons_of_mem _ h)
  have hown : s.vm.findClass RX13 = some m.cls := findClass_of_methodNamed B.named
  have hlocks := B.notSynchronized
  subst hsz
  have hD := hD0.self (sz := s.heap.size)
  generalize hAe : va_A ([(za, (b13_0 z0 z1 (nI z2) (nI z3) z4 z5 z6 z7 z8 z9 (nI z10) z11 z12 z13 z14 z15 (nI z16) z17 z18 z19))] ++ va_pl L M) s.heap.size = A at hD ⊢
  have hA : ∀ q : Nat, s.heap.size ≤ q → A q := fun q h => by rw [← hAe]; exact Or.inr h
  have hS : va_S A s.heap s.heap [] := va_S.rf
  have hl := lv_entry ([.ref za, .ref k1, .int (nI k2)]) (n := 4) (Nat.le_of_ble_eq_true rfl)
  rw [lg_entry_eq]
  generalize (lg_sl ([.ref za, .ref k1, .int (nI k2)]) ++ List.replicate (4 - (lg_sl ([.ref za, .ref k1, .int (nI k2)])).length) Slot.unset).toArray = ls at hl ⊢
  refine W.nameQ (fun Q hQ => ?_)
  refine W.nameR (fun R hR => ?_)
  have hRf : 0 ≤ R.frames := by rw [hR]; exact Nat.le_of_ble_eq_true rfl
  have hRl : 0 ≤ R.locals := by rw [hR]; exact Nat.le_of_ble_eq_true rfl
  have hRc : 0 ≤ R.cells := by rw [hR]; exact Nat.le_of_ble_eq_true rfl
  have hRs : 0 ≤ R.slots := by rw [hR]; exact Nat.le_of_ble_eq_true rfl
  have hl : lv_has ls 4 [(0, .ref za), (1, .ref k1), (2, .int (nI k2))] := hl
  refine lv_aload_n hx hb dX13_holder_0 rfl (lv_at hl 1 rfl) ?_
  obtain ⟨fs1, hM1, hn1, hl1⟩ := hW.open_12 ik1
  obtain ⟨v2, hv2, hc2⟩ : ∃ v : Nat, fs1[9]? = some (.ref v : Value) ∧ isk K L v 33 6 := hl1 9 (by decide)
  refine pg_getN (D := D) (ci := 12) (v := .ref v2) (C := RX12) (T := TX12) (N := 51) hx hb hg inG12 hown hK hP ik1.1 hM1 rfl 9 (by decide) (hN.use (Cond.fieldLinkNest RX13 92 RX12 "seat" "[I" RX13) 18 rfl rfl) (fun _ h9 => h9) hv2 dX13_holder_1 ?_
  refine lv_iload_n hx hb dX13_holder_4 rfl (lv_at hl 2 rfl) ?_
  obtain ⟨f3, hM3, hf3⟩ := hW.open_33 hc2
  have hi_4 : vp_in (nI k2) 6 := (inbN k2 6 (by omega) (by omega))
  refine pg_iald hx hb hK hP hc2.1 0 hM3 rfl hi_4 dX13_holder_5 ?_
  have hp_5 := hf3 _ (vp_lt hi_4)
  refine lv_topi (fun f_6 ef_6 => ?_)
  rw [← ef_6] at hp_5
  obtain ⟨g_7, g_8⟩ := hp_5
  refine lv_iconst (v := 1) hx hb dX13_holder_6 (by decide) ?_
  refine lv_isub hx hb dX13_holder_7 ?_
  refine lv_topi (fun f_9 ef_9 => ?_)
  refine lv_istore_n (lv' := [(3, .int f_9), (0, .ref za), (1, .ref k1), (2, .int (nI k2))]) hx hb dX13_holder_8 rfl hl (by decide) rfl (fun ls hl => ?_)
  refine lv_iload_n hx hb dX13_holder_9 rfl (lv_at hl 0 rfl) ?_
  refine lv_if_lt (tgt := 27) hx hb dX13_holder_10 (by decide) (fun c_10 => ?_) (fun c_10 => ?_)
  · have hz := rfl (a := 0)
    refine lv_iconst (v := (-1)) hx hb dX13_holder_27 (by decide) ?_
    have hI_11 : (-1000000) ≤ (f_6 : Int32).toInt := ileI rfl rfl g_7
    have hI_12 : (f_6 : Int32).toInt ≤ (24 : Int) := ileI rfl rfl g_8
    have hI_13 : (f_9 : Int32).toInt < (0 : Int) := iltI rfl rfl c_10
    have hI_14 : (f_9 : Int32).toInt = (f_6 : Int32).toInt - (1 : Int) := isubI rfl rfl ef_9 (by omega) (by omega)
    have h9 : ax M k1 9 k2 = f_6 := by rw [ax_of hM1 (by decide) hv2 hM3, ef_6, nI_cl (by omega)]
    have h9i := congrArg Int32.toInt h9
    rw [hQ]
    exact W.iret (v := (-1)) hx hb hr (fun t ht hW9 => ⟨⟨(-1), (), rfl, (Or.inr ⟨rfl, fun w9 => by have h8 := w9.1; omega⟩), ⟨by rw [ht]; exact hP, hD⟩⟩, hS.F ht⟩) hS.2.2 dX13_holder_28
  · have hz := rfl (a := 0)
    refine lv_aload_n hx hb dX13_holder_13 rfl (lv_at hl 2 rfl) ?_
    obtain ⟨v15, hv15, hc15⟩ : ∃ v : Nat, fs1[22]? = some (.ref v : Value) ∧ isk K L v 41 24 := hl1 22 (by decide)
    refine pg_getN (D := D) (ci := 12) (v := .ref v15) (C := RX12) (T := TX12) (N := 51) hx hb hg inG12 hown hK hP ik1.1 hM1 rfl 22 (by decide) (hN.use (Cond.fieldLinkNest RX13 95 RX12 "ended" "[I" RX13) 31 rfl rfl) (fun _ h9 => h9) hv15 dX13_holder_14 ?_
    refine lv_iload_n hx hb dX13_holder_17 rfl (lv_at hl 0 rfl) ?_
    obtain ⟨j_16, hj_17, ej_18⟩ := le24z g_7 g_8 (by rw [← ef_9]; exact c_10)
    obtain rfl : f_9 = nI j_16 := ef_9.trans ej_18
    obtain ⟨f19, hM19⟩ := hW.open_41 hc15
    refine pg_iald hx hb hK hP hc15.1 0 hM19 rfl (inbN j_16 24 (by omega) (by omega)) dX13_holder_18 ?_
    refine lv_topi (fun f_20 ef_20 => ?_)
    refine lv_iconst (v := (-1)) hx hb dX13_holder_19 (by decide) ?_
    refine lv_icmp_ne (tgt := 27) hx hb dX13_holder_20 (by decide) (fun c_21 => ?_) (fun c_21 => ?_)
    · have hz := rfl (a := 0)
      refine lv_iconst (v := (-1)) hx hb dX13_holder_27 (by decide) ?_
      have hI_22 : (-1000000) ≤ (f_6 : Int32).toInt := ileI rfl rfl g_7
      have hI_23 : (f_6 : Int32).toInt ≤ (24 : Int) := ileI rfl rfl g_8
      have hI_24 : (0 : Int) ≤ ((j_16 : Nat) : Int) := inltI (nI_toInt (by omega)) rfl c_10
      have hI_25 : (f_20 : Int32).toInt ≠ (-1) := ineI rfl rfl c_21
      have h9 : ax M k1 9 k2 = f_6 := by rw [ax_of hM1 (by decide) hv2 hM3, ef_6, nI_cl (by omega)]
      have h9i := congrArg Int32.toInt h9
      have hfj : (nI j_16).toInt = (f_6 : Int32).toInt - 1 := isubI (a := (f_6 : Int32).toInt) (b := 1) rfl rfl ej_18.symm (by omega) (by omega)
      rw [nI_toInt (by omega)] at hfj
      have h22 : ax M k1 22 j_16 = f_20 := by rw [ax_of hM1 (by decide) hv15 hM19, ef_20, nI_cl (by omega)]
      have hsj : ((ax M k1 9 k2).toInt - 1).toNat = j_16 := by omega
      rw [hQ]
      exact W.iret (v := (-1)) hx hb hr (fun t ht hW9 => ⟨⟨(-1), (), rfl, (Or.inr ⟨rfl, fun w9 => by have h8 := w9.2; rw [hsj, h22] at h8; omega⟩), ⟨by rw [ht]; exact hP, hD⟩⟩, hS.F ht⟩) hS.2.2 dX13_holder_28
    · have hz := rfl (a := 0)
      refine lv_iload_n hx hb dX13_holder_23 rfl (lv_at hl 0 rfl) ?_
      refine lv_goto (tgt := 28) hx hb dX13_holder_24 (by decide) ?_
      have hI_26 : (-1000000) ≤ (f_6 : Int32).toInt := ileI rfl rfl g_7
      have hI_27 : (f_6 : Int32).toInt ≤ (24 : Int) := ileI rfl rfl g_8
      have hI_28 : (0 : Int) ≤ ((j_16 : Nat) : Int) := inltI (nI_toInt (by omega)) rfl c_10
      have hI_29 : (f_20 : Int32).toInt = (-1) := ieqI rfl rfl c_21
      have h9 : ax M k1 9 k2 = f_6 := by rw [ax_of hM1 (by decide) hv2 hM3, ef_6, nI_cl (by omega)]
      have h9i := congrArg Int32.toInt h9
      have hfj : (nI j_16).toInt = (f_6 : Int32).toInt - 1 := isubI (a := (f_6 : Int32).toInt) (b := 1) rfl rfl ej_18.symm (by omega) (by omega)
      rw [nI_toInt (by omega)] at hfj
      have h22 : ax M k1 22 j_16 = f_20 := by rw [ax_of hM1 (by decide) hv15 hM19, ef_20, nI_cl (by omega)]
      have hsj : ((ax M k1 9 k2).toInt - 1).toNat = j_16 := by omega
      rw [hQ]
      exact W.iret (v := (nI j_16)) hx hb hr (fun t ht hW9 => ⟨⟨(nI j_16), (), rfl, (Or.inl ⟨j_16, rfl, by omega, by omega, ⟨by omega, by rw [hsj, h22]; omega⟩⟩), ⟨by rw [ht]; exact hP, hD⟩⟩, hS.F ht⟩) hS.2.2 dX13_holder_28
set_option maxHeartbeats 4000000 in
set_option maxRecDepth 100000 in
theorem z_letter (l : Launch) (D : va_G) (cy : Nat → ClassId) (K : Kp) (L : List Nat) (M : Hp) (sz : Nat) (za : Nat) (z0 : Int32) (z1 : Nat) (z2 : Nat) (z3 : Nat) (z4 : Int32) (z5 : Int32) (z6 : Nat) (z7 : Nat) (z8 : Nat) (z9 : Nat) (z10 : Nat) (z11 : Nat) (z12 : Nat) (z13 : Nat) (z14 : Nat) (z15 : Nat) (z16 : Nat) (z17 : Nat) (z18 : Int32) (z19 : Nat) (k1 : Int32) (k2 : Int32) (k3 : Int32) (SX : Nat → Nat → Int) (SY : Nat → Nat → Nat → Int32) (hW : WOM cy K L M) (i1 : isk K L z1 23 8) (b2 : z2 ≤ 8) (b3 : z3 ≤ 40) (i6 : isk K L z6 47 40) (i7 : isk K L z7 48 40) (i8 : isk K L z8 49 8) (i9 : isk K L z9 50 8) (b10 : z10 ≤ 8) (i11 : isk K L z11 32 24) (i12 : isk K L z12 14 24) (i13 : isk K L z13 97 24) (i14 : isk K L z14 98 24) (i15 : isk K L z15 99 24) (b16 : z16 ≤ 24) (i17 : isk K L z17 14 24) (i19 : isk K L z19 15 25) (hGI : GI K L z1 z2 M) (hZS : ZSx z1 z2 SX SY M) : Met l yX13_letter (wsM yX13_letter cX13_letter 5 (some .int)) ({ frames := 2, cells := 0, slots := 0, locals := 43 }) (va_Pc [.ref za, .int k1, .int k2, .int k3] (PG D cy [(za, (b13_0 z0 z1 (nI z2) (nI z3) z4 z5 z6 z7 z8 z9 (nI z10) z11 z12 z13 z14 z15 (nI z16) z17 z18 z19))] L M sz)) (va_Qi (fun (r : Int32) (M9 : Hp) => WOM cy K L M9 ∧ fr K L [33] M M9 ∧ fG K L [] M M9 ∧ (GI K L z1 z2 M9 ∧ ZSx z1 z2 SX (syLe z2 SY k1 k2 k3) M9) ∧ ((r = anLe z2 SY k1 k2 k3))) (fun M9 t => ∃ (w4 : Int32), PQ D [(za, (b13_0 0 z1 (nI z2) (nI z3) w4 (-1) z6 z7 z8 z9 (nI z10) z11 z12 z13 z14 z15 (nI z16) z17 z18 z19))] L M9 (va_A ([(za, (b13_0 z0 z1 (nI z2) (nI z3) z4 z5 z6 z7 z8 z9 (nI z10) z11 z12 z13 z14 z15 (nI z16) z17 z18 z19))] ++ va_pl L M) sz) t) (va_A ([(za, (b13_0 z0 z1 (nI z2) (nI z3) z4 z5 z6 z7 z8 z9 (nI z10) z11 z12 z13 z14 z15 (nI z16) z17 z18 z19))] ++ va_pl L M) sz)) 0 0 (va_A ([(za, (b13_0 z0 z1 (nI z2) (nI z3) z4 z5 z6 z7 z8 z9 (nI z10) z11 z12 z13 z14 z15 (nI z16) z17 z18 z19))] ++ va_pl L M) sz) := by
  refine Met.ofW (cc := cX13_letter) (maxL := 5) (ret := (some .int)) (by decide) rfl ?_
  intro p e s m args below meth c s₁ B hml hv
  obtain ⟨rfl, hsz, hP, hK, hD0, hN⟩ := hv
  have hx := B.exec
  have hb := B.bytes
  have hr := B.returns
  have hts := atoms_spec (ws := (wsM yX13_letter cX13_letter 5 (some .int))) B.pre
  have hg : ∀ w ∈ lw_good, w.before _ s = true := fun w h => hts w (List.mem_cons_of_mem _ h)
  have hown : s.vm.findClass RX13 = some m.cls := findClass_of_methodNamed B.named
  have hlocks := B.notSynchronized
  subst hsz
  have hD := hD0.self (sz := s.heap.size)
  generalize hAe : va_A ([(za, (b13_0 z0 z1 (nI z2) (nI z3) z4 z5 z6 z7 z8 z9 (nI z10) z11 z12 z13 z14 z15 (nI z16) z17 z18 z19))] ++ va_pl L M) s.heap.size = A at hD ⊢
  have hA : ∀ q : Nat, s.heap.size ≤ q → A q := fun q h => by rw [← hAe]; exact Or.inr h
  have hS : va_S A s.heap s.heap [] := va_S.rf
  have hl := lv_entry ([.ref za, .int k1, .int k2, .int k3]) (n := 5) (Nat.le_of_ble_eq_true rfl)
  rw [lg_entry_eq]
  generalize (lg_sl ([.ref za, .int k1, .int k2, .int k3]) ++ List.replicate (5 - (lg_sl ([.ref za, .int k1, .int k2, .int k3])).length) Slot.unset).toArray = ls at hl ⊢
  refine W.nameQ (fun Q hQ => ?_)
  refine W.nameR (fun R hR => ?_)
  have hRf : 2 ≤ R.frames := by rw [hR]; exact Nat.le_of_ble_eq_true rfl
  have hRl : 43 ≤ R.locals := by rw [hR]; exact Nat.le_of_ble_eq_true rfl
  have hRc : 0 ≤ R.cells := by rw [hR]; exact Nat.le_of_ble_eq_true rfl
  have hRs : 0 ≤ R.slots := by rw [hR]; exact Nat.le_of_ble_eq_true rfl
  have hF : fr K L [33] M M := fr.rf
  have hG : fG K L [] M M := fG.rf
  have hl : lv_has ls 5 [(0, .ref za), (1, .int k1), (2, .int k2), (3, .int k3)] := hl
  have hW0 := hW
  refine lv_aload_n hx hb dX13_letter_0 rfl (lv_at hl 0 rfl) ?_
  refine lv_iconst (v := 0) hx hb dX13_letter_1 (by decide) ?_
  refine va_put (D := D) (ci := 13) (v := .int 0) (ty := .int) (C := RX13) (T := TX13) (N := 20) hx hb hg inG13 tyX13 tyX13_ok nmX13 hown hK hP hD hS 0 rfl rfl 0 (by decide) (hg _ wd_720) (fun _ h9 => h9) rfl (by decide +kernel) rfl rfl (Nat.le_of_ble_eq_true rfl) dX13_letter_2 (fun H_1 locs hP hD hS => ?_)
  have hP : va_P D vwCl ([(za, (b13_0 0 z1 (nI z2) (nI z3) z4 z5 z6 z7 z8 z9 (nI z10) z11 z12 z13 z14 z15 (nI z16) z17 z18 z19))] ++ va_pl L M) H_1 := hP
  have hD : va_D A ([(za, (b13_0 0 z1 (nI z2) (nI z3) z4 z5 z6 z7 z8 z9 (nI z10) z11 z12 z13 z14 z15 (nI z16) z17 z18 z19))] ++ va_pl L M) := hD
  refine lv_aload_n hx hb dX13_letter_5 rfl (lv_at hl 0 rfl) ?_
  refine lv_iload_n hx hb dX13_letter_6 rfl (lv_at hl 1 rfl) ?_
  refine lv_iload_n hx hb dX13_letter_7 rfl (lv_at hl 2 rfl) ?_
  have hPc : va_P D vwCl ([(za, (b13_0 0 z1 (nI z2) (nI z3) z4 z5 z6 z7 z8 z9 (nI z10) z11 z12 z13 z14 z15 (nI z16) z17 z18 z19))] ++ va_pl L M) H_1 := hP
  have hDc : va_D A ([(za, (b13_0 0 z1 (nI z2) (nI z3) z4 z5 z6 z7 z8 z9 (nI z10) z11 z12 z13 z14 z15 (nI z16) z17 z18 z19))] ++ va_pl L M) := hD
  have hFc : ∀ q, va_A ([(za, (b13_0 0 z1 (nI z2) (nI z3) z4 z5 z6 z7 z8 z9 (nI z10) z11 z12 z13 z14 z15 (nI z16) z17 z18 z19))] ++ va_pl L M) H_1.size q → A q := pg_free hDc hS hA
  refine va_calli (va_runV (As := [.int k1, .int k2]) (rest := []) ⟨hx, hb, hml, hown, hg⟩ (f_isSeat l D cy K L M H_1.size za 0 z1 z2 z3 z4 z5 z6 z7 z8 z9 z10 z11 z12 z13 z14 z15 z16 z17 z18 z19 k1 k2  hW i1 b2 b3 i6 i7 i8 i9 b10 i11 i12 i13 i14 i15 b16 i17 i19) (cwV 2 hg (gV wd_744 wd_745 wd_746 wd_717 wd_747) rfl rfl rfl (by decide +kernel) ⟨(Nat.le_trans (Nat.le_of_ble_eq_true rfl) hRf), (Nat.le_trans (Nat.le_of_ble_eq_true rfl) hRl)⟩) ⟨PG.blind, va_recv hK hP (ci := 13) (q0 := 0) rfl rfl, fun U hU hW => ⟨rfl, PG.at hPc hK hDc hN hU hW⟩⟩ rfl rfl hl.1 rfl (lv_room (Nat.le_of_ble_eq_true rfl)) dX13_letter_8 ⟨(Nat.le_trans (Nat.le_of_ble_eq_true rfl) hRc), (Nat.le_trans (Nat.le_of_ble_eq_true rfl) hRs)⟩) hS (fun q _ h => hFc q h) hFc (fun r_3 M_4 t H_2 locs ht hvm hw hB hz1 hk1 hS => ?_)
  have hp_5 := hw
  obtain ⟨hP1, hD1⟩ := hB
  rw [ht] at hP1
  have hP : va_P D vwCl ([(za, (b13_0 0 z1 (nI z2) (nI z3) z4 z5 z6 z7 z8 z9 (nI z10) z11 z12 z13 z14 z15 (nI z16) z17 z18 z19))] ++ va_pl L M) H_2 := hP1
  have hD : va_D A ([(za, (b13_0 0 z1 (nI z2) (nI z3) z4 z5 z6 z7 z8 z9 (nI z10) z11 z12 z13 z14 z15 (nI z16) z17 z18 z19))] ++ va_pl L M) := hD1.mono hFc
  rcases hp_5 with ⟨rfl, c_6, c_7, c_8, c_9, c_10⟩ | ⟨rfl, c_11⟩
  · have hz := rfl (a := 0)
    refine lv_if_ne (tgt := 20) hx hb dX13_letter_11 (by decide) (fun _ => ?_) (fun c_12 => absurd c_12 (by decide))
    refine lv_iload_n hx hb dX13_letter_20 rfl (lv_at hl 3 rfl) ?_
    refine lv_iconst (v := 1) hx hb dX13_letter_21 (by decide) ?_
    refine lv_icmp_lt (tgt := 31) hx hb dX13_letter_22 (by decide) (fun c_13 => ?_) (fun c_13 => ?_)
    · have hz := rfl (a := 0)
      refine lv_aload_n hx hb dX13_letter_31 rfl (lv_at hl 0 rfl) ?_
      refine lv_iconst (v := 2) hx hb dX13_letter_32 (by decide) ?_
      have hPc := hP.sub (ws' := [(za, (b13_0 0 z1 (nI z2) (nI z3) z4 z5 z6 z7 z8 z9 (nI z10) z11 z12 z13 z14 z15 (nI z16) z17 z18 z19))]) [0] rfl
      have hDc := hD.sub (ws' := [(za, (b13_0 0 z1 (nI z2) (nI z3) z4 z5 z6 z7 z8 z9 (nI z10) z11 z12 z13 z14 z15 (nI z16) z17 z18 z19))]) [0] (by decide) rfl
      have hKc := hK.sub (tys' := []) [] rfl
      have hFc := va_free (wc := [(za, (b13_0 0 z1 (nI z2) (nI z3) z4 z5 z6 z7 z8 z9 (nI z10) z11 z12 z13 z14 z15 (nI z16) z17 z18 z19))]) hD hS hA [0] rfl
      refine va_calli (va_runV (As := [.int 2]) (rest := []) ⟨hx, hb, hml, hown, hg⟩ (m_refused l D H_2.size za 0 z1 (nI z2) (nI z3) z4 z5 z6 z7 z8 z9 (nI z10) z11 z12 z13 z14 z15 (nI z16) z17 z18 z19 2) (cwV 1 hg (gV wd_725 wd_726 wd_727 wd_717 wd_728) rfl rfl rfl (by decide +kernel) ⟨(Nat.le_trans (Nat.le_of_ble_eq_true rfl) hRf), (Nat.le_trans (Nat.le_of_ble_eq_true rfl) hRl)⟩) ⟨Pr.blind, va_recv hK hP (ci := 13) (q0 := 0) rfl rfl, fun U hU hW => ⟨rfl, Pr.at hPc hKc hDc hN hU hW⟩⟩ rfl rfl hl.1 rfl (lv_room (Nat.le_of_ble_eq_true rfl)) dX13_letter_33 ⟨(Nat.le_trans (Nat.le_of_ble_eq_true rfl) hRc), (Nat.le_trans (Nat.le_of_ble_eq_true rfl) hRs)⟩) hS (fun q _ h => hFc q h) hFc (fun r_15 M_16 t H_14 locs ht hvm hw hB hz1 hk1 hS => ?_)
      have hp_17 := hw
      obtain ⟨hP1, hK1, hD1⟩ := hB
      rw [ht] at hP1
      obtain ⟨hP, hD⟩ := va_joinQ (X := [(za, (b13_0 0 z1 (nI z2) (nI z3) z4 z5 z6 z7 z8 z9 (nI z10) z11 z12 z13 z14 z15 (nI z16) z17 z18 z19))]) (cx := [(za, (b13_0 0 z1 (nI z2) (nI z3) z4 z5 z6 z7 z8 z9 (nI z10) z11 z12 z13 z14 z15 (nI z16) z17 z18 z19))]) (wr := []) (w1 := [(za, (b13_0 0 z1 (nI z2) (nI z3) 2 (-1) z6 z7 z8 z9 (nI z10) z11 z12 z13 z14 z15 (nI z16) z17 z18 z19))]) (pl := va_pl L M) hP hD [0] [] rfl rfl (by decide) (by decide) hk1 hFc hP1 hD1
      have hP : va_P D vwCl ([(za, (b13_0 0 z1 (nI z2) (nI z3) 2 (-1) z6 z7 z8 z9 (nI z10) z11 z12 z13 z14 z15 (nI z16) z17 z18 z19))] ++ va_pl L M) H_14 := hP
      have hD : va_D A ([(za, (b13_0 0 z1 (nI z2) (nI z3) 2 (-1) z6 z7 z8 z9 (nI z10) z11 z12 z13 z14 z15 (nI z16) z17 z18 z19))] ++ va_pl L M) := hD
      have hq := Eq.symm hp_17
      subst hq
      have hI_18 : (0 : Int) ≤ (k1 : Int32).toInt := inltI rfl rfl c_7
      have hI_19 : (k1 : Int32).toInt < ((z2 : Nat) : Int) := inleI (nI_toInt (by omega)) rfl c_8
      have hI_20 : (0 : Int) ≤ (k2 : Int32).toInt := inltI rfl rfl c_9
      have hI_21 : (k2 : Int32).toInt < (6 : Int) := inleI rfl rfl c_10
      have hI_22 : (k3 : Int32).toInt < (1 : Int) := iltI rfl rfl c_13
      have hno : ¬ okLe z2 SY k1 k2 k3 := fun q9 => by unfold okLe okHS at q9; first | omega | (obtain ⟨⟨_, _, _, _⟩, _, _, _, _⟩ := q9; first | omega | contradiction)
      rw [hQ]
      exact W.iret (v := (-1)) hx hb hr (fun t ht hW9 => ⟨⟨(-1), M, rfl, ⟨hW, hF, hG, ⟨hGI, (by unfold syLe; rw [if_neg hno]; exact hZS)⟩, (by unfold anLe; rw [if_neg hno])⟩, ⟨2, by rw [ht]; exact hP, hD⟩⟩, hS.F ht⟩) hS.2.2 dX13_letter_36
    · have hz := rfl (a := 0)
      refine lv_iload_n hx hb dX13_letter_25 rfl (lv_at hl 3 rfl) ?_
      refine lv_ldc (v := 1000000) hx hb hown (hg _ wd_778) dX13_letter_26 ?_
      refine lv_icmp_le (tgt := 37) hx hb dX13_letter_28 (by decide) (fun c_23 => ?_) (fun c_23 => ?_)
      · have hz := rfl (a := 0)
        refine lv_aload_n hx hb dX13_letter_37 rfl (lv_at hl 0 rfl) ?_
        refine va_get (D := D) (ci := 13) (v := .ref z1) (C := RX13) (T := TX13) (N := 20) hx hb hg inG13 hown hK hP 0 rfl rfl 1 (by decide) (hg _ wd_739) (fun _ h9 => h9) rfl dX13_letter_38 ?_
        refine lv_iload_n hx hb dX13_letter_41 rfl (lv_at hl 1 rfl) ?_
        obtain ⟨f24, hM24, hf24⟩ := hW.open_23 i1
        have hi_25 : vp_in k1 8 := (inbW (a := z2) (by omega) (inb k1 z2 (by omega) c_7 c_8))
        refine pg_aldq hx hb hK hP i1.1 9 hM24 rfl hi_25 dX13_letter_42 ?_
        obtain ⟨b26, eb_27, hb_28⟩ := hf24 _ (vp_lt hi_25)
        rw [eb_27]
        have hact : ACT z1 z2 b26 M := ⟨(k1 : Int32).toNatClampNeg, vp_lt (inb k1 z2 (by omega) c_7 c_8), by rw [show RFc (M z1) = f24 from by rw [hM24]; rfl]; exact eb_27⟩
        have hAT := GI.at hGI hact
        have hV : VW K L M M b26 (fx M b26) (ax M b26) := VW.rf b26 hGI.2.2.2
        have hb9 : RFc (M z1) (k1 : Int32).toNatClampNeg = some b26 := by rw [show RFc (M z1) = f24 from by rw [hM24]; rfl]; exact eb_27
        have hkn : (k1 : Int32).toNatClampNeg < z2 := vp_lt (inb k1 z2 (by omega) c_7 c_8)
        have hZk := hZS _ b26 hkn hb9
        refine lv_astore (lv' := [(4, .ref b26), (0, .ref za), (1, .int k1), (2, .int k2), (3, .int k3)]) hx hb dX13_letter_43 hl (by decide) rfl (fun ls hl => ?_)
        refine lv_aload hx hb dX13_letter_45 (lv_at hl 0 rfl) ?_
        obtain ⟨fs29, hM29, hn29, hl29⟩ := hW.open_12 hb_28
        obtain ⟨v30, hv30, hc30⟩ : ∃ v : Nat, fs29[9]? = some (.ref v : Value) ∧ isk K L v 33 6 := hl29 9 (by decide)
        refine pg_getN (D := D) (ci := 12) (v := .ref v30) (C := RX12) (T := TX12) (N := 51) hx hb hg inG12 hown hK hP hb_28.1 hM29 rfl 9 (by decide) (hN.use (Cond.fieldLinkNest RX13 92 RX12 "seat" "[I" RX13) 18 rfl rfl) (fun _ h9 => h9) hv30 dX13_letter_47 ?_
        refine lv_iload_n hx hb dX13_letter_50 rfl (lv_at hl 3 rfl) ?_
        obtain ⟨f31, hM31, hf31⟩ := hW.open_33 hc30
        have hi_32 : vp_in k2 6 := (inb k2 6 (by omega) c_9 c_10)
        refine pg_iald hx hb hK hP hc30.1 0 hM31 rfl hi_32 dX13_letter_51 ?_
        have hp_33 := hf31 _ (vp_lt hi_32)
        refine lv_topi (fun f_34 ef_34 => ?_)
        rw [← ef_34] at hp_33
        obtain ⟨g_35, g_36⟩ := hp_33
        refine lv_if_lt (tgt := 66) hx hb dX13_letter_52 (by decide) (fun c_37 => ?_) (fun c_37 => ?_)
        · have hz := rfl (a := 0)
          refine lv_aload_n hx hb dX13_letter_66 rfl (lv_at hl 1 rfl) ?_
          refine lv_iconst (v := 4) hx hb dX13_letter_67 (by decide) ?_
          have hPc := hP.sub (ws' := [(za, (b13_0 0 z1 (nI z2) (nI z3) z4 z5 z6 z7 z8 z9 (nI z10) z11 z12 z13 z14 z15 (nI z16) z17 z18 z19))]) [0] rfl
          have hDc := hD.sub (ws' := [(za, (b13_0 0 z1 (nI z2) (nI z3) z4 z5 z6 z7 z8 z9 (nI z10) z11 z12 z13 z14 z15 (nI z16) z17 z18 z19))]) [0] (by decide) rfl
          have hKc := hK.sub (tys' := []) [] rfl
          have hFc := va_free (wc := [(za, (b13_0 0 z1 (nI z2) (nI z3) z4 z5 z6 z7 z8 z9 (nI z10) z11 z12 z13 z14 z15 (nI z16) z17 z18 z19))]) hD hS hA [0] rfl
          refine va_calli (va_runV (As := [.int 4]) (rest := []) ⟨hx, hb, hml, hown, hg⟩ (m_refused l D H_2.size za 0 z1 (nI z2) (nI z3) z4 z5 z6 z7 z8 z9 (nI z10) z11 z12 z13 z14 z15 (nI z16) z17 z18 z19 4) (cwV 1 hg (gV wd_725 wd_726 wd_727 wd_717 wd_728) rfl rfl rfl (by decide +kernel) ⟨(Nat.le_trans (Nat.le_of_ble_eq_true rfl) hRf), (Nat.le_trans (Nat.le_of_ble_eq_true rfl) hRl)⟩) ⟨Pr.blind, va_recv hK hP (ci := 13) (q0 := 0) rfl rfl, fun U hU hW => ⟨rfl, Pr.at hPc hKc hDc hN hU hW⟩⟩ rfl rfl hl.1 rfl (lv_room (Nat.le_of_ble_eq_true rfl)) dX13_letter_68 ⟨(Nat.le_trans (Nat.le_of_ble_eq_true rfl) hRc), (Nat.le_trans (Nat.le_of_ble_eq_true rfl) hRs)⟩) hS (fun q _ h => hFc q h) hFc (fun r_39 M_40 t H_38 locs ht hvm hw hB hz1 hk1 hS => ?_)
          have hp_41 := hw
          obtain ⟨hP1, hK1, hD1⟩ := hB
          rw [ht] at hP1
          obtain ⟨hP, hD⟩ := va_joinQ (X := [(za, (b13_0 0 z1 (nI z2) (nI z3) z4 z5 z6 z7 z8 z9 (nI z10) z11 z12 z13 z14 z15 (nI z16) z17 z18 z19))]) (cx := [(za, (b13_0 0 z1 (nI z2) (nI z3) z4 z5 z6 z7 z8 z9 (nI z10) z11 z12 z13 z14 z15 (nI z16) z17 z18 z19))]) (wr := []) (w1 := [(za, (b13_0 0 z1 (nI z2) (nI z3) 4 (-1) z6 z7 z8 z9 (nI z10) z11 z12 z13 z14 z15 (nI z16) z17 z18 z19))]) (pl := va_pl L M) hP hD [0] [] rfl rfl (by decide) (by decide) hk1 hFc hP1 hD1
          have hP : va_P D vwCl ([(za, (b13_0 0 z1 (nI z2) (nI z3) 4 (-1) z6 z7 z8 z9 (nI z10) z11 z12 z13 z14 z15 (nI z16) z17 z18 z19))] ++ va_pl L M) H_38 := hP
          have hD : va_D A ([(za, (b13_0 0 z1 (nI z2) (nI z3) 4 (-1) z6 z7 z8 z9 (nI z10) z11 z12 z13 z14 z15 (nI z16) z17 z18 z19))] ++ va_pl L M) := hD
          have hq := Eq.symm hp_41
          subst hq
          have hI_42 : (0 : Int) ≤ (k1 : Int32).toInt := inltI rfl rfl c_7
          have hI_43 : (k1 : Int32).toInt < ((z2 : Nat) : Int) := inleI (nI_toInt (by omega)) rfl c_8
          have hI_44 : (0 : Int) ≤ (k2 : Int32).toInt := inltI rfl rfl c_9
          have hI_45 : (k2 : Int32).toInt < (6 : Int) := inleI rfl rfl c_10
          have hI_46 : (1 : Int) ≤ (k3 : Int32).toInt := inltI rfl rfl c_13
          have hI_47 : (k3 : Int32).toInt ≤ (1000000 : Int) := ileI rfl rfl c_23
          have hI_48 : (-1000000) ≤ (f_34 : Int32).toInt := ileI rfl rfl g_35
          have hI_49 : (f_34 : Int32).toInt ≤ (24 : Int) := ileI rfl rfl g_36
          have hI_50 : (f_34 : Int32).toInt < (0 : Int) := iltI rfl rfl c_37
          have h9s : SY (k1 : Int32).toNatClampNeg 9 (k2 : Int32).toNatClampNeg = f_34 := by rw [← hZk.2]; exact (by rw [ax_of hM29 (by decide) hv30 hM31, ef_34])
          have h9i := congrArg Int32.toInt h9s
          have hno : ¬ okLe z2 SY k1 k2 k3 := fun q9 => by unfold okLe okHS at q9; first | omega | (obtain ⟨⟨_, _, _, _⟩, _, _, _, _⟩ := q9; first | omega | contradiction)
          rw [hQ]
          exact W.iret (v := (-1)) hx hb hr (fun t ht hW9 => ⟨⟨(-1), M, rfl, ⟨hW, hF, hG, ⟨hGI, (by unfold syLe; rw [if_neg hno]; exact hZS)⟩, (by unfold anLe; rw [if_neg hno])⟩, ⟨4, by rw [ht]; exact hP, hD⟩⟩, hS.F ht⟩) hS.2.2 dX13_letter_71
        · have hz := rfl (a := 0)
          refine lv_aload_n hx hb dX13_letter_55 rfl (lv_at hl 1 rfl) ?_
          refine lv_aload hx hb dX13_letter_56 (lv_at hl 0 rfl) ?_
          refine lv_iload_n hx hb dX13_letter_58 rfl (lv_at hl 3 rfl) ?_
          obtain ⟨j_51, hj_52, rfl⟩ := i32nat 6 (by decide) c_9 c_10
          have hPc : va_P D vwCl ([(za, (b13_0 0 z1 (nI z2) (nI z3) z4 z5 z6 z7 z8 z9 (nI z10) z11 z12 z13 z14 z15 (nI z16) z17 z18 z19))] ++ va_pl L M) H_2 := hP
          have hDc : va_D A ([(za, (b13_0 0 z1 (nI z2) (nI z3) z4 z5 z6 z7 z8 z9 (nI z10) z11 z12 z13 z14 z15 (nI z16) z17 z18 z19))] ++ va_pl L M) := hD
          have hFc : ∀ q, va_A ([(za, (b13_0 0 z1 (nI z2) (nI z3) z4 z5 z6 z7 z8 z9 (nI z10) z11 z12 z13 z14 z15 (nI z16) z17 z18 z19))] ++ va_pl L M) H_2.size q → A q := pg_free hDc hS hA
          refine va_calli (va_runV (As := [.ref b26, .int (nI j_51)]) (rest := []) ⟨hx, hb, hml, hown, hg⟩ (f_holder l D cy K L M H_2.size za 0 z1 z2 z3 z4 z5 z6 z7 z8 z9 z10 z11 z12 z13 z14 z15 z16 z17 z18 z19 b26 j_51  hW i1 b2 b3 i6 i7 i8 i9 b10 i11 i12 i13 i14 i15 b16 i17 i19 hb_28 (by omega)) (cwV 2 hg (gV wd_779 wd_780 wd_781 wd_717 wd_782) rfl rfl rfl (by decide +kernel) ⟨(Nat.le_trans (Nat.le_of_ble_eq_true rfl) hRf), (Nat.le_trans (Nat.le_of_ble_eq_true rfl) hRl)⟩) ⟨PG.blind, va_recv hK hP (ci := 13) (q0 := 0) rfl rfl, fun U hU hW => ⟨rfl, PG.at hPc hK hDc hN hU hW⟩⟩ rfl rfl hl.1 rfl (lv_room (Nat.le_of_ble_eq_true rfl)) dX13_letter_59 ⟨(Nat.le_trans (Nat.le_of_ble_eq_true rfl) hRc), (Nat.le_trans (Nat.le_of_ble_eq_true rfl) hRs)⟩) hS (fun q _ h => hFc q h) hFc (fun r_54 M_55 t H_53 locs ht hvm hw hB hz1 hk1 hS => ?_)
          have hp_56 := hw
          obtain ⟨hP1, hD1⟩ := hB
          rw [ht] at hP1
          have hP : va_P D vwCl ([(za, (b13_0 0 z1 (nI z2) (nI z3) z4 z5 z6 z7 z8 z9 (nI z10) z11 z12 z13 z14 z15 (nI z16) z17 z18 z19))] ++ va_pl L M) H_53 := hP1
          have hD : va_D A ([(za, (b13_0 0 z1 (nI z2) (nI z3) z4 z5 z6 z7 z8 z9 (nI z10) z11 z12 z13 z14 z15 (nI z16) z17 z18 z19))] ++ va_pl L M) := hD1.mono hFc
          rcases hp_56 with ⟨j_57, rfl, c_58, c_59, c_60⟩ | ⟨rfl, c_61⟩
          · have hz := rfl (a := 0)
            refine lv_iconst (v := (-1)) hx hb dX13_letter_62 (by decide) ?_
            refine lv_icmp_eq (tgt := 72) hx hb dX13_letter_63 (by decide) (fun c_62 => absurd c_62 (nI_ne_m1 (by omega))) (fun _ => ?_)
            refine lv_aload_n hx hb dX13_letter_66 rfl (lv_at hl 1 rfl) ?_
            refine lv_iconst (v := 4) hx hb dX13_letter_67 (by decide) ?_
            have hPc := hP.sub (ws' := [(za, (b13_0 0 z1 (nI z2) (nI z3) z4 z5 z6 z7 z8 z9 (nI z10) z11 z12 z13 z14 z15 (nI z16) z17 z18 z19))]) [0] rfl
            have hDc := hD.sub (ws' := [(za, (b13_0 0 z1 (nI z2) (nI z3) z4 z5 z6 z7 z8 z9 (nI z10) z11 z12 z13 z14 z15 (nI z16) z17 z18 z19))]) [0] (by decide) rfl
            have hKc := hK.sub (tys' := []) [] rfl
            have hFc := va_free (wc := [(za, (b13_0 0 z1 (nI z2) (nI z3) z4 z5 z6 z7 z8 z9 (nI z10) z11 z12 z13 z14 z15 (nI z16) z17 z18 z19))]) hD hS hA [0] rfl
            refine va_calli (va_runV (As := [.int 4]) (rest := []) ⟨hx, hb, hml, hown, hg⟩ (m_refused l D H_53.size za 0 z1 (nI z2) (nI z3) z4 z5 z6 z7 z8 z9 (nI z10) z11 z12 z13 z14 z15 (nI z16) z17 z18 z19 4) (cwV 1 hg (gV wd_725 wd_726 wd_727 wd_717 wd_728) rfl rfl rfl (by decide +kernel) ⟨(Nat.le_trans (Nat.le_of_ble_eq_true rfl) hRf), (Nat.le_trans (Nat.le_of_ble_eq_true rfl) hRl)⟩) ⟨Pr.blind, va_recv hK hP (ci := 13) (q0 := 0) rfl rfl, fun U hU hW => ⟨rfl, Pr.at hPc hKc hDc hN hU hW⟩⟩ rfl rfl hl.1 rfl (lv_room (Nat.le_of_ble_eq_true rfl)) dX13_letter_68 ⟨(Nat.le_trans (Nat.le_of_ble_eq_true rfl) hRc), (Nat.le_trans (Nat.le_of_ble_eq_true rfl) hRs)⟩) hS (fun q _ h => hFc q h) hFc (fun r_64 M_65 t H_63 locs ht hvm hw hB hz1 hk1 hS => ?_)
            have hp_66 := hw
            obtain ⟨hP1, hK1, hD1⟩ := hB
            rw [ht] at hP1
            obtain ⟨hP, hD⟩ := va_joinQ (X := [(za, (b13_0 0 z1 (nI z2) (nI z3) z4 z5 z6 z7 z8 z9 (nI z10) z11 z12 z13 z14 z15 (nI z16) z17 z18 z19))]) (cx := [(za, (b13_0 0 z1 (nI z2) (nI z3) z4 z5 z6 z7 z8 z9 (nI z10) z11 z12 z13 z14 z15 (nI z16) z17 z18 z19))]) (wr := []) (w1 := [(za, (b13_0 0 z1 (nI z2) (nI z3) 4 (-1) z6 z7 z8 z9 (nI z10) z11 z12 z13 z14 z15 (nI z16) z17 z18 z19))]) (pl := va_pl L M) hP hD [0] [] rfl rfl (by decide) (by decide) hk1 hFc hP1 hD1
            have hP : va_P D vwCl ([(za, (b13_0 0 z1 (nI z2) (nI z3) 4 (-1) z6 z7 z8 z9 (nI z10) z11 z12 z13 z14 z15 (nI z16) z17 z18 z19))] ++ va_pl L M) H_63 := hP
            have hD : va_D A ([(za, (b13_0 0 z1 (nI z2) (nI z3) 4 (-1) z6 z7 z8 z9 (nI z10) z11 z12 z13 z14 z15 (nI z16) z17 z18 z19))] ++ va_pl L M) := hD
            have hq := Eq.symm hp_66
            subst hq
            have hI_67 : (0 : Int) ≤ (k1 : Int32).toInt := inltI rfl rfl c_7
            have hI_68 : (k1 : Int32).toInt < ((z2 : Nat) : Int) := inleI (nI_toInt (by omega)) rfl c_8
            have hI_69 : (0 : Int) ≤ ((j_51 : Nat) : Int) := inltI (nI_toInt (by omega)) rfl c_9
            have hI_70 : ((j_51 : Nat) : Int) < (6 : Int) := inleI rfl (nI_toInt (by omega)) c_10
            have hI_71 : (1 : Int) ≤ (k3 : Int32).toInt := inltI rfl rfl c_13
            have hI_72 : (k3 : Int32).toInt ≤ (1000000 : Int) := ileI rfl rfl c_23
            have hI_73 : (-1000000) ≤ (f_34 : Int32).toInt := ileI rfl rfl g_35
            have hI_74 : (f_34 : Int32).toInt ≤ (24 : Int) := ileI rfl rfl g_36
            have hI_75 : (0 : Int) ≤ (f_34 : Int32).toInt := inltI rfl rfl c_37
            have hn92 : ((nI j_51) : Int32).toInt = ((j_51 : Nat) : Int) := nI_toInt (by omega)
            have h9s : SY (k1 : Int32).toNatClampNeg 9 ((nI j_51) : Int32).toNatClampNeg = f_34 := by rw [← hZk.2]; exact (by rw [ax_of hM29 (by decide) hv30 hM31, ef_34])
            have h9i := congrArg Int32.toInt h9s
            have hhs : hold (SY (k1 : Int32).toNatClampNeg) ((nI j_51) : Int32).toNatClampNeg := by rw [← hZk.2, nI_cl (by omega)]; exact c_60
            have hno : ¬ okLe z2 SY k1 (nI j_51) k3 := fun q9 => by unfold okLe okHS at q9; first | omega | (obtain ⟨⟨_, _, _, _⟩, _, _, _, _⟩ := q9; first | omega | contradiction)
            rw [hQ]
            exact W.iret (v := (-1)) hx hb hr (fun t ht hW9 => ⟨⟨(-1), M, rfl, ⟨hW, hF, hG, ⟨hGI, (by unfold syLe; rw [if_neg hno]; exact hZS)⟩, (by unfold anLe; rw [if_neg hno])⟩, ⟨4, by rw [ht]; exact hP, hD⟩⟩, hS.F ht⟩) hS.2.2 dX13_letter_71
          · have hz := rfl (a := 0)
            refine lv_iconst (v := (-1)) hx hb dX13_letter_62 (by decide) ?_
            refine lv_icmp_eq (tgt := 72) hx hb dX13_letter_63 (by decide) (fun _ => ?_) (fun c_76 => absurd c_76 (by decide))
            refine lv_aload hx hb dX13_letter_72 (lv_at hl 0 rfl) ?_
            refine pg_getN (D := D) (ci := 12) (v := .ref v30) (C := RX12) (T := TX12) (N := 51) hx hb hg inG12 hown hK hP hb_28.1 hM29 rfl 9 (by decide) (hN.use (Cond.fieldLinkNest RX13 92 RX12 "seat" "[I" RX13) 18 rfl rfl) (fun _ h9 => h9) hv30 dX13_letter_74 ?_
            refine lv_iload_n hx hb dX13_letter_77 rfl (lv_at hl 3 rfl) ?_
            refine lv_iload_n hx hb dX13_letter_78 rfl (lv_at hl 4 rfl) ?_
            refine lv_ineg hx hb dX13_letter_79 ?_
            refine lv_topi (fun f_77 ef_77 => ?_)
            refine pg_iast hx hb hK hP hD hS hc30.1 0 hM31 rfl (inbN j_51 6 (by omega) (by omega)) dX13_letter_80 (fun H_78 locs hP hD hS => ?_)
            obtain ⟨M_79, eM_79⟩ : ∃ M1 : Hp, M1 = va_up M v30 (.inl (cy 14, 6, .inl (upd f31 ((nI j_51) : Int32).toNatClampNeg f_77))) := ⟨_, rfl⟩
            have hy9 : (ax M b26 9) = f31 := (congrFun hV.2.2.1 9).symm.trans (ax_of hM29 (by decide) hv30 hM31)
            have hV : VW K L M M_79 b26 (fx M b26) (va_up (ax M b26) 9 (upd (ax M b26 9) ((nI j_51) : Int32).toNatClampNeg f_77)) := by rw [eM_79]; exact hV.ast (j := 9) hW hb_28 hM29 (by decide) hv30 hc30 hM31
            have hP : va_P D vwCl ([(za, (b13_0 0 z1 (nI z2) (nI z3) z4 z5 z6 z7 z8 z9 (nI z10) z11 z12 z13 z14 z15 (nI z16) z17 z18 z19))] ++ va_pl L M_79) H_78 := by rw [eM_79]; exact hP
            have hD : va_D A ([(za, (b13_0 0 z1 (nI z2) (nI z3) z4 z5 z6 z7 z8 z9 (nI z10) z11 z12 z13 z14 z15 (nI z16) z17 z18 z19))] ++ va_pl L M_79) := by rw [eM_79]; exact hD
            have hW : WOM cy K L M_79 := by rw [eM_79]; exact hW.up_33 hc30 ⟨_, rfl, (updP (P := fun z => ((-1000000) ≤ z ∧ z ≤ 24)) hf31 (negL ef_77 c_13 c_23))⟩
            have hF : fr K L [33] M M_79 := by rw [eM_79]; exact hF.up hc30 (by decide)
            have hG : fG K L [] M M_79 := by rw [eM_79]; exact hG.arr hc30 (by decide)
            have hM_80 : M_79 v30 = .inl (cy 14, 6, .inl (upd f31 ((nI j_51) : Int32).toNatClampNeg f_77)) := by rw [eM_79]; exact va_up_self _ _ _
            have hM_81 : M_79 z1 = .inl (cy 23, 8, .inr (.inr (.inr (.inr (f24))))) := by rw [eM_79, va_up_ne _ _ (i1.neT hc30 (by decide))]; exact hM24
            have hM_82 : M_79 b26 = .inr (12, fs29) := by rw [eM_79, va_up_ne _ _ (hb_28.neT hc30 (by decide))]; exact hM29
            have hf_84 : ∀ j, j < 6 → ((-1000000) ≤ (upd f31 ((nI j_51) : Int32).toNatClampNeg f_77) j ∧ (upd f31 ((nI j_51) : Int32).toNatClampNeg f_77) j ≤ 24) := (updP (P := fun z => ((-1000000) ≤ z ∧ z ≤ 24)) hf31 (negL ef_77 c_13 c_23))
            obtain ⟨f_83, ef_83⟩ : ∃ f : Nat → Int32, f = upd f31 ((nI j_51) : Int32).toNatClampNeg f_77 := ⟨_, rfl⟩
            rw [← ef_83] at hM_80 hf_84
            refine lv_aload_n hx hb dX13_letter_81 rfl (lv_at hl 1 rfl) ?_
            refine lv_iconst (v := 1) hx hb dX13_letter_82 (by decide) ?_
            have hPc := hP.sub (ws' := [(za, (b13_0 0 z1 (nI z2) (nI z3) z4 z5 z6 z7 z8 z9 (nI z10) z11 z12 z13 z14 z15 (nI z16) z17 z18 z19))]) [0] rfl
            have hDc := hD.sub (ws' := [(za, (b13_0 0 z1 (nI z2) (nI z3) z4 z5 z6 z7 z8 z9 (nI z10) z11 z12 z13 z14 z15 (nI z16) z17 z18 z19))]) [0] (by decide) rfl
            have hKc := hK.sub (tys' := []) [] rfl
            have hFc := va_free (wc := [(za, (b13_0 0 z1 (nI z2) (nI z3) z4 z5 z6 z7 z8 z9 (nI z10) z11 z12 z13 z14 z15 (nI z16) z17 z18 z19))]) hD hS hA [0] rfl
            refine va_calli (va_runV (As := [.int 1]) (rest := []) ⟨hx, hb, hml, hown, hg⟩ (m_done l D H_78.size za 0 z1 (nI z2) (nI z3) z4 z5 z6 z7 z8 z9 (nI z10) z11 z12 z13 z14 z15 (nI z16) z17 z18 z19 1) (cwV 1 hg (gV wd_730 wd_731 wd_732 wd_717 wd_733) rfl rfl rfl (by decide +kernel) ⟨(Nat.le_trans (Nat.le_of_ble_eq_true rfl) hRf), (Nat.le_trans (Nat.le_of_ble_eq_true rfl) hRl)⟩) ⟨Pr.blind, va_recv hK hP (ci := 13) (q0 := 0) rfl rfl, fun U hU hW => ⟨rfl, Pr.at hPc hKc hDc hN hU hW⟩⟩ rfl rfl hl.1 rfl (lv_room (Nat.le_of_ble_eq_true rfl)) dX13_letter_83 ⟨(Nat.le_trans (Nat.le_of_ble_eq_true rfl) hRc), (Nat.le_trans (Nat.le_of_ble_eq_true rfl) hRs)⟩) hS (fun q _ h => hFc q h) hFc (fun r_86 M_87 t H_85 locs ht hvm hw hB hz1 hk1 hS => ?_)
            have hp_88 := hw
            obtain ⟨hP1, hK1, hD1⟩ := hB
            rw [ht] at hP1
            obtain ⟨hP, hD⟩ := va_joinQ (X := [(za, (b13_0 0 z1 (nI z2) (nI z3) z4 z5 z6 z7 z8 z9 (nI z10) z11 z12 z13 z14 z15 (nI z16) z17 z18 z19))]) (cx := [(za, (b13_0 0 z1 (nI z2) (nI z3) z4 z5 z6 z7 z8 z9 (nI z10) z11 z12 z13 z14 z15 (nI z16) z17 z18 z19))]) (wr := []) (w1 := [(za, (b13_0 0 z1 (nI z2) (nI z3) 0 (-1) z6 z7 z8 z9 (nI z10) z11 z12 z13 z14 z15 (nI z16) z17 z18 z19))]) (pl := va_pl L M_79) hP hD [0] [] rfl rfl (by decide) (by decide) hk1 hFc hP1 hD1
            have hP : va_P D vwCl ([(za, (b13_0 0 z1 (nI z2) (nI z3) 0 (-1) z6 z7 z8 z9 (nI z10) z11 z12 z13 z14 z15 (nI z16) z17 z18 z19))] ++ va_pl L M_79) H_85 := hP
            have hD : va_D A ([(za, (b13_0 0 z1 (nI z2) (nI z3) 0 (-1) z6 z7 z8 z9 (nI z10) z11 z12 z13 z14 z15 (nI z16) z17 z18 z19))] ++ va_pl L M_79) := hD
            have hq := Eq.symm hp_88
            subst hq
            have hI_89 : (0 : Int) ≤ (k1 : Int32).toInt := inltI rfl rfl c_7
            have hI_90 : (k1 : Int32).toInt < ((z2 : Nat) : Int) := inleI (nI_toInt (by omega)) rfl c_8
            have hI_91 : (0 : Int) ≤ ((j_51 : Nat) : Int) := inltI (nI_toInt (by omega)) rfl c_9
            have hI_92 : ((j_51 : Nat) : Int) < (6 : Int) := inleI rfl (nI_toInt (by omega)) c_10
            have hI_93 : (1 : Int) ≤ (k3 : Int32).toInt := inltI rfl rfl c_13
            have hI_94 : (k3 : Int32).toInt ≤ (1000000 : Int) := ileI rfl rfl c_23
            have hI_95 : (-1000000) ≤ (f_34 : Int32).toInt := ileI rfl rfl g_35
            have hI_96 : (f_34 : Int32).toInt ≤ (24 : Int) := ileI rfl rfl g_36
            have hI_97 : (0 : Int) ≤ (f_34 : Int32).toInt := inltI rfl rfl c_37
            have hn92 : ((nI j_51) : Int32).toInt = ((j_51 : Nat) : Int) := nI_toInt (by omega)
            have h9s : SY (k1 : Int32).toNatClampNeg 9 ((nI j_51) : Int32).toNatClampNeg = f_34 := by rw [← hZk.2]; exact (by rw [ax_of hM29 (by decide) hv30 hM31, ef_34])
            have h9i := congrArg Int32.toInt h9s
            have hhs : ¬ hold (SY (k1 : Int32).toNatClampNeg) ((nI j_51) : Int32).toNatClampNeg := by rw [← hZk.2, nI_cl (by omega)]; exact c_61
            have hyes : okLe z2 SY k1 (nI j_51) k3 := by unfold okLe okHS; refine ⟨⟨?_, ?_, ?_, ?_⟩, ?_, ?_, ?_, ?_⟩ <;> first | omega | assumption
            have hA9 : HA (ax M b26 2) (ax M b26 3) := hAT.1
            have hB9 : HB (fx M b26 16) (fx M b26 14) (ax M b26 3) (ax M b26 43) := hAT.2.1
            have hC9 : HC (fx M b26 10) (ax M b26 22) (ax M b26 23) := hAT.2.2.1
            have hD9 : HD (fx M b26 0) (fx M b26 11) (fx M b26 15) (ax M b26 34) (ax M b26 41) := hAT.2.2.2.1
            have hE9 : HE (fx M b26 0) (fx M b26 1) (fx M b26 12) (fx M b26 13) (ax M b26 37) := hAT.2.2.2.2
            have hH9 : HI (fx M b26) (va_up (ax M b26) 9 (upd (ax M b26 9) ((nI j_51) : Int32).toNatClampNeg f_77)) := ⟨hA9, hB9, hC9, hD9, hE9⟩
            have hGI9 : GI K L z1 z2 M_79 := GI.fin hW0 i1 b2 hGI hact hV (hF.at i1 (by decide)) hH9
            rw [hQ]
            exact W.iret (v := 1) hx hb hr (fun t ht hW9 => ⟨⟨1, M_79, rfl, ⟨hW, hF, hG, ⟨hGI9, (by unfold syLe; rw [if_pos hyes]; have hQ9 := ZSx.fin hW0 i1 b2 hZS hGI.1 hkn hb9 hV (hF.at i1 (by decide)) (hZk.1) ((by rw [hZk.2, ef_77])); rw [va_upJ] at hQ9; exact hQ9)⟩, (by unfold anLe; rw [if_pos hyes])⟩, ⟨0, by rw [ht]; exact hP, hD⟩⟩, hS.F ht⟩) hS.2.2 dX13_letter_86
      · have hz := rfl (a := 0)
        have n_98 : ¬ k3 < 0 := gtN (c := 1000000) (by omega) (Int32.not_le.mp c_23)
        refine lv_aload_n hx hb dX13_letter_31 rfl (lv_at hl 0 rfl) ?_
        refine lv_iconst (v := 2) hx hb dX13_letter_32 (by decide) ?_
        have hPc := hP.sub (ws' := [(za, (b13_0 0 z1 (nI z2) (nI z3) z4 z5 z6 z7 z8 z9 (nI z10) z11 z12 z13 z14 z15 (nI z16) z17 z18 z19))]) [0] rfl
        have hDc := hD.sub (ws' := [(za, (b13_0 0 z1 (nI z2) (nI z3) z4 z5 z6 z7 z8 z9 (nI z10) z11 z12 z13 z14 z15 (nI z16) z17 z18 z19))]) [0] (by decide) rfl
        have hKc := hK.sub (tys' := []) [] rfl
        have hFc := va_free (wc := [(za, (b13_0 0 z1 (nI z2) (nI z3) z4 z5 z6 z7 z8 z9 (nI z10) z11 z12 z13 z14 z15 (nI z16) z17 z18 z19))]) hD hS hA [0] rfl
        refine va_calli (va_runV (As := [.int 2]) (rest := []) ⟨hx, hb, hml, hown, hg⟩ (m_refused l D H_2.size za 0 z1 (nI z2) (nI z3) z4 z5 z6 z7 z8 z9 (nI z10) z11 z12 z13 z14 z15 (nI z16) z17 z18 z19 2) (cwV 1 hg (gV wd_725 wd_726 wd_727 wd_717 wd_728) rfl rfl rfl (by decide +kernel) ⟨(Nat.le_trans (Nat.le_of_ble_eq_true rfl) hRf), (Nat.le_trans (Nat.le_of_ble_eq_true rfl) hRl)⟩) ⟨Pr.blind, va_recv hK hP (ci := 13) (q0 := 0) rfl rfl, fun U hU hW => ⟨rfl, Pr.at hPc hKc hDc hN hU hW⟩⟩ rfl rfl hl.1 rfl (lv_room (Nat.le_of_ble_eq_true rfl)) dX13_letter_33 ⟨(Nat.le_trans (Nat.le_of_ble_eq_true rfl) hRc), (Nat.le_trans (Nat.le_of_ble_eq_true rfl) hRs)⟩) hS (fun q _ h => hFc q h) hFc (fun r_100 M_101 t H_99 locs ht hvm hw hB hz1 hk1 hS => ?_)
        have hp_102 := hw
        obtain ⟨hP1, hK1, hD1⟩ := hB
        rw [ht] at hP1
        obtain ⟨hP, hD⟩ := va_joinQ (X := [(za, (b13_0 0 z1 (nI z2) (nI z3) z4 z5 z6 z7 z8 z9 (nI z10) z11 z12 z13 z14 z15 (nI z16) z17 z18 z19))]) (cx := [(za, (b13_0 0 z1 (nI z2) (nI z3) z4 z5 z6 z7 z8 z9 (nI z10) z11 z12 z13 z14 z15 (nI z16) z17 z18 z19))]) (wr := []) (w1 := [(za, (b13_0 0 z1 (nI z2) (nI z3) 2 (-1) z6 z7 z8 z9 (nI z10) z11 z12 z13 z14 z15 (nI z16) z17 z18 z19))]) (pl := va_pl L M) hP hD [0] [] rfl rfl (by decide) (by decide) hk1 hFc hP1 hD1
        have hP : va_P D vwCl ([(za, (b13_0 0 z1 (nI z2) (nI z3) 2 (-1) z6 z7 z8 z9 (nI z10) z11 z12 z13 z14 z15 (nI z16) z17 z18 z19))] ++ va_pl L M) H_99 := hP
        have hD : va_D A ([(za, (b13_0 0 z1 (nI z2) (nI z3) 2 (-1) z6 z7 z8 z9 (nI z10) z11 z12 z13 z14 z15 (nI z16) z17 z18 z19))] ++ va_pl L M) := hD
        have hq := Eq.symm hp_102
        subst hq
        have hI_103 : (0 : Int) ≤ (k1 : Int32).toInt := inltI rfl rfl c_7
        have hI_104 : (k1 : Int32).toInt < ((z2 : Nat) : Int) := inleI (nI_toInt (by omega)) rfl c_8
        have hI_105 : (0 : Int) ≤ (k2 : Int32).toInt := inltI rfl rfl c_9
        have hI_106 : (k2 : Int32).toInt < (6 : Int) := inleI rfl rfl c_10
        have hI_107 : (1 : Int) ≤ (k3 : Int32).toInt := inltI rfl rfl c_13
        have hI_108 : (1000000 : Int) < (k3 : Int32).toInt := inleI rfl rfl c_23
        have hI_109 : (0 : Int) ≤ (k3 : Int32).toInt := inltI rfl rfl n_98
        have hno : ¬ okLe z2 SY k1 k2 k3 := fun q9 => by unfold okLe okHS at q9; first | omega | (obtain ⟨⟨_, _, _, _⟩, _, _, _, _⟩ := q9; first | omega | contradiction)
        rw [hQ]
        exact W.iret (v := (-1)) hx hb hr (fun t ht hW9 => ⟨⟨(-1), M, rfl, ⟨hW, hF, hG, ⟨hGI, (by unfold syLe; rw [if_neg hno]; exact hZS)⟩, (by unfold anLe; rw [if_neg hno])⟩, ⟨2, by rw [ht]; exact hP, hD⟩⟩, hS.F ht⟩) hS.2.2 dX13_letter_36
  · have hz := rfl (a := 0)
    refine lv_if_ne (tgt := 20) hx hb dX13_letter_11 (by decide) (fun c_110 => absurd c_110 (by decide)) (fun _ => ?_)
    refine lv_aload_n hx hb dX13_letter_14 rfl (lv_at hl 0 rfl) ?_
    refine lv_iconst (v := 1) hx hb dX13_letter_15 (by decide) ?_
    have hPc := hP.sub (ws' := [(za, (b13_0 0 z1 (nI z2) (nI z3) z4 z5 z6 z7 z8 z9 (nI z10) z11 z12 z13 z14 z15 (nI z16) z17 z18 z19))]) [0] rfl
    have hDc := hD.sub (ws' := [(za, (b13_0 0 z1 (nI z2) (nI z3) z4 z5 z6 z7 z8 z9 (nI z10) z11 z12 z13 z14 z15 (nI z16) z17 z18 z19))]) [0] (by decide) rfl
    have hKc := hK.sub (tys' := []) [] rfl
    have hFc := va_free (wc := [(za, (b13_0 0 z1 (nI z2) (nI z3) z4 z5 z6 z7 z8 z9 (nI z10) z11 z12 z13 z14 z15 (nI z16) z17 z18 z19))]) hD hS hA [0] rfl
    refine va_calli (va_runV (As := [.int 1]) (rest := []) ⟨hx, hb, hml, hown, hg⟩ (m_refused l D H_2.size za 0 z1 (nI z2) (nI z3) z4 z5 z6 z7 z8 z9 (nI z10) z11 z12 z13 z14 z15 (nI z16) z17 z18 z19 1) (cwV 1 hg (gV wd_725 wd_726 wd_727 wd_717 wd_728) rfl rfl rfl (by decide +kernel) ⟨(Nat.le_trans (Nat.le_of_ble_eq_true rfl) hRf), (Nat.le_trans (Nat.le_of_ble_eq_true rfl) hRl)⟩) ⟨Pr.blind, va_recv hK hP (ci := 13) (q0 := 0) rfl rfl, fun U hU hW => ⟨rfl, Pr.at hPc hKc hDc hN hU hW⟩⟩ rfl rfl hl.1 rfl (lv_room (Nat.le_of_ble_eq_true rfl)) dX13_letter_16 ⟨(Nat.le_trans (Nat.le_of_ble_eq_true rfl) hRc), (Nat.le_trans (Nat.le_of_ble_eq_true rfl) hRs)⟩) hS (fun q _ h => hFc q h) hFc (fun r_112 M_113 t H_111 locs ht hvm hw hB hz1 hk1 hS => ?_)
    have hp_114 := hw
    obtain ⟨hP1, hK1, hD1⟩ := hB
    rw [ht] at hP1
    obtain ⟨hP, hD⟩ := va_joinQ (X := [(za, (b13_0 0 z1 (nI z2) (nI z3) z4 z5 z6 z7 z8 z9 (nI z10) z11 z12 z13 z14 z15 (nI z16) z17 z18 z19))]) (cx := [(za, (b13_0 0 z1 (nI z2) (nI z3) z4 z5 z6 z7 z8 z9 (nI z10) z11 z12 z13 z14 z15 (nI z16) z17 z18 z19))]) (wr := []) (w1 := [(za, (b13_0 0 z1 (nI z2) (nI z3) 1 (-1) z6 z7 z8 z9 (nI z10) z11 z12 z13 z14 z15 (nI z16) z17 z18 z19))]) (pl := va_pl L M) hP hD [0] [] rfl rfl (by decide) (by decide) hk1 hFc hP1 hD1
    have hP : va_P D vwCl ([(za, (b13_0 0 z1 (nI z2) (nI z3) 1 (-1) z6 z7 z8 z9 (nI z10) z11 z12 z13 z14 z15 (nI z16) z17 z18 z19))] ++ va_pl L M) H_111 := hP
    have hD : va_D A ([(za, (b13_0 0 z1 (nI z2) (nI z3) 1 (-1) z6 z7 z8 z9 (nI z10) z11 z12 z13 z14 z15 (nI z16) z17 z18 z19))] ++ va_pl L M) := hD
    have hq := Eq.symm hp_114
    subst hq
    have hno : ¬ okLe z2 SY k1 k2 k3 := fun q9 => by unfold okLe okHS at q9; first | omega | (obtain ⟨⟨_, _, _, _⟩, _, _, _, _⟩ := q9; first | omega | contradiction)
    rw [hQ]
    exact W.iret (v := (-1)) hx hb hr (fun t ht hW9 => ⟨⟨(-1), M, rfl, ⟨hW, hF, hG, ⟨hGI, (by unfold syLe; rw [if_neg hno]; exact hZS)⟩, (by unfold anLe; rw [if_neg hno])⟩, ⟨1, by rw [ht]; exact hP, hD⟩⟩, hS.F ht⟩) hS.2.2 dX13_letter_19
set_option maxHeartbeats 4000000 in
set_option maxRecDepth 100000 in
theorem z_unseal (l : Launch) (D : va_G) (cy : Nat → ClassId) (K : Kp) (L : List Nat) (M : Hp) (sz : Nat) (za : Nat) (z0 : Int32) (z1 : Nat) (z2 : Nat) (z3 : Nat) (z4 : Int32) (z5 : Int32) (z6 : Nat) (z7 : Nat) (z8 : Nat) (z9 : Nat) (z10 : Nat) (z11 : Nat) (z12 : Nat) (z13 : Nat) (z14 : Nat) (z15 : Nat) (z16 : Nat) (z17 : Nat) (z18 : Int32) (z19 : Nat) (k1 : Int32) (k2 : Int32) (SX : Nat → Nat → Int) (SY : Nat → Nat → Nat → Int32) (hW : WOM cy K L M) (i1 : isk K L z1 23 8) (b2 : z2 ≤ 8) (b3 : z3 ≤ 40) (i6 : isk K L z6 47 40) (i7 : isk K L z7 48 40) (i8 : isk K L z8 49 8) (i9 : isk K L z9 50 8) (b10 : z10 ≤ 8) (i11 : isk K L z11 32 24) (i12 : isk K L z12 14 24) (i13 : isk K L z13 97 24) (i14 : isk K L z14 98 24) (i15 : isk K L z15 99 24) (b16 : z16 ≤ 24) (i17 : isk K L z17 14 24) (i19 : isk K L z19 15 25) (hGI : GI K L z1 z2 M) (hZS : ZSx z1 z2 SX SY M) : Met l yX13_unseal (wsM yX13_unseal cX13_unseal 5 (some .int)) ({ frames := 2, cells := 0, slots := 0, locals := 43 }) (va_Pc [.ref za, .int k1, .int k2] (PG D cy [(za, (b13_0 z0 z1 (nI z2) (nI z3) z4 z5 z6 z7 z8 z9 (nI z10) z11 z12 z13 z14 z15 (nI z16) z17 z18 z19))] L M sz)) (va_Qi (fun (r : Int32) (M9 : Hp) => WOM cy K L M9 ∧ fr K L [33] M M9 ∧ fG K L [] M M9 ∧ (GI K L z1 z2 M9 ∧ ZSx z1 z2 SX (syUn z2 SY k1 k2) M9) ∧ ((r = anUn z2 SY k1 k2))) (fun M9 t => ∃ (w4 : Int32), PQ D [(za, (b13_0 0 z1 (nI z2) (nI z3) w4 (-1) z6 z7 z8 z9 (nI z10) z11 z12 z13 z14 z15 (nI z16) z17 z18 z19))] L M9 (va_A ([(za, (b13_0 z0 z1 (nI z2) (nI z3) z4 z5 z6 z7 z8 z9 (nI z10) z11 z12 z13 z14 z15 (nI z16) z17 z18 z19))] ++ va_pl L M) sz) t) (va_A ([(za, (b13_0 z0 z1 (nI z2) (nI z3) z4 z5 z6 z7 z8 z9 (nI z10) z11 z12 z13 z14 z15 (nI z16) z17 z18 z19))] ++ va_pl L M) sz)) 0 0 (va_A ([(za, (b13_0 z0 z1 (nI z2) (nI z3) z4 z5 z6 z7 z8 z9 (nI z10) z11 z12 z13 z14 z15 (nI z16) z17 z18 z19))] ++ va_pl L M) sz) := by
  refine Met.ofW (cc := cX13_unseal) (maxL := 5) (ret := (some .int)) (by decide) rfl ?_
  intro p e s m args below meth c s₁ B hml hv
  obtain ⟨rfl, hsz, hP, hK, hD0, hN⟩ := hv
  have hx := B.exec
  have hb := B.bytes
  have hr := B.returns
  have hts := atoms_spec (ws := (wsM yX13_unseal cX13_unseal 5 (some .int))) B.pre
  have hg : ∀ w ∈ lw_good, w.before _ s = true := fun w h => hts w (List.mem_cons_of_mem _ h)
  have hown : s.vm.findClass RX13 = some m.cls := findClass_of_methodNamed B.named
  have hlocks := B.notSynchronized
  subst hsz
  have hD := hD0.self (sz := s.heap.size)
  generalize hAe : va_A ([(za, (b13_0 z0 z1 (nI z2) (nI z3) z4 z5 z6 z7 z8 z9 (nI z10) z11 z12 z13 z14 z15 (nI z16) z17 z18 z19))] ++ va_pl L M) s.heap.size = A at hD ⊢
  have hA : ∀ q : Nat, s.heap.size ≤ q → A q := fun q h => by rw [← hAe]; exact Or.inr h
  have hS : va_S A s.heap s.heap [] := va_S.rf
  have hl := lv_entry ([.ref za, .int k1, .int k2]) (n := 5) (Nat.le_of_ble_eq_true rfl)
  rw [lg_entry_eq]
  generalize (lg_sl ([.ref za, .int k1, .int k2]) ++ List.replicate (5 - (lg_sl ([.ref za, .int k1, .int k2])).length) Slot.unset).toArray = ls at hl ⊢
  refine W.nameQ (fun Q hQ => ?_)
  refine W.nameR (fun R hR => ?_)
  have hRf : 2 ≤ R.frames := by rw [hR]; exact Nat.le_of_ble_eq_true rfl
  have hRl : 43 ≤ R.locals := by rw [hR]; exact Nat.le_of_ble_eq_true rfl
  have hRc : 0 ≤ R.cells := by rw [hR]; exact Nat.le_of_ble_eq_true rfl
  have hRs : 0 ≤ R.slots := by rw [hR]; exact Nat.le_of_ble_eq_true rfl
  have hF : fr K L [33] M M := fr.rf
  have hG : fG K L [] M M := fG.rf
  have hl : lv_has ls 5 [(0, .ref za), (1, .int k1), (2, .int k2)] := hl
  have hW0 := hW
  refine lv_aload_n hx hb dX13_unseal_0 rfl (lv_at hl 0 rfl) ?_
  refine lv_iconst (v := 0) hx hb dX13_unseal_1 (by decide) ?_
  refine va_put (D := D) (ci := 13) (v := .int 0) (ty := .int) (C := RX13) (T := TX13) (N := 20) hx hb hg inG13 tyX13 tyX13_ok nmX13 hown hK hP hD hS 0 rfl rfl 0 (by decide) (hg _ wd_720) (fun _ h9 => h9) rfl (by decide +kernel) rfl rfl (Nat.le_of_ble_eq_true rfl) dX13_unseal_2 (fun H_1 locs hP hD hS => ?_)
  have hP : va_P D vwCl ([(za, (b13_0 0 z1 (nI z2) (nI z3) z4 z5 z6 z7 z8 z9 (nI z10) z11 z12 z13 z14 z15 (nI z16) z17 z18 z19))] ++ va_pl L M) H_1 := hP
  have hD : va_D A ([(za, (b13_0 0 z1 (nI z2) (nI z3) z4 z5 z6 z7 z8 z9 (nI z10) z11 z12 z13 z14 z15 (nI z16) z17 z18 z19))] ++ va_pl L M) := hD
  refine lv_aload_n hx hb dX13_unseal_5 rfl (lv_at hl 0 rfl) ?_
  refine lv_iload_n hx hb dX13_unseal_6 rfl (lv_at hl 1 rfl) ?_
  refine lv_iload_n hx hb dX13_unseal_7 rfl (lv_at hl 2 rfl) ?_
  have hPc : va_P D vwCl ([(za, (b13_0 0 z1 (nI z2) (nI z3) z4 z5 z6 z7 z8 z9 (nI z10) z11 z12 z13 z14 z15 (nI z16) z17 z18 z19))] ++ va_pl L M) H_1 := hP
  have hDc : va_D A ([(za, (b13_0 0 z1 (nI z2) (nI z3) z4 z5 z6 z7 z8 z9 (nI z10) z11 z12 z13 z14 z15 (nI z16) z17 z18 z19))] ++ va_pl L M) := hD
  have hFc : ∀ q, va_A ([(za, (b13_0 0 z1 (nI z2) (nI z3) z4 z5 z6 z7 z8 z9 (nI z10) z11 z12 z13 z14 z15 (nI z16) z17 z18 z19))] ++ va_pl L M) H_1.size q → A q := pg_free hDc hS hA
  refine va_calli (va_runV (As := [.int k1, .int k2]) (rest := []) ⟨hx, hb, hml, hown, hg⟩ (f_isSeat l D cy K L M H_1.size za 0 z1 z2 z3 z4 z5 z6 z7 z8 z9 z10 z11 z12 z13 z14 z15 z16 z17 z18 z19 k1 k2  hW i1 b2 b3 i6 i7 i8 i9 b10 i11 i12 i13 i14 i15 b16 i17 i19) (cwV 2 hg (gV wd_744 wd_745 wd_746 wd_717 wd_747) rfl rfl rfl (by decide +kernel) ⟨(Nat.le_trans (Nat.le_of_ble_eq_true rfl) hRf), (Nat.le_trans (Nat.le_of_ble_eq_true rfl) hRl)⟩) ⟨PG.blind, va_recv hK hP (ci := 13) (q0 := 0) rfl rfl, fun U hU hW => ⟨rfl, PG.at hPc hK hDc hN hU hW⟩⟩ rfl rfl hl.1 rfl (lv_room (Nat.le_of_ble_eq_true rfl)) dX13_unseal_8 ⟨(Nat.le_trans (Nat.le_of_ble_eq_true rfl) hRc), (Nat.le_trans (Nat.le_of_ble_eq_true rfl) hRs)⟩) hS (fun q _ h => hFc q h) hFc (fun r_3 M_4 t H_2 locs ht hvm hw hB hz1 hk1 hS => ?_)
  have hp_5 := hw
  obtain ⟨hP1, hD1⟩ := hB
  rw [ht] at hP1
  have hP : va_P D vwCl ([(za, (b13_0 0 z1 (nI z2) (nI z3) z4 z5 z6 z7 z8 z9 (nI z10) z11 z12 z13 z14 z15 (nI z16) z17 z18 z19))] ++ va_pl L M) H_2 := hP1
  have hD : va_D A ([(za, (b13_0 0 z1 (nI z2) (nI z3) z4 z5 z6 z7 z8 z9 (nI z10) z11 z12 z13 z14 z15 (nI z16) z17 z18 z19))] ++ va_pl L M) := hD1.mono hFc
  rcases hp_5 with ⟨rfl, c_6, c_7, c_8, c_9, c_10⟩ | ⟨rfl, c_11⟩
  · have hz := rfl (a := 0)
    refine lv_if_ne (tgt := 20) hx hb dX13_unseal_11 (by decide) (fun _ => ?_) (fun c_12 => absurd c_12 (by decide))
    refine lv_aload_n hx hb dX13_unseal_20 rfl (lv_at hl 0 rfl) ?_
    refine va_get (D := D) (ci := 13) (v := .ref z1) (C := RX13) (T := TX13) (N := 20) hx hb hg inG13 hown hK hP 0 rfl rfl 1 (by decide) (hg _ wd_739) (fun _ h9 => h9) rfl dX13_unseal_21 ?_
    refine lv_iload_n hx hb dX13_unseal_24 rfl (lv_at hl 1 rfl) ?_
    obtain ⟨f13, hM13, hf13⟩ := hW.open_23 i1
    have hi_14 : vp_in k1 8 := (inbW (a := z2) (by omega) (inb k1 z2 (by omega) c_7 c_8))
    refine pg_aldq hx hb hK hP i1.1 9 hM13 rfl hi_14 dX13_unseal_25 ?_
    obtain ⟨b15, eb_16, hb_17⟩ := hf13 _ (vp_lt hi_14)
    rw [eb_16]
    have hact : ACT z1 z2 b15 M := ⟨(k1 : Int32).toNatClampNeg, vp_lt (inb k1 z2 (by omega) c_7 c_8), by rw [show RFc (M z1) = f13 from by rw [hM13]; rfl]; exact eb_16⟩
    have hAT := GI.at hGI hact
    have hV : VW K L M M b15 (fx M b15) (ax M b15) := VW.rf b15 hGI.2.2.2
    have hb9 : RFc (M z1) (k1 : Int32).toNatClampNeg = some b15 := by rw [show RFc (M z1) = f13 from by rw [hM13]; rfl]; exact eb_16
    have hkn : (k1 : Int32).toNatClampNeg < z2 := vp_lt (inb k1 z2 (by omega) c_7 c_8)
    have hZk := hZS _ b15 hkn hb9
    refine lv_astore_n (lv' := [(3, .ref b15), (0, .ref za), (1, .int k1), (2, .int k2)]) hx hb dX13_unseal_26 rfl hl (by decide) rfl (fun ls hl => ?_)
    refine lv_aload_n hx hb dX13_unseal_27 rfl (lv_at hl 0 rfl) ?_
    obtain ⟨fs18, hM18, hn18, hl18⟩ := hW.open_12 hb_17
    obtain ⟨v19, hv19, hc19⟩ : ∃ v : Nat, fs18[9]? = some (.ref v : Value) ∧ isk K L v 33 6 := hl18 9 (by decide)
    refine pg_getN (D := D) (ci := 12) (v := .ref v19) (C := RX12) (T := TX12) (N := 51) hx hb hg inG12 hown hK hP hb_17.1 hM18 rfl 9 (by decide) (hN.use (Cond.fieldLinkNest RX13 92 RX12 "seat" "[I" RX13) 18 rfl rfl) (fun _ h9 => h9) hv19 dX13_unseal_28 ?_
    refine lv_iload_n hx hb dX13_unseal_31 rfl (lv_at hl 3 rfl) ?_
    obtain ⟨f20, hM20, hf20⟩ := hW.open_33 hc19
    have hi_21 : vp_in k2 6 := (inb k2 6 (by omega) c_9 c_10)
    refine pg_iald hx hb hK hP hc19.1 0 hM20 rfl hi_21 dX13_unseal_32 ?_
    have hp_22 := hf20 _ (vp_lt hi_21)
    refine lv_topi (fun f_23 ef_23 => ?_)
    rw [← ef_23] at hp_22
    obtain ⟨g_24, g_25⟩ := hp_22
    refine lv_if_lt (tgt := 42) hx hb dX13_unseal_33 (by decide) (fun c_26 => ?_) (fun c_26 => ?_)
    · have hz := rfl (a := 0)
      refine lv_aload_n hx hb dX13_unseal_42 rfl (lv_at hl 0 rfl) ?_
      refine pg_getN (D := D) (ci := 12) (v := .ref v19) (C := RX12) (T := TX12) (N := 51) hx hb hg inG12 hown hK hP hb_17.1 hM18 rfl 9 (by decide) (hN.use (Cond.fieldLinkNest RX13 92 RX12 "seat" "[I" RX13) 18 rfl rfl) (fun _ h9 => h9) hv19 dX13_unseal_43 ?_
      refine lv_iload_n hx hb dX13_unseal_46 rfl (lv_at hl 3 rfl) ?_
      have hi_27 : vp_in k2 6 := (inb k2 6 (by omega) c_9 c_10)
      refine pg_iald hx hb hK hP hc19.1 0 hM20 rfl hi_27 dX13_unseal_47 ?_
      have hp_28 := hf20 _ (vp_lt hi_27)
      refine lv_topi (fun f_29 ef_29 => ?_)
      rw [← ef_29] at hp_28
      obtain ⟨g_30, g_31⟩ := hp_28
      refine lv_ineg hx hb dX13_unseal_48 ?_
      refine lv_topi (fun f_32 ef_32 => ?_)
      refine lv_istore (lv' := [(4, .int f_32), (3, .ref b15), (0, .ref za), (1, .int k1), (2, .int k2)]) hx hb dX13_unseal_49 hl (by decide) rfl (fun ls hl => ?_)
      refine lv_aload_n hx hb dX13_unseal_51 rfl (lv_at hl 1 rfl) ?_
      refine pg_getN (D := D) (ci := 12) (v := .ref v19) (C := RX12) (T := TX12) (N := 51) hx hb hg inG12 hown hK hP hb_17.1 hM18 rfl 9 (by decide) (hN.use (Cond.fieldLinkNest RX13 92 RX12 "seat" "[I" RX13) 18 rfl rfl) (fun _ h9 => h9) hv19 dX13_unseal_52 ?_
      refine lv_iload_n hx hb dX13_unseal_55 rfl (lv_at hl 4 rfl) ?_
      refine lv_iconst (v := 0) hx hb dX13_unseal_56 (by decide) ?_
      obtain ⟨j_33, hj_34, rfl⟩ := i32nat 6 (by decide) c_9 c_10
      refine pg_iast hx hb hK hP hD hS hc19.1 0 hM20 rfl (inbN j_33 6 (by omega) (by omega)) dX13_unseal_57 (fun H_35 locs hP hD hS => ?_)
      obtain ⟨M_36, eM_36⟩ : ∃ M1 : Hp, M1 = va_up M v19 (.inl (cy 14, 6, .inl (upd f20 ((nI j_33) : Int32).toNatClampNeg 0))) := ⟨_, rfl⟩
      have hy9 : (ax M b15 9) = f20 := (congrFun hV.2.2.1 9).symm.trans (ax_of hM18 (by decide) hv19 hM20)
      have hV : VW K L M M_36 b15 (fx M b15) (va_up (ax M b15) 9 (upd (ax M b15 9) ((nI j_33) : Int32).toNatClampNeg 0)) := by rw [eM_36]; exact hV.ast (j := 9) hW hb_17 hM18 (by decide) hv19 hc19 hM20
      have hP : va_P D vwCl ([(za, (b13_0 0 z1 (nI z2) (nI z3) z4 z5 z6 z7 z8 z9 (nI z10) z11 z12 z13 z14 z15 (nI z16) z17 z18 z19))] ++ va_pl L M_36) H_35 := by rw [eM_36]; exact hP
      have hD : va_D A ([(za, (b13_0 0 z1 (nI z2) (nI z3) z4 z5 z6 z7 z8 z9 (nI z10) z11 z12 z13 z14 z15 (nI z16) z17 z18 z19))] ++ va_pl L M_36) := by rw [eM_36]; exact hD
      have hW : WOM cy K L M_36 := by rw [eM_36]; exact hW.up_33 hc19 ⟨_, rfl, (updP (P := fun z => ((-1000000) ≤ z ∧ z ≤ 24)) hf20 (by decide))⟩
      have hF : fr K L [33] M M_36 := by rw [eM_36]; exact hF.up hc19 (by decide)
      have hG : fG K L [] M M_36 := by rw [eM_36]; exact hG.arr hc19 (by decide)
      have hM_37 : M_36 v19 = .inl (cy 14, 6, .inl (upd f20 ((nI j_33) : Int32).toNatClampNeg 0)) := by rw [eM_36]; exact va_up_self _ _ _
      have hM_38 : M_36 z1 = .inl (cy 23, 8, .inr (.inr (.inr (.inr (f13))))) := by rw [eM_36, va_up_ne _ _ (i1.neT hc19 (by decide))]; exact hM13
      have hM_39 : M_36 b15 = .inr (12, fs18) := by rw [eM_36, va_up_ne _ _ (hb_17.neT hc19 (by decide))]; exact hM18
      have hf_41 : ∀ j, j < 6 → ((-1000000) ≤ (upd f20 ((nI j_33) : Int32).toNatClampNeg 0) j ∧ (upd f20 ((nI j_33) : Int32).toNatClampNeg 0) j ≤ 24) := (updP (P := fun z => ((-1000000) ≤ z ∧ z ≤ 24)) hf20 (by decide))
      obtain ⟨f_40, ef_40⟩ : ∃ f : Nat → Int32, f = upd f20 ((nI j_33) : Int32).toNatClampNeg 0 := ⟨_, rfl⟩
      rw [← ef_40] at hM_37 hf_41
      refine lv_aload_n hx hb dX13_unseal_58 rfl (lv_at hl 2 rfl) ?_
      refine lv_iload hx hb dX13_unseal_59 (lv_at hl 0 rfl) ?_
      have hPc := hP.sub (ws' := [(za, (b13_0 0 z1 (nI z2) (nI z3) z4 z5 z6 z7 z8 z9 (nI z10) z11 z12 z13 z14 z15 (nI z16) z17 z18 z19))]) [0] rfl
      have hDc := hD.sub (ws' := [(za, (b13_0 0 z1 (nI z2) (nI z3) z4 z5 z6 z7 z8 z9 (nI z10) z11 z12 z13 z14 z15 (nI z16) z17 z18 z19))]) [0] (by decide) rfl
      have hKc := hK.sub (tys' := []) [] rfl
      have hFc := va_free (wc := [(za, (b13_0 0 z1 (nI z2) (nI z3) z4 z5 z6 z7 z8 z9 (nI z10) z11 z12 z13 z14 z15 (nI z16) z17 z18 z19))]) hD hS hA [0] rfl
      refine va_calli (va_runV (As := [.int f_32]) (rest := []) ⟨hx, hb, hml, hown, hg⟩ (m_done l D H_35.size za 0 z1 (nI z2) (nI z3) z4 z5 z6 z7 z8 z9 (nI z10) z11 z12 z13 z14 z15 (nI z16) z17 z18 z19 f_32) (cwV 1 hg (gV wd_730 wd_731 wd_732 wd_717 wd_733) rfl rfl rfl (by decide +kernel) ⟨(Nat.le_trans (Nat.le_of_ble_eq_true rfl) hRf), (Nat.le_trans (Nat.le_of_ble_eq_true rfl) hRl)⟩) ⟨Pr.blind, va_recv hK hP (ci := 13) (q0 := 0) rfl rfl, fun U hU hW => ⟨rfl, Pr.at hPc hKc hDc hN hU hW⟩⟩ rfl rfl hl.1 rfl (lv_room (Nat.le_of_ble_eq_true rfl)) dX13_unseal_61 ⟨(Nat.le_trans (Nat.le_of_ble_eq_true rfl) hRc), (Nat.le_trans (Nat.le_of_ble_eq_true rfl) hRs)⟩) hS (fun q _ h => hFc q h) hFc (fun r_43 M_44 t H_42 locs ht hvm hw hB hz1 hk1 hS => ?_)
      have hp_45 := hw
      obtain ⟨hP1, hK1, hD1⟩ := hB
      rw [ht] at hP1
      obtain ⟨hP, hD⟩ := va_joinQ (X := [(za, (b13_0 0 z1 (nI z2) (nI z3) z4 z5 z6 z7 z8 z9 (nI z10) z11 z12 z13 z14 z15 (nI z16) z17 z18 z19))]) (cx := [(za, (b13_0 0 z1 (nI z2) (nI z3) z4 z5 z6 z7 z8 z9 (nI z10) z11 z12 z13 z14 z15 (nI z16) z17 z18 z19))]) (wr := []) (w1 := [(za, (b13_0 0 z1 (nI z2) (nI z3) 0 (-1) z6 z7 z8 z9 (nI z10) z11 z12 z13 z14 z15 (nI z16) z17 z18 z19))]) (pl := va_pl L M_36) hP hD [0] [] rfl rfl (by decide) (by decide) hk1 hFc hP1 hD1
      have hP : va_P D vwCl ([(za, (b13_0 0 z1 (nI z2) (nI z3) 0 (-1) z6 z7 z8 z9 (nI z10) z11 z12 z13 z14 z15 (nI z16) z17 z18 z19))] ++ va_pl L M_36) H_42 := hP
      have hD : va_D A ([(za, (b13_0 0 z1 (nI z2) (nI z3) 0 (-1) z6 z7 z8 z9 (nI z10) z11 z12 z13 z14 z15 (nI z16) z17 z18 z19))] ++ va_pl L M_36) := hD
      have hq := Eq.symm hp_45
      subst hq
      have hI_46 : (0 : Int) ≤ (k1 : Int32).toInt := inltI rfl rfl c_7
      have hI_47 : (k1 : Int32).toInt < ((z2 : Nat) : Int) := inleI (nI_toInt (by omega)) rfl c_8
      have hI_48 : (0 : Int) ≤ ((j_33 : Nat) : Int) := inltI (nI_toInt (by omega)) rfl c_9
      have hI_49 : ((j_33 : Nat) : Int) < (6 : Int) := inleI rfl (nI_toInt (by omega)) c_10
      have hI_50 : (-1000000) ≤ (f_23 : Int32).toInt := ileI rfl rfl g_24
      have hI_51 : (f_23 : Int32).toInt ≤ (24 : Int) := ileI rfl rfl g_25
      have hI_52 : (f_23 : Int32).toInt < (0 : Int) := iltI rfl rfl c_26
      have hI_53 : (-1000000) ≤ (f_29 : Int32).toInt := ileI rfl rfl g_30
      have hI_54 : (f_29 : Int32).toInt ≤ (24 : Int) := ileI rfl rfl g_31
      have hn92 : ((nI j_33) : Int32).toInt = ((j_33 : Nat) : Int) := nI_toInt (by omega)
      have h9s : SY (k1 : Int32).toNatClampNeg 9 ((nI j_33) : Int32).toNatClampNeg = f_23 := by rw [← hZk.2]; exact (by rw [ax_of hM18 (by decide) hv19 hM20, ef_23])
      have h9i := congrArg Int32.toInt h9s
      have hyes : okUn z2 SY k1 (nI j_33) := by unfold okUn okHS; refine ⟨⟨?_, ?_, ?_, ?_⟩, ?_⟩ <;> first | omega | assumption
      have hA9 : HA (ax M b15 2) (ax M b15 3) := hAT.1
      have hB9 : HB (fx M b15 16) (fx M b15 14) (ax M b15 3) (ax M b15 43) := hAT.2.1
      have hC9 : HC (fx M b15 10) (ax M b15 22) (ax M b15 23) := hAT.2.2.1
      have hD9 : HD (fx M b15 0) (fx M b15 11) (fx M b15 15) (ax M b15 34) (ax M b15 41) := hAT.2.2.2.1
      have hE9 : HE (fx M b15 0) (fx M b15 1) (fx M b15 12) (fx M b15 13) (ax M b15 37) := hAT.2.2.2.2
      have hH9 : HI (fx M b15) (va_up (ax M b15) 9 (upd (ax M b15 9) ((nI j_33) : Int32).toNatClampNeg 0)) := ⟨hA9, hB9, hC9, hD9, hE9⟩
      have hGI9 : GI K L z1 z2 M_36 := GI.fin hW0 i1 b2 hGI hact hV (hF.at i1 (by decide)) hH9
      rw [hQ]
      exact W.iret (v := f_32) hx hb hr (fun t ht hW9 => ⟨⟨f_32, M_36, rfl, ⟨hW, hF, hG, ⟨hGI9, (by unfold syUn; rw [if_pos hyes]; have hQ9 := ZSx.fin hW0 i1 b2 hZS hGI.1 hkn hb9 hV (hF.at i1 (by decide)) (hZk.1) ((by rw [hZk.2])); rw [va_upJ] at hQ9; exact hQ9)⟩, (by unfold anUn; rw [if_pos hyes, h9s, ef_32, ef_29, ← ef_23])⟩, ⟨0, by rw [ht]; exact hP, hD⟩⟩, hS.F ht⟩) hS.2.2 dX13_unseal_64
    · have hz := rfl (a := 0)
      refine lv_aload_n hx hb dX13_unseal_36 rfl (lv_at hl 1 rfl) ?_
      refine lv_iconst (v := 4) hx hb dX13_unseal_37 (by decide) ?_
      have hPc := hP.sub (ws' := [(za, (b13_0 0 z1 (nI z2) (nI z3) z4 z5 z6 z7 z8 z9 (nI z10) z11 z12 z13 z14 z15 (nI z16) z17 z18 z19))]) [0] rfl
      have hDc := hD.sub (ws' := [(za, (b13_0 0 z1 (nI z2) (nI z3) z4 z5 z6 z7 z8 z9 (nI z10) z11 z12 z13 z14 z15 (nI z16) z17 z18 z19))]) [0] (by decide) rfl
      have hKc := hK.sub (tys' := []) [] rfl
      have hFc := va_free (wc := [(za, (b13_0 0 z1 (nI z2) (nI z3) z4 z5 z6 z7 z8 z9 (nI z10) z11 z12 z13 z14 z15 (nI z16) z17 z18 z19))]) hD hS hA [0] rfl
      refine va_calli (va_runV (As := [.int 4]) (rest := []) ⟨hx, hb, hml, hown, hg⟩ (m_refused l D H_2.size za 0 z1 (nI z2) (nI z3) z4 z5 z6 z7 z8 z9 (nI z10) z11 z12 z13 z14 z15 (nI z16) z17 z18 z19 4) (cwV 1 hg (gV wd_725 wd_726 wd_727 wd_717 wd_728) rfl rfl rfl (by decide +kernel) ⟨(Nat.le_trans (Nat.le_of_ble_eq_true rfl) hRf), (Nat.le_trans (Nat.le_of_ble_eq_true rfl) hRl)⟩) ⟨Pr.blind, va_recv hK hP (ci := 13) (q0 := 0) rfl rfl, fun U hU hW => ⟨rfl, Pr.at hPc hKc hDc hN hU hW⟩⟩ rfl rfl hl.1 rfl (lv_room (Nat.le_of_ble_eq_true rfl)) dX13_unseal_38 ⟨(Nat.le_trans (Nat.le_of_ble_eq_true rfl) hRc), (Nat.le_trans (Nat.le_of_ble_eq_true rfl) hRs)⟩) hS (fun q _ h => hFc q h) hFc (fun r_56 M_57 t H_55 locs ht hvm hw hB hz1 hk1 hS => ?_)
      have hp_58 := hw
      obtain ⟨hP1, hK1, hD1⟩ := hB
      rw [ht] at hP1
      obtain ⟨hP, hD⟩ := va_joinQ (X := [(za, (b13_0 0 z1 (nI z2) (nI z3) z4 z5 z6 z7 z8 z9 (nI z10) z11 z12 z13 z14 z15 (nI z16) z17 z18 z19))]) (cx := [(za, (b13_0 0 z1 (nI z2) (nI z3) z4 z5 z6 z7 z8 z9 (nI z10) z11 z12 z13 z14 z15 (nI z16) z17 z18 z19))]) (wr := []) (w1 := [(za, (b13_0 0 z1 (nI z2) (nI z3) 4 (-1) z6 z7 z8 z9 (nI z10) z11 z12 z13 z14 z15 (nI z16) z17 z18 z19))]) (pl := va_pl L M) hP hD [0] [] rfl rfl (by decide) (by decide) hk1 hFc hP1 hD1
      have hP : va_P D vwCl ([(za, (b13_0 0 z1 (nI z2) (nI z3) 4 (-1) z6 z7 z8 z9 (nI z10) z11 z12 z13 z14 z15 (nI z16) z17 z18 z19))] ++ va_pl L M) H_55 := hP
      have hD : va_D A ([(za, (b13_0 0 z1 (nI z2) (nI z3) 4 (-1) z6 z7 z8 z9 (nI z10) z11 z12 z13 z14 z15 (nI z16) z17 z18 z19))] ++ va_pl L M) := hD
      have hq := Eq.symm hp_58
      subst hq
      have hI_59 : (0 : Int) ≤ (k1 : Int32).toInt := inltI rfl rfl c_7
      have hI_60 : (k1 : Int32).toInt < ((z2 : Nat) : Int) := inleI (nI_toInt (by omega)) rfl c_8
      have hI_61 : (0 : Int) ≤ (k2 : Int32).toInt := inltI rfl rfl c_9
      have hI_62 : (k2 : Int32).toInt < (6 : Int) := inleI rfl rfl c_10
      have hI_63 : (-1000000) ≤ (f_23 : Int32).toInt := ileI rfl rfl g_24
      have hI_64 : (f_23 : Int32).toInt ≤ (24 : Int) := ileI rfl rfl g_25
      have hI_65 : (0 : Int) ≤ (f_23 : Int32).toInt := inltI rfl rfl c_26
      have h9s : SY (k1 : Int32).toNatClampNeg 9 (k2 : Int32).toNatClampNeg = f_23 := by rw [← hZk.2]; exact (by rw [ax_of hM18 (by decide) hv19 hM20, ef_23])
      have h9i := congrArg Int32.toInt h9s
      have hno : ¬ okUn z2 SY k1 k2 := fun q9 => by unfold okUn okHS at q9; first | omega | (obtain ⟨⟨_, _, _, _⟩, _⟩ := q9; first | omega | contradiction)
      rw [hQ]
      exact W.iret (v := (-1)) hx hb hr (fun t ht hW9 => ⟨⟨(-1), M, rfl, ⟨hW, hF, hG, ⟨hGI, (by unfold syUn; rw [if_neg hno]; exact hZS)⟩, (by unfold anUn; rw [if_neg hno])⟩, ⟨4, by rw [ht]; exact hP, hD⟩⟩, hS.F ht⟩) hS.2.2 dX13_unseal_41
  · have hz := rfl (a := 0)
    refine lv_if_ne (tgt := 20) hx hb dX13_unseal_11 (by decide) (fun c_66 => absurd c_66 (by decide)) (fun _ => ?_)
    refine lv_aload_n hx hb dX13_unseal_14 rfl (lv_at hl 0 rfl) ?_
    refine lv_iconst (v := 1) hx hb dX13_unseal_15 (by decide) ?_
    have hPc := hP.sub (ws' := [(za, (b13_0 0 z1 (nI z2) (nI z3) z4 z5 z6 z7 z8 z9 (nI z10) z11 z12 z13 z14 z15 (nI z16) z17 z18 z19))]) [0] rfl
    have hDc := hD.sub (ws' := [(za, (b13_0 0 z1 (nI z2) (nI z3) z4 z5 z6 z7 z8 z9 (nI z10) z11 z12 z13 z14 z15 (nI z16) z17 z18 z19))]) [0] (by decide) rfl
    have hKc := hK.sub (tys' := []) [] rfl
    have hFc := va_free (wc := [(za, (b13_0 0 z1 (nI z2) (nI z3) z4 z5 z6 z7 z8 z9 (nI z10) z11 z12 z13 z14 z15 (nI z16) z17 z18 z19))]) hD hS hA [0] rfl
    refine va_calli (va_runV (As := [.int 1]) (rest := []) ⟨hx, hb, hml, hown, hg⟩ (m_refused l D H_2.size za 0 z1 (nI z2) (nI z3) z4 z5 z6 z7 z8 z9 (nI z10) z11 z12 z13 z14 z15 (nI z16) z17 z18 z19 1) (cwV 1 hg (gV wd_725 wd_726 wd_727 wd_717 wd_728) rfl rfl rfl (by decide +kernel) ⟨(Nat.le_trans (Nat.le_of_ble_eq_true rfl) hRf), (Nat.le_trans (Nat.le_of_ble_eq_true rfl) hRl)⟩) ⟨Pr.blind, va_recv hK hP (ci := 13) (q0 := 0) rfl rfl, fun U hU hW => ⟨rfl, Pr.at hPc hKc hDc hN hU hW⟩⟩ rfl rfl hl.1 rfl (lv_room (Nat.le_of_ble_eq_true rfl)) dX13_unseal_16 ⟨(Nat.le_trans (Nat.le_of_ble_eq_true rfl) hRc), (Nat.le_trans (Nat.le_of_ble_eq_true rfl) hRs)⟩) hS (fun q _ h => hFc q h) hFc (fun r_68 M_69 t H_67 locs ht hvm hw hB hz1 hk1 hS => ?_)
    have hp_70 := hw
    obtain ⟨hP1, hK1, hD1⟩ := hB
    rw [ht] at hP1
    obtain ⟨hP, hD⟩ := va_joinQ (X := [(za, (b13_0 0 z1 (nI z2) (nI z3) z4 z5 z6 z7 z8 z9 (nI z10) z11 z12 z13 z14 z15 (nI z16) z17 z18 z19))]) (cx := [(za, (b13_0 0 z1 (nI z2) (nI z3) z4 z5 z6 z7 z8 z9 (nI z10) z11 z12 z13 z14 z15 (nI z16) z17 z18 z19))]) (wr := []) (w1 := [(za, (b13_0 0 z1 (nI z2) (nI z3) 1 (-1) z6 z7 z8 z9 (nI z10) z11 z12 z13 z14 z15 (nI z16) z17 z18 z19))]) (pl := va_pl L M) hP hD [0] [] rfl rfl (by decide) (by decide) hk1 hFc hP1 hD1
    have hP : va_P D vwCl ([(za, (b13_0 0 z1 (nI z2) (nI z3) 1 (-1) z6 z7 z8 z9 (nI z10) z11 z12 z13 z14 z15 (nI z16) z17 z18 z19))] ++ va_pl L M) H_67 := hP
    have hD : va_D A ([(za, (b13_0 0 z1 (nI z2) (nI z3) 1 (-1) z6 z7 z8 z9 (nI z10) z11 z12 z13 z14 z15 (nI z16) z17 z18 z19))] ++ va_pl L M) := hD
    have hq := Eq.symm hp_70
    subst hq
    have hno : ¬ okUn z2 SY k1 k2 := fun q9 => by unfold okUn okHS at q9; first | omega | (obtain ⟨⟨_, _, _, _⟩, _⟩ := q9; first | omega | contradiction)
    rw [hQ]
    exact W.iret (v := (-1)) hx hb hr (fun t ht hW9 => ⟨⟨(-1), M, rfl, ⟨hW, hF, hG, ⟨hGI, (by unfold syUn; rw [if_neg hno]; exact hZS)⟩, (by unfold anUn; rw [if_neg hno])⟩, ⟨1, by rw [ht]; exact hP, hD⟩⟩, hS.F ht⟩) hS.2.2 dX13_unseal_19
set_option maxHeartbeats 4000000 in
set_option maxRecDepth 100000 in
theorem z_holds (l : Launch) (D : va_G) (cy : Nat → ClassId) (K : Kp) (L : List Nat) (M : Hp) (sz : Nat) (za : Nat) (z0 : Int32) (z1 : Nat) (z2 : Nat) (z3 : Nat) (z4 : Int32) (z5 : Int32) (z6 : Nat) (z7 : Nat) (z8 : Nat) (z9 : Nat) (z10 : Nat) (z11 : Nat) (z12 : Nat) (z13 : Nat) (z14 : Nat) (z15 : Nat) (z16 : Nat) (z17 : Nat) (z18 : Int32) (z19 : Nat) (k1 : Int32) (k2 : Int32) (SX : Nat → Nat → Int) (SY : Nat → Nat → Nat → Int32) (hW : WOM cy K L M) (i1 : isk K L z1 23 8) (b2 : z2 ≤ 8) (b3 : z3 ≤ 40) (i6 : isk K L z6 47 40) (i7 : isk K L z7 48 40) (i8 : isk K L z8 49 8) (i9 : isk K L z9 50 8) (b10 : z10 ≤ 8) (i11 : isk K L z11 32 24) (i12 : isk K L z12 14 24) (i13 : isk K L z13 97 24) (i14 : isk K L z14 98 24) (i15 : isk K L z15 99 24) (b16 : z16 ≤ 24) (i17 : isk K L z17 14 24) (i19 : isk K L z19 15 25) (hGI : GI K L z1 z2 M) (hZS : ZSx z1 z2 SX SY M) : Met l yX13_holds (wsM yX13_holds cX13_holds 4 (some .int)) ({ frames := 2, cells := 0, slots := 0, locals := 43 }) (va_Pc [.ref za, .int k1, .int k2] (PG D cy [(za, (b13_0 z0 z1 (nI z2) (nI z3) z4 z5 z6 z7 z8 z9 (nI z10) z11 z12 z13 z14 z15 (nI z16) z17 z18 z19))] L M sz)) (va_Qi (fun (r : Int32) (_ : Unit) => (r = anHo z2 SY k1 k2)) (fun _ t => ∃ (w4 : Int32), PQ D [(za, (b13_0 0 z1 (nI z2) (nI z3) w4 (-1) z6 z7 z8 z9 (nI z10) z11 z12 z13 z14 z15 (nI z16) z17 z18 z19))] L M (va_A ([(za, (b13_0 z0 z1 (nI z2) (nI z3) z4 z5 z6 z7 z8 z9 (nI z10) z11 z12 z13 z14 z15 (nI z16) z17 z18 z19))] ++ va_pl L M) sz) t) (va_A ([(za, (b13_0 z0 z1 (nI z2) (nI z3) z4 z5 z6 z7 z8 z9 (nI z10) z11 z12 z13 z14 z15 (nI z16) z17 z18 z19))] ++ va_pl L M) sz)) 0 0 (va_A ([(za, (b13_0 z0 z1 (nI z2) (nI z3) z4 z5 z6 z7 z8 z9 (nI z10) z11 z12 z13 z14 z15 (nI z16) z17 z18 z19))] ++ va_pl L M) sz) := by
  refine Met.ofW (cc := cX13_holds) (maxL := 4) (ret := (some .int)) (by decide) rfl ?_
  intro p e s m args below meth c s₁ B hml hv
  obtain ⟨rfl, hsz, hP, hK, hD0, hN⟩ := hv
  have hx := B.exec
  have hb := B.bytes
  have hr := B.returns
  have hts := atoms_spec (ws := (wsM yX13_holds cX13_holds 4 (some .int))) B.pre
  have hg : ∀ w ∈ lw_good, w.before _ s = true := fun w h => hts w (List.mem_cons_of_mem _ h)
  have hown : s.vm.findClass RX13 = some m.cls := findClass_of_methodNamed B.named
  have hlocks := B.notSynchronized
  subst hsz
  have hD := hD0.self (sz := s.heap.size)
  generalize hAe : va_A ([(za, (b13_0 z0 z1 (nI z2) (nI z3) z4 z5 z6 z7 z8 z9 (nI z10) z11 z12 z13 z14 z15 (nI z16) z17 z18 z19))] ++ va_pl L M) s.heap.size = A at hD ⊢
  have hA : ∀ q : Nat, s.heap.size ≤ q → A q := fun q h => by rw [← hAe]; exact Or.inr h
  have hS : va_S A s.heap s.heap [] := va_S.rf
  have hl := lv_entry ([.ref za, .int k1, .int k2]) (n := 4) (Nat.le_of_ble_eq_true rfl)
  rw [lg_entry_eq]
  generalize (lg_sl ([.ref za, .int k1, .int k2]) ++ List.replicate (4 - (lg_sl ([.ref za, .int k1, .int k2])).length) Slot.unset).toArray = ls at hl ⊢
  refine W.nameQ (fun Q hQ => ?_)
  refine W.nameR (fun R hR => ?_)
  have hRf : 2 ≤ R.frames := by rw [hR]; exact Nat.le_of_ble_eq_true rfl
  have hRl : 43 ≤ R.locals := by rw [hR]; exact Nat.le_of_ble_eq_true rfl
  have hRc : 0 ≤ R.cells := by rw [hR]; exact Nat.le_of_ble_eq_true rfl
  have hRs : 0 ≤ R.slots := by rw [hR]; exact Nat.le_of_ble_eq_true rfl
  have hl : lv_has ls 4 [(0, .ref za), (1, .int k1), (2, .int k2)] := hl
  have hW0 := hW
  refine lv_aload_n hx hb dX13_holds_0 rfl (lv_at hl 0 rfl) ?_
  refine lv_iconst (v := 0) hx hb dX13_holds_1 (by decide) ?_
  refine va_put (D := D) (ci := 13) (v := .int 0) (ty := .int) (C := RX13) (T := TX13) (N := 20) hx hb hg inG13 tyX13 tyX13_ok nmX13 hown hK hP hD hS 0 rfl rfl 0 (by decide) (hg _ wd_720) (fun _ h9 => h9) rfl (by decide +kernel) rfl rfl (Nat.le_of_ble_eq_true rfl) dX13_holds_2 (fun H_1 locs hP hD hS => ?_)
  have hP : va_P D vwCl ([(za, (b13_0 0 z1 (nI z2) (nI z3) z4 z5 z6 z7 z8 z9 (nI z10) z11 z12 z13 z14 z15 (nI z16) z17 z18 z19))] ++ va_pl L M) H_1 := hP
  have hD : va_D A ([(za, (b13_0 0 z1 (nI z2) (nI z3) z4 z5 z6 z7 z8 z9 (nI z10) z11 z12 z13 z14 z15 (nI z16) z17 z18 z19))] ++ va_pl L M) := hD
  refine lv_aload_n hx hb dX13_holds_5 rfl (lv_at hl 0 rfl) ?_
  refine lv_iload_n hx hb dX13_holds_6 rfl (lv_at hl 1 rfl) ?_
  refine lv_iload_n hx hb dX13_holds_7 rfl (lv_at hl 2 rfl) ?_
  have hPc : va_P D vwCl ([(za, (b13_0 0 z1 (nI z2) (nI z3) z4 z5 z6 z7 z8 z9 (nI z10) z11 z12 z13 z14 z15 (nI z16) z17 z18 z19))] ++ va_pl L M) H_1 := hP
  have hDc : va_D A ([(za, (b13_0 0 z1 (nI z2) (nI z3) z4 z5 z6 z7 z8 z9 (nI z10) z11 z12 z13 z14 z15 (nI z16) z17 z18 z19))] ++ va_pl L M) := hD
  have hFc : ∀ q, va_A ([(za, (b13_0 0 z1 (nI z2) (nI z3) z4 z5 z6 z7 z8 z9 (nI z10) z11 z12 z13 z14 z15 (nI z16) z17 z18 z19))] ++ va_pl L M) H_1.size q → A q := pg_free hDc hS hA
  refine va_calli (va_runV (As := [.int k1, .int k2]) (rest := []) ⟨hx, hb, hml, hown, hg⟩ (f_isSeat l D cy K L M H_1.size za 0 z1 z2 z3 z4 z5 z6 z7 z8 z9 z10 z11 z12 z13 z14 z15 z16 z17 z18 z19 k1 k2  hW i1 b2 b3 i6 i7 i8 i9 b10 i11 i12 i13 i14 i15 b16 i17 i19) (cwV 2 hg (gV wd_744 wd_745 wd_746 wd_717 wd_747) rfl rfl rfl (by decide +kernel) ⟨(Nat.le_trans (Nat.le_of_ble_eq_true rfl) hRf), (Nat.le_trans (Nat.le_of_ble_eq_true rfl) hRl)⟩) ⟨PG.blind, va_recv hK hP (ci := 13) (q0 := 0) rfl rfl, fun U hU hW => ⟨rfl, PG.at hPc hK hDc hN hU hW⟩⟩ rfl rfl hl.1 rfl (lv_room (Nat.le_of_ble_eq_true rfl)) dX13_holds_8 ⟨(Nat.le_trans (Nat.le_of_ble_eq_true rfl) hRc), (Nat.le_trans (Nat.le_of_ble_eq_true rfl) hRs)⟩) hS (fun q _ h => hFc q h) hFc (fun r_3 M_4 t H_2 locs ht hvm hw hB hz1 hk1 hS => ?_)
  have hp_5 := hw
  obtain ⟨hP1, hD1⟩ := hB
  rw [ht] at hP1
  have hP : va_P D vwCl ([(za, (b13_0 0 z1 (nI z2) (nI z3) z4 z5 z6 z7 z8 z9 (nI z10) z11 z12 z13 z14 z15 (nI z16) z17 z18 z19))] ++ va_pl L M) H_2 := hP1
  have hD : va_D A ([(za, (b13_0 0 z1 (nI z2) (nI z3) z4 z5 z6 z7 z8 z9 (nI z10) z11 z12 z13 z14 z15 (nI z16) z17 z18 z19))] ++ va_pl L M) := hD1.mono hFc
  rcases hp_5 with ⟨rfl, c_6, c_7, c_8, c_9, c_10⟩ | ⟨rfl, c_11⟩
  · have hz := rfl (a := 0)
    refine lv_if_ne (tgt := 20) hx hb dX13_holds_11 (by decide) (fun _ => ?_) (fun c_12 => absurd c_12 (by decide))
    refine lv_aload_n hx hb dX13_holds_20 rfl (lv_at hl 0 rfl) ?_
    refine va_get (D := D) (ci := 13) (v := .ref z1) (C := RX13) (T := TX13) (N := 20) hx hb hg inG13 hown hK hP 0 rfl rfl 1 (by decide) (hg _ wd_739) (fun _ h9 => h9) rfl dX13_holds_21 ?_
    refine lv_iload_n hx hb dX13_holds_24 rfl (lv_at hl 1 rfl) ?_
    obtain ⟨f13, hM13, hf13⟩ := hW.open_23 i1
    have hi_14 : vp_in k1 8 := (inbW (a := z2) (by omega) (inb k1 z2 (by omega) c_7 c_8))
    refine pg_aldq hx hb hK hP i1.1 9 hM13 rfl hi_14 dX13_holds_25 ?_
    obtain ⟨b15, eb_16, hb_17⟩ := hf13 _ (vp_lt hi_14)
    rw [eb_16]
    have hact : ACT z1 z2 b15 M := ⟨(k1 : Int32).toNatClampNeg, vp_lt (inb k1 z2 (by omega) c_7 c_8), by rw [show RFc (M z1) = f13 from by rw [hM13]; rfl]; exact eb_16⟩
    have hAT := GI.at hGI hact
    have hV : VW K L M M b15 (fx M b15) (ax M b15) := VW.rf b15 hGI.2.2.2
    have hb9 : RFc (M z1) (k1 : Int32).toNatClampNeg = some b15 := by rw [show RFc (M z1) = f13 from by rw [hM13]; rfl]; exact eb_16
    have hkn : (k1 : Int32).toNatClampNeg < z2 := vp_lt (inb k1 z2 (by omega) c_7 c_8)
    have hZk := hZS _ b15 hkn hb9
    obtain ⟨fs18, hM18, hn18, hl18⟩ := hW.open_12 hb_17
    obtain ⟨v19, hv19, hc19⟩ : ∃ v : Nat, fs18[9]? = some (.ref v : Value) ∧ isk K L v 33 6 := hl18 9 (by decide)
    refine pg_getN (D := D) (ci := 12) (v := .ref v19) (C := RX12) (T := TX12) (N := 51) hx hb hg inG12 hown hK hP hb_17.1 hM18 rfl 9 (by decide) (hN.use (Cond.fieldLinkNest RX13 92 RX12 "seat" "[I" RX13) 18 rfl rfl) (fun _ h9 => h9) hv19 dX13_holds_26 ?_
    refine lv_iload_n hx hb dX13_holds_29 rfl (lv_at hl 2 rfl) ?_
    obtain ⟨f20, hM20, hf20⟩ := hW.open_33 hc19
    have hi_21 : vp_in k2 6 := (inb k2 6 (by omega) c_9 c_10)
    refine pg_iald hx hb hK hP hc19.1 0 hM20 rfl hi_21 dX13_holds_30 ?_
    have hp_22 := hf20 _ (vp_lt hi_21)
    refine lv_topi (fun f_23 ef_23 => ?_)
    rw [← ef_23] at hp_22
    obtain ⟨g_24, g_25⟩ := hp_22
    refine lv_istore_n (lv' := [(3, .int f_23), (0, .ref za), (1, .int k1), (2, .int k2)]) hx hb dX13_holds_31 rfl hl (by decide) rfl (fun ls hl => ?_)
    refine lv_aload_n hx hb dX13_holds_32 rfl (lv_at hl 1 rfl) ?_
    refine lv_iload_n hx hb dX13_holds_33 rfl (lv_at hl 0 rfl) ?_
    refine lv_if_ne (tgt := 41) hx hb dX13_holds_34 (by decide) (fun c_26 => ?_) (fun c_26 => ?_)
    · have hz := rfl (a := 0)
      refine lv_iload_n hx hb dX13_holds_41 rfl (lv_at hl 0 rfl) ?_
      refine lv_if_ge (tgt := 49) hx hb dX13_holds_42 (by decide) (fun c_27 => ?_) (fun c_27 => ?_)
      · have hz := rfl (a := 0)
        refine lv_aload_n hx hb dX13_holds_49 rfl (lv_at hl 1 rfl) ?_
        refine lv_aload_n hx hb dX13_holds_50 rfl (lv_at hl 1 rfl) ?_
        refine va_get (D := D) (ci := 13) (v := .ref z1) (C := RX13) (T := TX13) (N := 20) hx hb hg inG13 hown hK hP 0 rfl rfl 1 (by decide) (hg _ wd_739) (fun _ h9 => h9) rfl dX13_holds_51 ?_
        refine lv_iload_n hx hb dX13_holds_54 rfl (lv_at hl 2 rfl) ?_
        have hi_28 : vp_in k1 8 := (inbW (a := z2) (by omega) (inb k1 z2 (by omega) c_7 c_8))
        refine pg_aldq hx hb hK hP i1.1 9 hM13 rfl hi_28 dX13_holds_55 ?_
        rw [show f13 (k1 : Int32).toNatClampNeg = some b15 from eb_16]
        refine lv_iload_n hx hb dX13_holds_56 rfl (lv_at hl 3 rfl) ?_
        obtain ⟨j_29, hj_30, rfl⟩ := i32nat 6 (by decide) c_9 c_10
        have hPc : va_P D vwCl ([(za, (b13_0 0 z1 (nI z2) (nI z3) z4 z5 z6 z7 z8 z9 (nI z10) z11 z12 z13 z14 z15 (nI z16) z17 z18 z19))] ++ va_pl L M) H_2 := hP
        have hDc : va_D A ([(za, (b13_0 0 z1 (nI z2) (nI z3) z4 z5 z6 z7 z8 z9 (nI z10) z11 z12 z13 z14 z15 (nI z16) z17 z18 z19))] ++ va_pl L M) := hD
        have hFc : ∀ q, va_A ([(za, (b13_0 0 z1 (nI z2) (nI z3) z4 z5 z6 z7 z8 z9 (nI z10) z11 z12 z13 z14 z15 (nI z16) z17 z18 z19))] ++ va_pl L M) H_2.size q → A q := pg_free hDc hS hA
        refine va_calli (va_runV (As := [.ref b15, .int (nI j_29)]) (rest := [.ref za]) ⟨hx, hb, hml, hown, hg⟩ (f_holder l D cy K L M H_2.size za 0 z1 z2 z3 z4 z5 z6 z7 z8 z9 z10 z11 z12 z13 z14 z15 z16 z17 z18 z19 b15 j_29  hW i1 b2 b3 i6 i7 i8 i9 b10 i11 i12 i13 i14 i15 b16 i17 i19 hb_17 (by omega)) (cwV 2 hg (gV wd_779 wd_780 wd_781 wd_717 wd_782) rfl rfl rfl (by decide +kernel) ⟨(Nat.le_trans (Nat.le_of_ble_eq_true rfl) hRf), (Nat.le_trans (Nat.le_of_ble_eq_true rfl) hRl)⟩) ⟨PG.blind, va_recv hK hP (ci := 13) (q0 := 0) rfl rfl, fun U hU hW => ⟨rfl, PG.at hPc hK hDc hN hU hW⟩⟩ rfl rfl hl.1 rfl (lv_room (Nat.le_of_ble_eq_true rfl)) dX13_holds_57 ⟨(Nat.le_trans (Nat.le_of_ble_eq_true rfl) hRc), (Nat.le_trans (Nat.le_of_ble_eq_true rfl) hRs)⟩) hS (fun q _ h => hFc q h) hFc (fun r_32 M_33 t H_31 locs ht hvm hw hB hz1 hk1 hS => ?_)
        have hp_34 := hw
        obtain ⟨hP1, hD1⟩ := hB
        rw [ht] at hP1
        have hP : va_P D vwCl ([(za, (b13_0 0 z1 (nI z2) (nI z3) z4 z5 z6 z7 z8 z9 (nI z10) z11 z12 z13 z14 z15 (nI z16) z17 z18 z19))] ++ va_pl L M) H_31 := hP1
        have hD : va_D A ([(za, (b13_0 0 z1 (nI z2) (nI z3) z4 z5 z6 z7 z8 z9 (nI z10) z11 z12 z13 z14 z15 (nI z16) z17 z18 z19))] ++ va_pl L M) := hD1.mono hFc
        rcases hp_34 with ⟨j_35, rfl, c_36, c_37, c_38⟩ | ⟨rfl, c_39⟩
        · have hz := rfl (a := 0)
          refine lv_iconst (v := (-1)) hx hb dX13_holds_60 (by decide) ?_
          refine lv_icmp_eq (tgt := 68) hx hb dX13_holds_61 (by decide) (fun c_40 => absurd c_40 (nI_ne_m1 (by omega))) (fun _ => ?_)
          refine lv_iconst (v := 2) hx hb dX13_holds_64 (by decide) ?_
          refine lv_goto (tgt := 69) hx hb dX13_holds_65 (by decide) ?_
          have hPc := hP.sub (ws' := [(za, (b13_0 0 z1 (nI z2) (nI z3) z4 z5 z6 z7 z8 z9 (nI z10) z11 z12 z13 z14 z15 (nI z16) z17 z18 z19))]) [0] rfl
          have hDc := hD.sub (ws' := [(za, (b13_0 0 z1 (nI z2) (nI z3) z4 z5 z6 z7 z8 z9 (nI z10) z11 z12 z13 z14 z15 (nI z16) z17 z18 z19))]) [0] (by decide) rfl
          have hKc := hK.sub (tys' := []) [] rfl
          have hFc := va_free (wc := [(za, (b13_0 0 z1 (nI z2) (nI z3) z4 z5 z6 z7 z8 z9 (nI z10) z11 z12 z13 z14 z15 (nI z16) z17 z18 z19))]) hD hS hA [0] rfl
          refine va_calli (va_runV (As := [.int 2]) (rest := []) ⟨hx, hb, hml, hown, hg⟩ (m_done l D H_31.size za 0 z1 (nI z2) (nI z3) z4 z5 z6 z7 z8 z9 (nI z10) z11 z12 z13 z14 z15 (nI z16) z17 z18 z19 2) (cwV 1 hg (gV wd_730 wd_731 wd_732 wd_717 wd_733) rfl rfl rfl (by decide +kernel) ⟨(Nat.le_trans (Nat.le_of_ble_eq_true rfl) hRf), (Nat.le_trans (Nat.le_of_ble_eq_true rfl) hRl)⟩) ⟨Pr.blind, va_recv hK hP (ci := 13) (q0 := 0) rfl rfl, fun U hU hW => ⟨rfl, Pr.at hPc hKc hDc hN hU hW⟩⟩ rfl rfl hl.1 rfl (lv_room (Nat.le_of_ble_eq_true rfl)) dX13_holds_69 ⟨(Nat.le_trans (Nat.le_of_ble_eq_true rfl) hRc), (Nat.le_trans (Nat.le_of_ble_eq_true rfl) hRs)⟩) hS (fun q _ h => hFc q h) hFc (fun r_42 M_43 t H_41 locs ht hvm hw hB hz1 hk1 hS => ?_)
          have hp_44 := hw
          obtain ⟨hP1, hK1, hD1⟩ := hB
          rw [ht] at hP1
          obtain ⟨hP, hD⟩ := va_joinQ (X := [(za, (b13_0 0 z1 (nI z2) (nI z3) z4 z5 z6 z7 z8 z9 (nI z10) z11 z12 z13 z14 z15 (nI z16) z17 z18 z19))]) (cx := [(za, (b13_0 0 z1 (nI z2) (nI z3) z4 z5 z6 z7 z8 z9 (nI z10) z11 z12 z13 z14 z15 (nI z16) z17 z18 z19))]) (wr := []) (w1 := [(za, (b13_0 0 z1 (nI z2) (nI z3) 0 (-1) z6 z7 z8 z9 (nI z10) z11 z12 z13 z14 z15 (nI z16) z17 z18 z19))]) (pl := va_pl L M) hP hD [0] [] rfl rfl (by decide) (by decide) hk1 hFc hP1 hD1
          have hP : va_P D vwCl ([(za, (b13_0 0 z1 (nI z2) (nI z3) 0 (-1) z6 z7 z8 z9 (nI z10) z11 z12 z13 z14 z15 (nI z16) z17 z18 z19))] ++ va_pl L M) H_41 := hP
          have hD : va_D A ([(za, (b13_0 0 z1 (nI z2) (nI z3) 0 (-1) z6 z7 z8 z9 (nI z10) z11 z12 z13 z14 z15 (nI z16) z17 z18 z19))] ++ va_pl L M) := hD
          have hq := Eq.symm hp_44
          subst hq
          have hI_45 : (0 : Int) ≤ (k1 : Int32).toInt := inltI rfl rfl c_7
          have hI_46 : (k1 : Int32).toInt < ((z2 : Nat) : Int) := inleI (nI_toInt (by omega)) rfl c_8
          have hI_47 : (0 : Int) ≤ ((j_29 : Nat) : Int) := inltI (nI_toInt (by omega)) rfl c_9
          have hI_48 : ((j_29 : Nat) : Int) < (6 : Int) := inleI rfl (nI_toInt (by omega)) c_10
          have hI_49 : (-1000000) ≤ (f_23 : Int32).toInt := ileI rfl rfl g_24
          have hI_50 : (f_23 : Int32).toInt ≤ (24 : Int) := ileI rfl rfl g_25
          have hI_51 : (f_23 : Int32).toInt ≠ (0 : Int) := ineI rfl rfl c_26
          have hI_52 : (0 : Int) ≤ (f_23 : Int32).toInt := ileI rfl rfl c_27
          have hn92 : ((nI j_29) : Int32).toInt = ((j_29 : Nat) : Int) := nI_toInt (by omega)
          have h9s : SY (k1 : Int32).toNatClampNeg 9 ((nI j_29) : Int32).toNatClampNeg = f_23 := by rw [← hZk.2]; exact (by rw [ax_of hM18 (by decide) hv19 hM20, ef_23])
          have h9i := congrArg Int32.toInt h9s
          have hhs : hold (SY (k1 : Int32).toNatClampNeg) ((nI j_29) : Int32).toNatClampNeg := by rw [← hZk.2, nI_cl (by omega)]; exact c_38
          have hyes : okHS z2 k1 (nI j_29) := by unfold okHS; refine ⟨?_, ?_, ?_, ?_⟩ <;> first | omega | assumption
          rw [hQ]
          exact W.iret (v := 2) hx hb hr (fun t ht hW9 => ⟨⟨2, (), rfl, (by unfold anHo; rw [if_pos hyes, if_neg (by omega), if_neg (by omega), if_pos hhs]), ⟨0, by rw [ht]; exact hP, hD⟩⟩, hS.F ht⟩) hS.2.2 dX13_holds_72
        · have hz := rfl (a := 0)
          refine lv_iconst (v := (-1)) hx hb dX13_holds_60 (by decide) ?_
          refine lv_icmp_eq (tgt := 68) hx hb dX13_holds_61 (by decide) (fun _ => ?_) (fun c_53 => absurd c_53 (by decide))
          refine lv_iconst (v := 3) hx hb dX13_holds_68 (by decide) ?_
          have hPc := hP.sub (ws' := [(za, (b13_0 0 z1 (nI z2) (nI z3) z4 z5 z6 z7 z8 z9 (nI z10) z11 z12 z13 z14 z15 (nI z16) z17 z18 z19))]) [0] rfl
          have hDc := hD.sub (ws' := [(za, (b13_0 0 z1 (nI z2) (nI z3) z4 z5 z6 z7 z8 z9 (nI z10) z11 z12 z13 z14 z15 (nI z16) z17 z18 z19))]) [0] (by decide) rfl
          have hKc := hK.sub (tys' := []) [] rfl
          have hFc := va_free (wc := [(za, (b13_0 0 z1 (nI z2) (nI z3) z4 z5 z6 z7 z8 z9 (nI z10) z11 z12 z13 z14 z15 (nI z16) z17 z18 z19))]) hD hS hA [0] rfl
          refine va_calli (va_runV (As := [.int 3]) (rest := []) ⟨hx, hb, hml, hown, hg⟩ (m_done l D H_31.size za 0 z1 (nI z2) (nI z3) z4 z5 z6 z7 z8 z9 (nI z10) z11 z12 z13 z14 z15 (nI z16) z17 z18 z19 3) (cwV 1 hg (gV wd_730 wd_731 wd_732 wd_717 wd_733) rfl rfl rfl (by decide +kernel) ⟨(Nat.le_trans (Nat.le_of_ble_eq_true rfl) hRf), (Nat.le_trans (Nat.le_of_ble_eq_true rfl) hRl)⟩) ⟨Pr.blind, va_recv hK hP (ci := 13) (q0 := 0) rfl rfl, fun U hU hW => ⟨rfl, Pr.at hPc hKc hDc hN hU hW⟩⟩ rfl rfl hl.1 rfl (lv_room (Nat.le_of_ble_eq_true rfl)) dX13_holds_69 ⟨(Nat.le_trans (Nat.le_of_ble_eq_true rfl) hRc), (Nat.le_trans (Nat.le_of_ble_eq_true rfl) hRs)⟩) hS (fun q _ h => hFc q h) hFc (fun r_55 M_56 t H_54 locs ht hvm hw hB hz1 hk1 hS => ?_)
          have hp_57 := hw
          obtain ⟨hP1, hK1, hD1⟩ := hB
          rw [ht] at hP1
          obtain ⟨hP, hD⟩ := va_joinQ (X := [(za, (b13_0 0 z1 (nI z2) (nI z3) z4 z5 z6 z7 z8 z9 (nI z10) z11 z12 z13 z14 z15 (nI z16) z17 z18 z19))]) (cx := [(za, (b13_0 0 z1 (nI z2) (nI z3) z4 z5 z6 z7 z8 z9 (nI z10) z11 z12 z13 z14 z15 (nI z16) z17 z18 z19))]) (wr := []) (w1 := [(za, (b13_0 0 z1 (nI z2) (nI z3) 0 (-1) z6 z7 z8 z9 (nI z10) z11 z12 z13 z14 z15 (nI z16) z17 z18 z19))]) (pl := va_pl L M) hP hD [0] [] rfl rfl (by decide) (by decide) hk1 hFc hP1 hD1
          have hP : va_P D vwCl ([(za, (b13_0 0 z1 (nI z2) (nI z3) 0 (-1) z6 z7 z8 z9 (nI z10) z11 z12 z13 z14 z15 (nI z16) z17 z18 z19))] ++ va_pl L M) H_54 := hP
          have hD : va_D A ([(za, (b13_0 0 z1 (nI z2) (nI z3) 0 (-1) z6 z7 z8 z9 (nI z10) z11 z12 z13 z14 z15 (nI z16) z17 z18 z19))] ++ va_pl L M) := hD
          have hq := Eq.symm hp_57
          subst hq
          have hI_58 : (0 : Int) ≤ (k1 : Int32).toInt := inltI rfl rfl c_7
          have hI_59 : (k1 : Int32).toInt < ((z2 : Nat) : Int) := inleI (nI_toInt (by omega)) rfl c_8
          have hI_60 : (0 : Int) ≤ ((j_29 : Nat) : Int) := inltI (nI_toInt (by omega)) rfl c_9
          have hI_61 : ((j_29 : Nat) : Int) < (6 : Int) := inleI rfl (nI_toInt (by omega)) c_10
          have hI_62 : (-1000000) ≤ (f_23 : Int32).toInt := ileI rfl rfl g_24
          have hI_63 : (f_23 : Int32).toInt ≤ (24 : Int) := ileI rfl rfl g_25
          have hI_64 : (f_23 : Int32).toInt ≠ (0 : Int) := ineI rfl rfl c_26
          have hI_65 : (0 : Int) ≤ (f_23 : Int32).toInt := ileI rfl rfl c_27
          have hn92 : ((nI j_29) : Int32).toInt = ((j_29 : Nat) : Int) := nI_toInt (by omega)
          have h9s : SY (k1 : Int32).toNatClampNeg 9 ((nI j_29) : Int32).toNatClampNeg = f_23 := by rw [← hZk.2]; exact (by rw [ax_of hM18 (by decide) hv19 hM20, ef_23])
          have h9i := congrArg Int32.toInt h9s
          have hhs : ¬ hold (SY (k1 : Int32).toNatClampNeg) ((nI j_29) : Int32).toNatClampNeg := by rw [← hZk.2, nI_cl (by omega)]; exact c_39
          have hyes : okHS z2 k1 (nI j_29) := by unfold okHS; refine ⟨?_, ?_, ?_, ?_⟩ <;> first | omega | assumption
          rw [hQ]
          exact W.iret (v := 3) hx hb hr (fun t ht hW9 => ⟨⟨3, (), rfl, (by unfold anHo; rw [if_pos hyes, if_neg (by omega), if_neg (by omega), if_neg hhs]), ⟨0, by rw [ht]; exact hP, hD⟩⟩, hS.F ht⟩) hS.2.2 dX13_holds_72
      · have hz := rfl (a := 0)
        refine lv_iconst (v := 1) hx hb dX13_holds_45 (by decide) ?_
        refine lv_goto (tgt := 69) hx hb dX13_holds_46 (by decide) ?_
        have hPc := hP.sub (ws' := [(za, (b13_0 0 z1 (nI z2) (nI z3) z4 z5 z6 z7 z8 z9 (nI z10) z11 z12 z13 z14 z15 (nI z16) z17 z18 z19))]) [0] rfl
        have hDc := hD.sub (ws' := [(za, (b13_0 0 z1 (nI z2) (nI z3) z4 z5 z6 z7 z8 z9 (nI z10) z11 z12 z13 z14 z15 (nI z16) z17 z18 z19))]) [0] (by decide) rfl
        have hKc := hK.sub (tys' := []) [] rfl
        have hFc := va_free (wc := [(za, (b13_0 0 z1 (nI z2) (nI z3) z4 z5 z6 z7 z8 z9 (nI z10) z11 z12 z13 z14 z15 (nI z16) z17 z18 z19))]) hD hS hA [0] rfl
        refine va_calli (va_runV (As := [.int 1]) (rest := []) ⟨hx, hb, hml, hown, hg⟩ (m_done l D H_2.size za 0 z1 (nI z2) (nI z3) z4 z5 z6 z7 z8 z9 (nI z10) z11 z12 z13 z14 z15 (nI z16) z17 z18 z19 1) (cwV 1 hg (gV wd_730 wd_731 wd_732 wd_717 wd_733) rfl rfl rfl (by decide +kernel) ⟨(Nat.le_trans (Nat.le_of_ble_eq_true rfl) hRf), (Nat.le_trans (Nat.le_of_ble_eq_true rfl) hRl)⟩) ⟨Pr.blind, va_recv hK hP (ci := 13) (q0 := 0) rfl rfl, fun U hU hW => ⟨rfl, Pr.at hPc hKc hDc hN hU hW⟩⟩ rfl rfl hl.1 rfl (lv_room (Nat.le_of_ble_eq_true rfl)) dX13_holds_69 ⟨(Nat.le_trans (Nat.le_of_ble_eq_true rfl) hRc), (Nat.le_trans (Nat.le_of_ble_eq_true rfl) hRs)⟩) hS (fun q _ h => hFc q h) hFc (fun r_67 M_68 t H_66 locs ht hvm hw hB hz1 hk1 hS => ?_)
        have hp_69 := hw
        obtain ⟨hP1, hK1, hD1⟩ := hB
        rw [ht] at hP1
        obtain ⟨hP, hD⟩ := va_joinQ (X := [(za, (b13_0 0 z1 (nI z2) (nI z3) z4 z5 z6 z7 z8 z9 (nI z10) z11 z12 z13 z14 z15 (nI z16) z17 z18 z19))]) (cx := [(za, (b13_0 0 z1 (nI z2) (nI z3) z4 z5 z6 z7 z8 z9 (nI z10) z11 z12 z13 z14 z15 (nI z16) z17 z18 z19))]) (wr := []) (w1 := [(za, (b13_0 0 z1 (nI z2) (nI z3) 0 (-1) z6 z7 z8 z9 (nI z10) z11 z12 z13 z14 z15 (nI z16) z17 z18 z19))]) (pl := va_pl L M) hP hD [0] [] rfl rfl (by decide) (by decide) hk1 hFc hP1 hD1
        have hP : va_P D vwCl ([(za, (b13_0 0 z1 (nI z2) (nI z3) 0 (-1) z6 z7 z8 z9 (nI z10) z11 z12 z13 z14 z15 (nI z16) z17 z18 z19))] ++ va_pl L M) H_66 := hP
        have hD : va_D A ([(za, (b13_0 0 z1 (nI z2) (nI z3) 0 (-1) z6 z7 z8 z9 (nI z10) z11 z12 z13 z14 z15 (nI z16) z17 z18 z19))] ++ va_pl L M) := hD
        have hq := Eq.symm hp_69
        subst hq
        have hI_70 : (0 : Int) ≤ (k1 : Int32).toInt := inltI rfl rfl c_7
        have hI_71 : (k1 : Int32).toInt < ((z2 : Nat) : Int) := inleI (nI_toInt (by omega)) rfl c_8
        have hI_72 : (0 : Int) ≤ (k2 : Int32).toInt := inltI rfl rfl c_9
        have hI_73 : (k2 : Int32).toInt < (6 : Int) := inleI rfl rfl c_10
        have hI_74 : (-1000000) ≤ (f_23 : Int32).toInt := ileI rfl rfl g_24
        have hI_75 : (f_23 : Int32).toInt ≤ (24 : Int) := ileI rfl rfl g_25
        have hI_76 : (f_23 : Int32).toInt ≠ (0 : Int) := ineI rfl rfl c_26
        have hI_77 : (f_23 : Int32).toInt < (0 : Int) := inleI rfl rfl c_27
        have h9s : SY (k1 : Int32).toNatClampNeg 9 (k2 : Int32).toNatClampNeg = f_23 := by rw [← hZk.2]; exact (by rw [ax_of hM18 (by decide) hv19 hM20, ef_23])
        have h9i := congrArg Int32.toInt h9s
        have hyes : okHS z2 k1 k2 := by unfold okHS; refine ⟨?_, ?_, ?_, ?_⟩ <;> first | omega | assumption
        rw [hQ]
        exact W.iret (v := 1) hx hb hr (fun t ht hW9 => ⟨⟨1, (), rfl, (by unfold anHo; rw [if_pos hyes, if_neg (by omega), if_pos (by omega)]), ⟨0, by rw [ht]; exact hP, hD⟩⟩, hS.F ht⟩) hS.2.2 dX13_holds_72
    · have hz := rfl (a := 0)
      refine lv_iconst (v := 0) hx hb dX13_holds_37 (by decide) ?_
      refine lv_goto (tgt := 69) hx hb dX13_holds_38 (by decide) ?_
      have hPc := hP.sub (ws' := [(za, (b13_0 0 z1 (nI z2) (nI z3) z4 z5 z6 z7 z8 z9 (nI z10) z11 z12 z13 z14 z15 (nI z16) z17 z18 z19))]) [0] rfl
      have hDc := hD.sub (ws' := [(za, (b13_0 0 z1 (nI z2) (nI z3) z4 z5 z6 z7 z8 z9 (nI z10) z11 z12 z13 z14 z15 (nI z16) z17 z18 z19))]) [0] (by decide) rfl
      have hKc := hK.sub (tys' := []) [] rfl
      have hFc := va_free (wc := [(za, (b13_0 0 z1 (nI z2) (nI z3) z4 z5 z6 z7 z8 z9 (nI z10) z11 z12 z13 z14 z15 (nI z16) z17 z18 z19))]) hD hS hA [0] rfl
      refine va_calli (va_runV (As := [.int 0]) (rest := []) ⟨hx, hb, hml, hown, hg⟩ (m_done l D H_2.size za 0 z1 (nI z2) (nI z3) z4 z5 z6 z7 z8 z9 (nI z10) z11 z12 z13 z14 z15 (nI z16) z17 z18 z19 0) (cwV 1 hg (gV wd_730 wd_731 wd_732 wd_717 wd_733) rfl rfl rfl (by decide +kernel) ⟨(Nat.le_trans (Nat.le_of_ble_eq_true rfl) hRf), (Nat.le_trans (Nat.le_of_ble_eq_true rfl) hRl)⟩) ⟨Pr.blind, va_recv hK hP (ci := 13) (q0 := 0) rfl rfl, fun U hU hW => ⟨rfl, Pr.at hPc hKc hDc hN hU hW⟩⟩ rfl rfl hl.1 rfl (lv_room (Nat.le_of_ble_eq_true rfl)) dX13_holds_69 ⟨(Nat.le_trans (Nat.le_of_ble_eq_true rfl) hRc), (Nat.le_trans (Nat.le_of_ble_eq_true rfl) hRs)⟩) hS (fun q _ h => hFc q h) hFc (fun r_79 M_80 t H_78 locs ht hvm hw hB hz1 hk1 hS => ?_)
      have hp_81 := hw
      obtain ⟨hP1, hK1, hD1⟩ := hB
      rw [ht] at hP1
      obtain ⟨hP, hD⟩ := va_joinQ (X := [(za, (b13_0 0 z1 (nI z2) (nI z3) z4 z5 z6 z7 z8 z9 (nI z10) z11 z12 z13 z14 z15 (nI z16) z17 z18 z19))]) (cx := [(za, (b13_0 0 z1 (nI z2) (nI z3) z4 z5 z6 z7 z8 z9 (nI z10) z11 z12 z13 z14 z15 (nI z16) z17 z18 z19))]) (wr := []) (w1 := [(za, (b13_0 0 z1 (nI z2) (nI z3) 0 (-1) z6 z7 z8 z9 (nI z10) z11 z12 z13 z14 z15 (nI z16) z17 z18 z19))]) (pl := va_pl L M) hP hD [0] [] rfl rfl (by decide) (by decide) hk1 hFc hP1 hD1
      have hP : va_P D vwCl ([(za, (b13_0 0 z1 (nI z2) (nI z3) 0 (-1) z6 z7 z8 z9 (nI z10) z11 z12 z13 z14 z15 (nI z16) z17 z18 z19))] ++ va_pl L M) H_78 := hP
      have hD : va_D A ([(za, (b13_0 0 z1 (nI z2) (nI z3) 0 (-1) z6 z7 z8 z9 (nI z10) z11 z12 z13 z14 z15 (nI z16) z17 z18 z19))] ++ va_pl L M) := hD
      have hq := Eq.symm hp_81
      subst hq
      have hI_82 : (0 : Int) ≤ (k1 : Int32).toInt := inltI rfl rfl c_7
      have hI_83 : (k1 : Int32).toInt < ((z2 : Nat) : Int) := inleI (nI_toInt (by omega)) rfl c_8
      have hI_84 : (0 : Int) ≤ (k2 : Int32).toInt := inltI rfl rfl c_9
      have hI_85 : (k2 : Int32).toInt < (6 : Int) := inleI rfl rfl c_10
      have hI_86 : (-1000000) ≤ (f_23 : Int32).toInt := ileI rfl rfl g_24
      have hI_87 : (f_23 : Int32).toInt ≤ (24 : Int) := ileI rfl rfl g_25
      have hI_88 : (f_23 : Int32).toInt = (0 : Int) := ieqI rfl rfl c_26
      have h9s : SY (k1 : Int32).toNatClampNeg 9 (k2 : Int32).toNatClampNeg = f_23 := by rw [← hZk.2]; exact (by rw [ax_of hM18 (by decide) hv19 hM20, ef_23])
      have h9i := congrArg Int32.toInt h9s
      have hyes : okHS z2 k1 k2 := by unfold okHS; refine ⟨?_, ?_, ?_, ?_⟩ <;> first | omega | assumption
      rw [hQ]
      exact W.iret (v := 0) hx hb hr (fun t ht hW9 => ⟨⟨0, (), rfl, (by unfold anHo; rw [if_pos hyes, if_pos (by omega)]), ⟨0, by rw [ht]; exact hP, hD⟩⟩, hS.F ht⟩) hS.2.2 dX13_holds_72
  · have hz := rfl (a := 0)
    refine lv_if_ne (tgt := 20) hx hb dX13_holds_11 (by decide) (fun c_89 => absurd c_89 (by decide)) (fun _ => ?_)
    refine lv_aload_n hx hb dX13_holds_14 rfl (lv_at hl 0 rfl) ?_
    refine lv_iconst (v := 1) hx hb dX13_holds_15 (by decide) ?_
    have hPc := hP.sub (ws' := [(za, (b13_0 0 z1 (nI z2) (nI z3) z4 z5 z6 z7 z8 z9 (nI z10) z11 z12 z13 z14 z15 (nI z16) z17 z18 z19))]) [0] rfl
    have hDc := hD.sub (ws' := [(za, (b13_0 0 z1 (nI z2) (nI z3) z4 z5 z6 z7 z8 z9 (nI z10) z11 z12 z13 z14 z15 (nI z16) z17 z18 z19))]) [0] (by decide) rfl
    have hKc := hK.sub (tys' := []) [] rfl
    have hFc := va_free (wc := [(za, (b13_0 0 z1 (nI z2) (nI z3) z4 z5 z6 z7 z8 z9 (nI z10) z11 z12 z13 z14 z15 (nI z16) z17 z18 z19))]) hD hS hA [0] rfl
    refine va_calli (va_runV (As := [.int 1]) (rest := []) ⟨hx, hb, hml, hown, hg⟩ (m_refused l D H_2.size za 0 z1 (nI z2) (nI z3) z4 z5 z6 z7 z8 z9 (nI z10) z11 z12 z13 z14 z15 (nI z16) z17 z18 z19 1) (cwV 1 hg (gV wd_725 wd_726 wd_727 wd_717 wd_728) rfl rfl rfl (by decide +kernel) ⟨(Nat.le_trans (Nat.le_of_ble_eq_true rfl) hRf), (Nat.le_trans (Nat.le_of_ble_eq_true rfl) hRl)⟩) ⟨Pr.blind, va_recv hK hP (ci := 13) (q0 := 0) rfl rfl, fun U hU hW => ⟨rfl, Pr.at hPc hKc hDc hN hU hW⟩⟩ rfl rfl hl.1 rfl (lv_room (Nat.le_of_ble_eq_true rfl)) dX13_holds_16 ⟨(Nat.le_trans (Nat.le_of_ble_eq_true rfl) hRc), (Nat.le_trans (Nat.le_of_ble_eq_true rfl) hRs)⟩) hS (fun q _ h => hFc q h) hFc (fun r_91 M_92 t H_90 locs ht hvm hw hB hz1 hk1 hS => ?_)
    have hp_93 := hw
    obtain ⟨hP1, hK1, hD1⟩ := hB
    rw [ht] at hP1
    obtain ⟨hP, hD⟩ := va_joinQ (X := [(za, (b13_0 0 z1 (nI z2) (nI z3) z4 z5 z6 z7 z8 z9 (nI z10) z11 z12 z13 z14 z15 (nI z16) z17 z18 z19))]) (cx := [(za, (b13_0 0 z1 (nI z2) (nI z3) z4 z5 z6 z7 z8 z9 (nI z10) z11 z12 z13 z14 z15 (nI z16) z17 z18 z19))]) (wr := []) (w1 := [(za, (b13_0 0 z1 (nI z2) (nI z3) 1 (-1) z6 z7 z8 z9 (nI z10) z11 z12 z13 z14 z15 (nI z16) z17 z18 z19))]) (pl := va_pl L M) hP hD [0] [] rfl rfl (by decide) (by decide) hk1 hFc hP1 hD1
    have hP : va_P D vwCl ([(za, (b13_0 0 z1 (nI z2) (nI z3) 1 (-1) z6 z7 z8 z9 (nI z10) z11 z12 z13 z14 z15 (nI z16) z17 z18 z19))] ++ va_pl L M) H_90 := hP
    have hD : va_D A ([(za, (b13_0 0 z1 (nI z2) (nI z3) 1 (-1) z6 z7 z8 z9 (nI z10) z11 z12 z13 z14 z15 (nI z16) z17 z18 z19))] ++ va_pl L M) := hD
    have hq := Eq.symm hp_93
    subst hq
    have hno : ¬ okHS z2 k1 k2 := fun q9 => by unfold okHS at q9; first | omega | (obtain ⟨_, _, _, _⟩ := q9; first | omega | contradiction)
    rw [hQ]
    exact W.iret (v := (-1)) hx hb hr (fun t ht hW9 => ⟨⟨(-1), (), rfl, (by unfold anHo; rw [if_neg hno]), ⟨1, by rw [ht]; exact hP, hD⟩⟩, hS.F ht⟩) hS.2.2 dX13_holds_19
