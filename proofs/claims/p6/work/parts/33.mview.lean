
/-- the watched int fields of a House of the reference; kinds and lengths of its watched arrays -/
def fi (j : Nat) : Bool := match j with
  | 0 => true
  | 1 => true
  | 10 => true
  | 11 => true
  | 12 => true
  | 13 => true
  | 14 => true
  | 15 => true
  | 16 => true
  | 17 => true
  | 18 => true
  | _ => false
def tg (j : Nat) : Nat := match j with
  | 2 => 37
  | 3 => 35
  | 4 => 74
  | 9 => 33
  | 19 => 30
  | 20 => 31
  | 21 => 75
  | 22 => 41
  | 23 => 42
  | 24 => 76
  | 25 => 34
  | 26 => 16
  | 34 => 43
  | 35 => 77
  | 36 => 78
  | 37 => 38
  | 38 => 79
  | 39 => 80
  | 40 => 81
  | 41 => 44
  | 42 => 82
  | 43 => 36
  | 44 => 45
  | 45 => 46
  | _ => 0
def tn (j : Nat) : Nat := match j with
  | 2 => 1000
  | 3 => 1000
  | 4 => 1000
  | 9 => 6
  | 19 => 24
  | 20 => 24
  | 21 => 24
  | 22 => 24
  | 23 => 24
  | 24 => 24
  | 25 => 24
  | 26 => 24
  | 34 => 16
  | 35 => 16
  | 36 => 384
  | 37 => 12
  | 38 => 120
  | 39 => 120
  | 40 => 120
  | 41 => 20
  | 42 => 20
  | 43 => 60
  | 44 => 120
  | 45 => 120
  | _ => 0
/-- the class of a watched array -/
def tc (j : Nat) : Nat := if j = 26 then 16 else 14
def vI (o : Option Value) : Int := match o with
  | some (.int v) => v.toInt
  | _ => 0
def IFc (e : va_E) : Nat → Int32 := match e with
  | .inl (_, _, .inl f) => f
  | _ => fun _ => 0
def RFc (e : va_E) : Nat → Option Nat := match e with
  | .inl (_, _, .inr (.inr (.inr (.inr f)))) => f
  | _ => fun _ => none
def vA (M : Hp) (o : Option Value) : Nat → Int32 := match o with
  | some (.ref r) => IFc (M r)
  | _ => fun _ => 0
def hF12 (e : va_E) : List Value := match e with
  | .inr (_, fs) => fs
  | _ => []
def LFc (e : va_E) : Nat → Int64 := match e with
  | .inl (_, _, .inr (.inl f)) => f
  | _ => fun _ => 0
def vL (M : Hp) (o : Option Value) (i : Nat) : Int := match o with
  | some (.ref r) => (LFc (M r) i).toInt
  | _ => 0
/-- the number of place i of the long row r -/
def lKey (r i : Nat) : Nat := 16 * i + r + 32
/-- the field of a long row; the kind and length of its array -/
def lfl (r : Nat) : Nat := match r with
  | 3 => 30
  | 10 => 5
  | _ => 0
def tgl (j : Nat) : Nat := match j with
  | 30 => 85
  | 5 => 84
  | _ => 0
def tnl (j : Nat) : Nat := match j with
  | 30 => 24
  | 5 => 6000
  | _ => 0
def lx (M : Hp) (a : Nat) : Nat → Int := fun j => if 32 ≤ j ∧ lfl ((j - 32) % 16) ≠ 0 then vL M (hF12 (M a))[lfl ((j - 32) % 16)]? ((j - 32) / 16) else 0
/-- a House's watched ints and longs, and watched arrays -/
def fx (M : Hp) (a : Nat) : Nat → Int := fun j => if fi j = true then vI (hF12 (M a))[j]? else lx M a j
/-- a watched array's kind -/
def tgx (j : Nat) : Nat := if tgl j = 0 then tg j else tgl j
theorem lfl_mem {r : Nat} (h : lfl r ≠ 0) : r = 3 ∨ r = 10 := by
  unfold lfl at h
  split at h
  · exact Or.inl rfl
  · exact Or.inr (rfl)
  · exact absurd rfl h
theorem tgl_mem {j : Nat} (h : tgl j ≠ 0) : j = 30 ∨ j = 5 := by
  unfold tgl at h
  split at h
  · exact Or.inl rfl
  · exact Or.inr (rfl)
  · exact absurd rfl h
theorem lfl_tgl {r : Nat} (h : lfl r ≠ 0) : tgl (lfl r) ≠ 0 := by
  rcases lfl_mem h with rfl | rfl <;> decide
theorem tgl_x {j : Nat} (h : tgl j ≠ 0) : tgx j ≠ 0 := by
  unfold tgx
  rw [if_neg h]
  exact h
theorem tg_x {j : Nat} (h : tg j ≠ 0) : tgx j ≠ 0 := by
  unfold tgx
  split
  · exact h
  · assumption
theorem tgx_cases {j : Nat} (h : tgx j ≠ 0) : tg j ≠ 0 ∨ tgl j ≠ 0 := by
  unfold tgx at h
  split at h
  · exact Or.inl h
  · exact Or.inr (by assumption)
theorem lKup {α : Type} (f : Nat → α) (r i j : Nat) (v : α) (h : j < 32) : va_up f j v (lKey r i) = f (lKey r i) := va_up_ne _ _ (by unfold lKey; omega)
theorem lKdn {α : Type} (f : Nat → α) (r i j : Nat) (v : α) (h : j < 32) : va_up f (lKey r i) v j = f j := va_up_ne _ _ (by unfold lKey; omega)
theorem lKin {r i k : Nat} (h : lKey r i = lKey r k) : i = k := by
  unfold lKey at h
  omega
theorem fx_int {M M1 : Hp} {b j : Nat} (hj : fi j = true) (h : M1 b = M b) : fx M1 b j = fx M b j := by
  show (if fi j = true then vI (hF12 (M1 b))[j]? else lx M1 b j) = (if fi j = true then vI (hF12 (M b))[j]? else lx M b j)
  rw [if_pos hj, if_pos hj, h]
theorem lKey_fi (r i : Nat) : fi (lKey r i) = false := by
  have h : 32 ≤ lKey r i := by
    unfold lKey
    omega
  unfold fi
  split <;> first | omega | rfl
def ax (M : Hp) (a : Nat) : Nat → Nat → Int32 := fun j => if tg j = 0 then fun _ => 0 else vA M (hF12 (M a))[j]?
theorem fx_of {M : Hp} {a j : Nat} {fs : List Value} {v : Int32} (hM : M a = .inr (12, fs)) (hj : fi j = true) (h : fs[j]? = some (.int v)) : fx M a j = v.toInt := by
  show (if fi j = true then vI (hF12 (M a))[j]? else lx M a j) = v.toInt
  rw [if_pos hj, hM]
  show vI fs[j]? = v.toInt
  rw [h]
  rfl
theorem ax_of {M : Hp} {a j r n : Nat} {cA : ClassId} {fs : List Value} {f : Nat → Int32} (hM : M a = .inr (12, fs)) (hj : tg j ≠ 0) (h : fs[j]? = some (.ref r)) (hr : M r = .inl (cA, n, .inl f)) : ax M a j = f := by
  show (if tg j = 0 then fun _ => 0 else vA M (hF12 (M a))[j]?) = f
  rw [if_neg hj, hM]
  show vA M fs[j]? = f
  rw [h]
  show IFc (M r) = f
  rw [hr]
  rfl
theorem tg_mem {j : Nat} (h : tg j ≠ 0) : j = 2 ∨ j = 3 ∨ j = 4 ∨ j = 9 ∨ j = 19 ∨ j = 20 ∨ j = 21 ∨ j = 22 ∨ j = 23 ∨ j = 24 ∨ j = 25 ∨ j = 26 ∨ j = 34 ∨ j = 35 ∨ j = 36 ∨ j = 37 ∨ j = 38 ∨ j = 39 ∨ j = 40 ∨ j = 41 ∨ j = 42 ∨ j = 43 ∨ j = 44 ∨ j = 45 := by
  unfold tg at h
  split at h
  · exact Or.inl rfl
  · exact Or.inr (Or.inl rfl)
  · exact Or.inr (Or.inr (Or.inl rfl))
  · exact Or.inr (Or.inr (Or.inr (Or.inl rfl)))
  · exact Or.inr (Or.inr (Or.inr (Or.inr (Or.inl rfl))))
  · exact Or.inr (Or.inr (Or.inr (Or.inr (Or.inr (Or.inl rfl)))))
  · exact Or.inr (Or.inr (Or.inr (Or.inr (Or.inr (Or.inr (Or.inl rfl))))))
  · exact Or.inr (Or.inr (Or.inr (Or.inr (Or.inr (Or.inr (Or.inr (Or.inl rfl)))))))
  · exact Or.inr (Or.inr (Or.inr (Or.inr (Or.inr (Or.inr (Or.inr (Or.inr (Or.inl rfl))))))))
  · exact Or.inr (Or.inr (Or.inr (Or.inr (Or.inr (Or.inr (Or.inr (Or.inr (Or.inr (Or.inl rfl)))))))))
  · exact Or.inr (Or.inr (Or.inr (Or.inr (Or.inr (Or.inr (Or.inr (Or.inr (Or.inr (Or.inr (Or.inl rfl))))))))))
  · exact Or.inr (Or.inr (Or.inr (Or.inr (Or.inr (Or.inr (Or.inr (Or.inr (Or.inr (Or.inr (Or.inr (Or.inl rfl)))))))))))
  · exact Or.inr (Or.inr (Or.inr (Or.inr (Or.inr (Or.inr (Or.inr (Or.inr (Or.inr (Or.inr (Or.inr (Or.inr (Or.inl rfl))))))))))))
  · exact Or.inr (Or.inr (Or.inr (Or.inr (Or.inr (Or.inr (Or.inr (Or.inr (Or.inr (Or.inr (Or.inr (Or.inr (Or.inr (Or.inl rfl)))))))))))))
  · exact Or.inr (Or.inr (Or.inr (Or.inr (Or.inr (Or.inr (Or.inr (Or.inr (Or.inr (Or.inr (Or.inr (Or.inr (Or.inr (Or.inr (Or.inl rfl))))))))))))))
  · exact Or.inr (Or.inr (Or.inr (Or.inr (Or.inr (Or.inr (Or.inr (Or.inr (Or.inr (Or.inr (Or.inr (Or.inr (Or.inr (Or.inr (Or.inr (Or.inl rfl)))))))))))))))
  · exact Or.inr (Or.inr (Or.inr (Or.inr (Or.inr (Or.inr (Or.inr (Or.inr (Or.inr (Or.inr (Or.inr (Or.inr (Or.inr (Or.inr (Or.inr (Or.inr (Or.inl rfl))))))))))))))))
  · exact Or.inr (Or.inr (Or.inr (Or.inr (Or.inr (Or.inr (Or.inr (Or.inr (Or.inr (Or.inr (Or.inr (Or.inr (Or.inr (Or.inr (Or.inr (Or.inr (Or.inr (Or.inl rfl)))))))))))))))))
  · exact Or.inr (Or.inr (Or.inr (Or.inr (Or.inr (Or.inr (Or.inr (Or.inr (Or.inr (Or.inr (Or.inr (Or.inr (Or.inr (Or.inr (Or.inr (Or.inr (Or.inr (Or.inr (Or.inl rfl))))))))))))))))))
  · exact Or.inr (Or.inr (Or.inr (Or.inr (Or.inr (Or.inr (Or.inr (Or.inr (Or.inr (Or.inr (Or.inr (Or.inr (Or.inr (Or.inr (Or.inr (Or.inr (Or.inr (Or.inr (Or.inr (Or.inl rfl)))))))))))))))))))
  · exact Or.inr (Or.inr (Or.inr (Or.inr (Or.inr (Or.inr (Or.inr (Or.inr (Or.inr (Or.inr (Or.inr (Or.inr (Or.inr (Or.inr (Or.inr (Or.inr (Or.inr (Or.inr (Or.inr (Or.inr (Or.inl rfl))))))))))))))))))))
  · exact Or.inr (Or.inr (Or.inr (Or.inr (Or.inr (Or.inr (Or.inr (Or.inr (Or.inr (Or.inr (Or.inr (Or.inr (Or.inr (Or.inr (Or.inr (Or.inr (Or.inr (Or.inr (Or.inr (Or.inr (Or.inr (Or.inl rfl)))))))))))))))))))))
  · exact Or.inr (Or.inr (Or.inr (Or.inr (Or.inr (Or.inr (Or.inr (Or.inr (Or.inr (Or.inr (Or.inr (Or.inr (Or.inr (Or.inr (Or.inr (Or.inr (Or.inr (Or.inr (Or.inr (Or.inr (Or.inr (Or.inr (Or.inl rfl))))))))))))))))))))))
  · exact Or.inr (Or.inr (Or.inr (Or.inr (Or.inr (Or.inr (Or.inr (Or.inr (Or.inr (Or.inr (Or.inr (Or.inr (Or.inr (Or.inr (Or.inr (Or.inr (Or.inr (Or.inr (Or.inr (Or.inr (Or.inr (Or.inr (Or.inr (rfl)))))))))))))))))))))))
  · exact absurd rfl h
theorem tg_inj {i j : Nat} (hi : tg i ≠ 0) (h : tg i = tg j) : i = j := by
  have hj : tg j ≠ 0 := by rw [← h]; exact hi
  rcases tg_mem hi with rfl | rfl | rfl | rfl | rfl | rfl | rfl | rfl | rfl | rfl | rfl | rfl | rfl | rfl | rfl | rfl | rfl | rfl | rfl | rfl | rfl | rfl | rfl | rfl <;> rcases tg_mem hj with rfl | rfl | rfl | rfl | rfl | rfl | rfl | rfl | rfl | rfl | rfl | rfl | rfl | rfl | rfl | rfl | rfl | rfl | rfl | rfl | rfl | rfl | rfl | rfl <;> first | rfl | exact absurd h (by decide)
theorem tg_12 {j : Nat} (h : tg j ≠ 0) : tg j ≠ 12 := by
  rcases tg_mem h with rfl | rfl | rfl | rfl | rfl | rfl | rfl | rfl | rfl | rfl | rfl | rfl | rfl | rfl | rfl | rfl | rfl | rfl | rfl | rfl | rfl | rfl | rfl | rfl <;> decide
theorem arF {cy : Nat → ClassId} {K : Kp} {L : List Nat} {M : Hp} {a j : Nat} (hW : WOM cy K L M) (ha : isk K L a 12 0) (hj : tg j ≠ 0) : ∃ (fs : List Value) (r : Nat) (f : Nat → Int32), M a = .inr (12, fs) ∧ fs[j]? = some (.ref r) ∧ isk K L r (tg j) (tn j) ∧ M r = .inl (cy (tc j), tn j, .inl f) := by
  obtain ⟨fs, hM, hlen, hfl⟩ := hW.open_12 ha
  rcases tg_mem hj with rfl | rfl | rfl | rfl | rfl | rfl | rfl | rfl | rfl | rfl | rfl | rfl | rfl | rfl | rfl | rfl | rfl | rfl | rfl | rfl | rfl | rfl | rfl | rfl
  · obtain ⟨r, h1, h2⟩ : ∃ v : Nat, fs[2]? = some (.ref v : Value) ∧ isk K L v 37 1000 := hfl 2 (by decide)
    obtain ⟨f, hf, _⟩ := hW.open_37 h2
    exact ⟨fs, r, f, hM, h1, h2, hf⟩
  · obtain ⟨r, h1, h2⟩ : ∃ v : Nat, fs[3]? = some (.ref v : Value) ∧ isk K L v 35 1000 := hfl 3 (by decide)
    obtain ⟨f, hf, _⟩ := hW.open_35 h2
    exact ⟨fs, r, f, hM, h1, h2, hf⟩
  · obtain ⟨r, h1, h2⟩ : ∃ v : Nat, fs[4]? = some (.ref v : Value) ∧ isk K L v 74 1000 := hfl 4 (by decide)
    obtain ⟨f, hf⟩ := hW.open_74 h2
    exact ⟨fs, r, f, hM, h1, h2, hf⟩
  · obtain ⟨r, h1, h2⟩ : ∃ v : Nat, fs[9]? = some (.ref v : Value) ∧ isk K L v 33 6 := hfl 9 (by decide)
    obtain ⟨f, hf, _⟩ := hW.open_33 h2
    exact ⟨fs, r, f, hM, h1, h2, hf⟩
  · obtain ⟨r, h1, h2⟩ : ∃ v : Nat, fs[19]? = some (.ref v : Value) ∧ isk K L v 30 24 := hfl 19 (by decide)
    obtain ⟨f, hf, _⟩ := hW.open_30 h2
    exact ⟨fs, r, f, hM, h1, h2, hf⟩
  · obtain ⟨r, h1, h2⟩ : ∃ v : Nat, fs[20]? = some (.ref v : Value) ∧ isk K L v 31 24 := hfl 20 (by decide)
    obtain ⟨f, hf, _⟩ := hW.open_31 h2
    exact ⟨fs, r, f, hM, h1, h2, hf⟩
  · obtain ⟨r, h1, h2⟩ : ∃ v : Nat, fs[21]? = some (.ref v : Value) ∧ isk K L v 75 24 := hfl 21 (by decide)
    obtain ⟨f, hf⟩ := hW.open_75 h2
    exact ⟨fs, r, f, hM, h1, h2, hf⟩
  · obtain ⟨r, h1, h2⟩ : ∃ v : Nat, fs[22]? = some (.ref v : Value) ∧ isk K L v 41 24 := hfl 22 (by decide)
    obtain ⟨f, hf⟩ := hW.open_41 h2
    exact ⟨fs, r, f, hM, h1, h2, hf⟩
  · obtain ⟨r, h1, h2⟩ : ∃ v : Nat, fs[23]? = some (.ref v : Value) ∧ isk K L v 42 24 := hfl 23 (by decide)
    obtain ⟨f, hf⟩ := hW.open_42 h2
    exact ⟨fs, r, f, hM, h1, h2, hf⟩
  · obtain ⟨r, h1, h2⟩ : ∃ v : Nat, fs[24]? = some (.ref v : Value) ∧ isk K L v 76 24 := hfl 24 (by decide)
    obtain ⟨f, hf⟩ := hW.open_76 h2
    exact ⟨fs, r, f, hM, h1, h2, hf⟩
  · obtain ⟨r, h1, h2⟩ : ∃ v : Nat, fs[25]? = some (.ref v : Value) ∧ isk K L v 34 24 := hfl 25 (by decide)
    obtain ⟨f, hf, _⟩ := hW.open_34 h2
    exact ⟨fs, r, f, hM, h1, h2, hf⟩
  · obtain ⟨r, h1, h2⟩ : ∃ v : Nat, fs[26]? = some (.ref v : Value) ∧ isk K L v 16 24 := hfl 26 (by decide)
    obtain ⟨f, hf, _⟩ := hW.open_16 h2
    exact ⟨fs, r, f, hM, h1, h2, hf⟩
  · obtain ⟨r, h1, h2⟩ : ∃ v : Nat, fs[34]? = some (.ref v : Value) ∧ isk K L v 43 16 := hfl 34 (by decide)
    obtain ⟨f, hf⟩ := hW.open_43 h2
    exact ⟨fs, r, f, hM, h1, h2, hf⟩
  · obtain ⟨r, h1, h2⟩ : ∃ v : Nat, fs[35]? = some (.ref v : Value) ∧ isk K L v 77 16 := hfl 35 (by decide)
    obtain ⟨f, hf⟩ := hW.open_77 h2
    exact ⟨fs, r, f, hM, h1, h2, hf⟩
  · obtain ⟨r, h1, h2⟩ : ∃ v : Nat, fs[36]? = some (.ref v : Value) ∧ isk K L v 78 384 := hfl 36 (by decide)
    obtain ⟨f, hf⟩ := hW.open_78 h2
    exact ⟨fs, r, f, hM, h1, h2, hf⟩
  · obtain ⟨r, h1, h2⟩ : ∃ v : Nat, fs[37]? = some (.ref v : Value) ∧ isk K L v 38 12 := hfl 37 (by decide)
    obtain ⟨f, hf, _⟩ := hW.open_38 h2
    exact ⟨fs, r, f, hM, h1, h2, hf⟩
  · obtain ⟨r, h1, h2⟩ : ∃ v : Nat, fs[38]? = some (.ref v : Value) ∧ isk K L v 79 120 := hfl 38 (by decide)
    obtain ⟨f, hf, _⟩ := hW.open_79 h2
    exact ⟨fs, r, f, hM, h1, h2, hf⟩
  · obtain ⟨r, h1, h2⟩ : ∃ v : Nat, fs[39]? = some (.ref v : Value) ∧ isk K L v 80 120 := hfl 39 (by decide)
    obtain ⟨f, hf⟩ := hW.open_80 h2
    exact ⟨fs, r, f, hM, h1, h2, hf⟩
  · obtain ⟨r, h1, h2⟩ : ∃ v : Nat, fs[40]? = some (.ref v : Value) ∧ isk K L v 81 120 := hfl 40 (by decide)
    obtain ⟨f, hf⟩ := hW.open_81 h2
    exact ⟨fs, r, f, hM, h1, h2, hf⟩
  · obtain ⟨r, h1, h2⟩ : ∃ v : Nat, fs[41]? = some (.ref v : Value) ∧ isk K L v 44 20 := hfl 41 (by decide)
    obtain ⟨f, hf, _⟩ := hW.open_44 h2
    exact ⟨fs, r, f, hM, h1, h2, hf⟩
  · obtain ⟨r, h1, h2⟩ : ∃ v : Nat, fs[42]? = some (.ref v : Value) ∧ isk K L v 82 20 := hfl 42 (by decide)
    obtain ⟨f, hf⟩ := hW.open_82 h2
    exact ⟨fs, r, f, hM, h1, h2, hf⟩
  · obtain ⟨r, h1, h2⟩ : ∃ v : Nat, fs[43]? = some (.ref v : Value) ∧ isk K L v 36 60 := hfl 43 (by decide)
    obtain ⟨f, hf, _⟩ := hW.open_36 h2
    exact ⟨fs, r, f, hM, h1, h2, hf⟩
  · obtain ⟨r, h1, h2⟩ : ∃ v : Nat, fs[44]? = some (.ref v : Value) ∧ isk K L v 45 120 := hfl 44 (by decide)
    obtain ⟨f, hf, _⟩ := hW.open_45 h2
    exact ⟨fs, r, f, hM, h1, h2, hf⟩
  · obtain ⟨r, h1, h2⟩ : ∃ v : Nat, fs[45]? = some (.ref v : Value) ∧ isk K L v 46 120 := hfl 45 (by decide)
    obtain ⟨f, hf, _⟩ := hW.open_46 h2
    exact ⟨fs, r, f, hM, h1, h2, hf⟩
theorem narB {v : Int32} (h : v = 0 ∨ v = 1) : vp_nar .boolean v = v := by
  rcases h with rfl | rfl <;> decide
theorem lrF {cy : Nat → ClassId} {K : Kp} {L : List Nat} {M : Hp} {a j : Nat} (hW : WOM cy K L M) (ha : isk K L a 12 0) (hj : tgl j ≠ 0) : ∃ (fs : List Value) (r : Nat) (f : Nat → Int64), M a = .inr (12, fs) ∧ fs[j]? = some (.ref r) ∧ isk K L r (tgl j) (tnl j) ∧ M r = .inl (cy 15, tnl j, .inr (.inl f)) := by
  obtain ⟨fs, hM, hlen, hfl⟩ := hW.open_12 ha
  rcases tgl_mem hj with rfl | rfl
  · obtain ⟨r, h1, h2⟩ : ∃ v : Nat, fs[30]? = some (.ref v : Value) ∧ isk K L v 85 24 := hfl 30 (by decide)
    obtain ⟨f, hf⟩ := hW.open_85 h2
    exact ⟨fs, r, f, hM, h1, h2, hf⟩
  · obtain ⟨r, h1, h2⟩ : ∃ v : Nat, fs[5]? = some (.ref v : Value) ∧ isk K L v 84 6000 := hfl 5 (by decide)
    obtain ⟨f, hf⟩ := hW.open_84 h2
    exact ⟨fs, r, f, hM, h1, h2, hf⟩
theorem lx_of {M : Hp} {a r q n i : Nat} {cA : ClassId} {fs : List Value} {f : Nat → Int64} (hM : M a = .inr (12, fs)) (hr : r < 16) (hj : lfl r ≠ 0) (h : fs[lfl r]? = some (.ref q)) (hq : M q = .inl (cA, n, .inr (.inl f))) : fx M a (lKey r i) = (f i).toInt := by
  have e1 : (lKey r i - 32) % 16 = r := by
    unfold lKey
    omega
  have e2 : (lKey r i - 32) / 16 = i := by
    unfold lKey
    omega
  show (if fi (lKey r i) = true then _ else (if 32 ≤ lKey r i ∧ lfl ((lKey r i - 32) % 16) ≠ 0 then vL M (hF12 (M a))[lfl ((lKey r i - 32) % 16)]? ((lKey r i - 32) / 16) else 0)) = _
  rw [if_neg (by rw [lKey_fi]; decide), e1, e2, if_pos ⟨by unfold lKey; omega, hj⟩, hM]
  show vL M fs[lfl r]? i = _
  rw [h]
  show (LFc (M q) i).toInt = _
  rw [hq]
  rfl
theorem lx_eq {cy : Nat → ClassId} {K : Kp} {L : List Nat} {M M1 : Hp} {b : Nat} (hW : WOM cy K L M) (hb : isk K L b 12 0) (h : ∀ j, tgl j ≠ 0 → (hF12 (M1 b))[j]? = (hF12 (M b))[j]?) (hr : ∀ j r, tgl j ≠ 0 → (hF12 (M b))[j]? = some (.ref r) → isk K L r (tgl j) (tnl j) → LFc (M1 r) = LFc (M r)) : lx M1 b = lx M b := by
  funext j
  show (if 32 ≤ j ∧ lfl ((j - 32) % 16) ≠ 0 then vL M1 (hF12 (M1 b))[lfl ((j - 32) % 16)]? ((j - 32) / 16) else 0) = (if 32 ≤ j ∧ lfl ((j - 32) % 16) ≠ 0 then vL M (hF12 (M b))[lfl ((j - 32) % 16)]? ((j - 32) / 16) else 0)
  by_cases q : 32 ≤ j ∧ lfl ((j - 32) % 16) ≠ 0
  · obtain ⟨fs, r, f, h1, h2, h3, h4⟩ := lrF hW hb (lfl_tgl q.2)
    have h5 : (hF12 (M b))[lfl ((j - 32) % 16)]? = some (.ref r) := by rw [h1]; exact h2
    rw [if_pos q, if_pos q, h _ (lfl_tgl q.2), h5]
    show (LFc (M1 r) _).toInt = (LFc (M r) _).toInt
    rw [hr _ r (lfl_tgl q.2) h5 h3]
  · rw [if_neg q, if_neg q]
theorem lfl_inj {i j : Nat} (hi : lfl i ≠ 0) (h : lfl i = lfl j) : i = j := by
  have hj : lfl j ≠ 0 := by rw [← h]; exact hi
  rcases lfl_mem hi with rfl | rfl <;> rcases lfl_mem hj with rfl | rfl <;> first | rfl | exact absurd h (by decide)
theorem vp_updL_self (f : Nat → Int64) (i : Nat) (v : Int64) : vp_updL f i v i = v := by simp [vp_updL]
theorem vp_updL_ne (f : Nat → Int64) {i k : Nat} (v : Int64) (h : k ≠ i) : vp_updL f i v k = f k := by simp [vp_updL, h]
theorem tgl_no {j : Nat} (h : tgl j ≠ 0) : tgl j ≠ 12 ∧ ∀ i, tg i ≠ 0 → tg i ≠ tgl j := by
  rcases tgl_mem h with rfl | rfl <;> refine ⟨by decide, fun i q => ?_⟩ <;> rcases tg_mem q with rfl | rfl | rfl | rfl | rfl | rfl | rfl | rfl | rfl | rfl | rfl | rfl | rfl | rfl | rfl | rfl | rfl | rfl | rfl | rfl | rfl | rfl | rfl | rfl <;> decide
theorem tgl_inj {i j : Nat} (hi : tgl i ≠ 0) (h : tgl i = tgl j) : i = j := by
  have hj : tgl j ≠ 0 := by rw [← h]; exact hi
  rcases tgl_mem hi with rfl | rfl <;> rcases tgl_mem hj with rfl | rfl <;> first | rfl | exact absurd h (by decide)
/-- no two Houses have a watched array in common -/
def OWN (K : Kp) (L : List Nat) (M : Hp) : Prop := ∀ a b, isk K L a 12 0 → isk K L b 12 0 → ∀ j r, tgx j ≠ 0 → (hF12 (M a))[j]? = some (.ref r) → (hF12 (M b))[j]? = some (.ref r) → a = b
/-- of the Houses only a is seen otherwise than in M0: there X and Y are seen -/
def VW (K : Kp) (L : List Nat) (M0 M : Hp) (a : Nat) (X : Nat → Int) (Y : Nat → Nat → Int32) : Prop := (∀ b, isk K L b 12 0 → b ≠ a → fx M b = fx M0 b ∧ ax M b = ax M0 b) ∧ fx M a = X ∧ ax M a = Y ∧ OWN K L M
theorem VW.rf {K : Kp} {L : List Nat} {M : Hp} (a : Nat) (h : OWN K L M) : VW K L M M a (fx M a) (ax M a) := ⟨fun _ _ _ => ⟨rfl, rfl⟩, rfl, rfl, h⟩
theorem VW.tr {K : Kp} {L : List Nat} {M0 M M1 : Hp} {a : Nat} {X X' : Nat → Int} {Y Y' : Nat → Nat → Int32} (h : VW K L M0 M a X Y) (g : VW K L M M1 a X' Y') : VW K L M0 M1 a X' Y' := ⟨fun b hb hn => ⟨((g.1 b hb hn).1).trans (h.1 b hb hn).1, ((g.1 b hb hn).2).trans (h.1 b hb hn).2⟩, g.2.1, g.2.2.1, g.2.2.2⟩
theorem fx_eq {M M1 : Hp} {b : Nat} (h : M1 b = M b) (hl : lx M1 b = lx M b) : fx M1 b = fx M b := by
  funext j
  show (if fi j = true then vI (hF12 (M1 b))[j]? else lx M1 b j) = (if fi j = true then vI (hF12 (M b))[j]? else lx M b j)
  rw [h, hl]
theorem ax_eq {cy : Nat → ClassId} {K : Kp} {L : List Nat} {M M1 : Hp} {b : Nat} (hW : WOM cy K L M) (hb : isk K L b 12 0) (h : ∀ j, tg j ≠ 0 → (hF12 (M1 b))[j]? = (hF12 (M b))[j]?) (hr : ∀ j r, tg j ≠ 0 → (hF12 (M b))[j]? = some (.ref r) → isk K L r (tg j) (tn j) → M1 r = M r) : ax M1 b = ax M b := by
  funext j
  show (if tg j = 0 then fun _ => 0 else vA M1 (hF12 (M1 b))[j]?) = (if tg j = 0 then fun _ => 0 else vA M (hF12 (M b))[j]?)
  by_cases q : tg j = 0
  · rw [if_pos q, if_pos q]
  · obtain ⟨fs, r, f, h1, h2, h3, h4⟩ := arF hW hb q
    have h5 : (hF12 (M b))[j]? = some (.ref r) := by rw [h1]; exact h2
    rw [if_neg q, if_neg q, h j q, h5]
    show IFc (M1 r) = IFc (M r)
    rw [hr j r q h5 h3]
theorem isk.un {K : Kp} {L : List Nat} {a t n t' n' : Nat} (h : isk K L a t n) (g : isk K L a t' n') : t = t' := congrArg Prod.fst (h.2.symm.trans g.2)
/-- a store into a watched field -/
theorem VW.put {cy : Nat → ClassId} {K : Kp} {L : List Nat} {M0 M : Hp} {a j : Nat} {X : Nat → Int} {Y : Nat → Nat → Int32} {fs : List Value} {v : Int32} {x : Int} (h : VW K L M0 M a X Y) (hW : WOM cy K L M) (ha : isk K L a 12 0) (hM : M a = .inr (12, fs)) (hn : fs.length = 51) (hj : fi j = true) (hj2 : j < 51) (ht : tgx j = 0) (hx : v.toInt = x) : VW K L M0 (va_up M a (.inr (12, fs.set j (.int v)))) a (va_up X j x) Y := by
  subst hx
  have hoth : ∀ b, b ≠ a → va_up M a (.inr (12, fs.set j (.int v))) b = M b := fun b q => va_up_ne _ _ q
  have hself : va_up M a (.inr (12, fs.set j (.int v))) a = .inr (12, fs.set j (.int v)) := va_up_self _ _ _
  have hrf : ∀ i r, tg i ≠ 0 → isk K L r (tg i) (tn i) → va_up M a (.inr (12, fs.set j (.int v))) r = M r := fun i r q hr => hoth r (fun z => tg_12 q (hr.un (z ▸ ha)))
  have hfa : ∀ i, tgx i ≠ 0 → (fs.set j (.int v))[i]? = fs[i]? := fun i q => List.getElem?_set_ne (show j ≠ i from fun z => q (by rw [← z]; exact ht))
  have hs : ∀ b i, tgx i ≠ 0 → (hF12 (va_up M a (.inr (12, fs.set j (.int v))) b))[i]? = (hF12 (M b))[i]? := fun b i q => by
    by_cases z : b = a
    · subst z
      rw [hself, hM]
      exact hfa i q
    · rw [hoth b z]
  have hl : ∀ b, isk K L b 12 0 → lx (va_up M a (.inr (12, fs.set j (.int v)))) b = lx M b := fun b hb => lx_eq hW hb (fun i q => hs b i (tgl_x q)) (fun i r q _ hr => by rw [hoth r (fun z => (tgl_no q).1 (hr.un (z ▸ ha)))])
  refine ⟨fun b hb q => ⟨(fx_eq (hoth b q) (hl b hb)).trans (h.1 b hb q).1, (ax_eq hW hb (fun i _ => by rw [hoth b q]) (fun i r qi _ hr => hrf i r qi hr)).trans (h.1 b hb q).2⟩, ?_, ?_, ?_⟩
  · funext i
    show (if fi i = true then vI (hF12 (va_up M a (.inr (12, fs.set j (.int v))) a))[i]? else lx (va_up M a (.inr (12, fs.set j (.int v)))) a i) = va_up X j v.toInt i
    rw [hself, hl a ha]
    show (if fi i = true then vI (fs.set j (.int v))[i]? else lx M a i) = va_up X j v.toInt i
    by_cases q : i = j
    · subst q
      rw [if_pos hj, List.getElem?_set_self (by rw [hn]; exact hj2), va_up_self]
      rfl
    · rw [List.getElem?_set_ne (fun z => q z.symm), va_up_ne X _ q, ← h.2.1]
      show _ = (if fi i = true then vI (hF12 (M a))[i]? else lx M a i)
      rw [hM]
      rfl
  · rw [← h.2.2.1]
    exact ax_eq hW ha (fun i q => by rw [hself, hM]; exact hfa i (tg_x q)) (fun i r qi _ hr => hrf i r qi hr)
  · intro b c hb hc i r q e1 e2
    rw [hs b i q] at e1
    rw [hs c i q] at e2
    exact h.2.2.2 b c hb hc i r q e1 e2
/-- a store into a field that isn't watched -/
theorem VW.put0 {cy : Nat → ClassId} {K : Kp} {L : List Nat} {M0 M : Hp} {a c j : Nat} {X : Nat → Int} {Y : Nat → Nat → Int32} {fs : List Value} {w : Value} (h : VW K L M0 M a X Y) (hW : WOM cy K L M) (ha : isk K L c 12 0) (hM : M c = .inr (12, fs)) (hj : fi j = false) (ht : tgx j = 0) : VW K L M0 (va_up M c (.inr (12, fs.set j w))) a X Y := by
  have hoth : ∀ b, b ≠ c → va_up M c (.inr (12, fs.set j w)) b = M b := fun b q => va_up_ne _ _ q
  have hself : va_up M c (.inr (12, fs.set j w)) c = .inr (12, fs.set j w) := va_up_self _ _ _
  have hrf : ∀ i r, tg i ≠ 0 → isk K L r (tg i) (tn i) → va_up M c (.inr (12, fs.set j w)) r = M r := fun i r q hr => hoth r (fun z => tg_12 q (hr.un (z ▸ ha)))
  have hfs : ∀ b i, i ≠ j → (hF12 (va_up M c (.inr (12, fs.set j w)) b))[i]? = (hF12 (M b))[i]? := fun b i q => by
    by_cases z : b = c
    · subst z
      rw [hself, hM]
      exact List.getElem?_set_ne (fun y => q y.symm)
    · rw [hoth b z]
  have hLI : ∀ r, LFc (va_up M c (.inr (12, fs.set j w)) r) = LFc (M r) ∧ IFc (va_up M c (.inr (12, fs.set j w)) r) = IFc (M r) := fun r => by
    by_cases x : r = c
    · subst x
      rw [hself, hM]
      exact ⟨rfl, rfl⟩
    · rw [hoth r x]
      exact ⟨rfl, rfl⟩
  have hne : ∀ i, tgx i ≠ 0 → i ≠ j := fun i q z => q (z ▸ ht)
  have hl : ∀ b, lx (va_up M c (.inr (12, fs.set j w))) b = lx M b := fun b => by
    funext i
    show (if 32 ≤ i ∧ lfl ((i - 32) % 16) ≠ 0 then vL (va_up M c (.inr (12, fs.set j w))) (hF12 (va_up M c (.inr (12, fs.set j w)) b))[lfl ((i - 32) % 16)]? ((i - 32) / 16) else 0) = (if 32 ≤ i ∧ lfl ((i - 32) % 16) ≠ 0 then vL M (hF12 (M b))[lfl ((i - 32) % 16)]? ((i - 32) / 16) else 0)
    by_cases q : 32 ≤ i ∧ lfl ((i - 32) % 16) ≠ 0
    · rw [if_pos q, if_pos q, hfs b _ (hne _ (tgl_x (lfl_tgl q.2)))]
      cases (hF12 (M b))[lfl ((i - 32) % 16)]? with
      | none => rfl
      | some v =>
        cases v with
        | ref r =>
          show (LFc (va_up M c (.inr (12, fs.set j w)) r) _).toInt = (LFc (M r) _).toInt
          rw [(hLI r).1]
        | _ => rfl
    · rw [if_neg q, if_neg q]
  have hf : ∀ b, fx (va_up M c (.inr (12, fs.set j w))) b = fx M b := fun b => by
    funext i
    show (if fi i = true then vI (hF12 (va_up M c (.inr (12, fs.set j w)) b))[i]? else lx (va_up M c (.inr (12, fs.set j w))) b i) = (if fi i = true then vI (hF12 (M b))[i]? else lx M b i)
    rw [hl b]
    by_cases q : i = j
    · subst q
      rw [hj]
      rfl
    · rw [hfs b i q]
  have hg : ∀ b, ax (va_up M c (.inr (12, fs.set j w))) b = ax M b := fun b => by
    funext i
    show (if tg i = 0 then fun _ => 0 else vA (va_up M c (.inr (12, fs.set j w))) (hF12 (va_up M c (.inr (12, fs.set j w)) b))[i]?) = (if tg i = 0 then fun _ => 0 else vA M (hF12 (M b))[i]?)
    by_cases y : tg i = 0
    · rw [if_pos y, if_pos y]
    · rw [if_neg y, if_neg y, hfs b i (hne i (tg_x y))]
      cases (hF12 (M b))[i]? with
      | none => rfl
      | some v =>
        cases v with
        | ref r => exact (hLI r).2
        | _ => rfl
  refine ⟨fun b hb q => ⟨(hf b).trans (h.1 b hb q).1, (hg b).trans (h.1 b hb q).2⟩, (hf a).trans h.2.1, (hg a).trans h.2.2.1, fun b d hb hd i r q e1 e2 => ?_⟩
  rw [hfs b i (hne i q)] at e1
  rw [hfs d i (hne i q)] at e2
  exact h.2.2.2 b d hb hd i r q e1 e2
/-- a store into something that isn't watched -/
theorem VW.oth {cy : Nat → ClassId} {K : Kp} {L : List Nat} {M0 M : Hp} {a r t n : Nat} {X : Nat → Int} {Y : Nat → Nat → Int32} {e : va_E} (h : VW K L M0 M a X Y) (hW : WOM cy K L M) (ha : isk K L a 12 0) (hr : isk K L r t n) (ht : t ∉ [12, 37, 35, 74, 33, 30, 31, 75, 41, 42, 76, 34, 16, 43, 77, 78, 38, 79, 80, 81, 44, 82, 36, 45, 46, 85, 84]) : VW K L M0 (va_up M r e) a X Y := by
  have hb : ∀ b, isk K L b 12 0 → va_up M r e b = M b := fun b hb => va_up_ne _ _ (fun z => ht (by
    have e9 := hb.un (show isk K L b t n by rw [z]; exact hr)
    rw [← e9]
    decide))
  have hq : ∀ i q, tg i ≠ 0 → isk K L q (tg i) (tn i) → va_up M r e q = M q := fun i q y hq => va_up_ne _ _ (fun z => ht (by
    have e9 := hq.un (show isk K L q t n by rw [z]; exact hr)
    rw [← e9]
    rcases tg_mem y with rfl | rfl | rfl | rfl | rfl | rfl | rfl | rfl | rfl | rfl | rfl | rfl | rfl | rfl | rfl | rfl | rfl | rfl | rfl | rfl | rfl | rfl | rfl | rfl <;> decide))
  have hg : ∀ b, isk K L b 12 0 → ax (va_up M r e) b = ax M b := fun b y => ax_eq hW y (fun i _ => by rw [hb b y]) (fun i q z _ w => hq i q z w)
  have hl : ∀ b, isk K L b 12 0 → lx (va_up M r e) b = lx M b := fun b y => lx_eq hW y (fun i _ => by rw [hb b y]) (fun i q z _ w => congrArg LFc (va_up_ne _ _ (fun x => ht (by
    have e9 := w.un (show isk K L q t n by rw [x]; exact hr)
    rw [← e9]
    rcases tgl_mem z with rfl | rfl <;> decide))))
  refine ⟨fun b y q => ⟨(fx_eq (hb b y) (hl b y)).trans (h.1 b y q).1, (hg b y).trans (h.1 b y q).2⟩, (fx_eq (hb a ha) (hl a ha)).trans h.2.1, (hg a ha).trans h.2.2.1, fun b c y z i q w e1 e2 => ?_⟩
  rw [hb b y] at e1
  rw [hb c z] at e2
  exact h.2.2.2 b c y z i q w e1 e2
/-- a store into a watched array -/
theorem VW.ast {cy : Nat → ClassId} {K : Kp} {L : List Nat} {M0 M : Hp} {a r j n i : Nat} {cA : ClassId} {f : Nat → Int32} {v : Int32} {X : Nat → Int} {Y : Nat → Nat → Int32} {fs : List Value} (h : VW K L M0 M a X Y) (hW : WOM cy K L M) (ha : isk K L a 12 0) (hM : M a = .inr (12, fs)) (hj : tg j ≠ 0) (hfr : fs[j]? = some (.ref r)) (hr : isk K L r (tg j) (tn j)) (hMr : M r = .inl (cA, n, .inl f)) : VW K L M0 (va_up M r (.inl (cA, n, .inl (upd f i v)))) a X (va_up Y j (upd (Y j) i v)) := by
  have hb : ∀ b, isk K L b 12 0 → va_up M r (.inl (cA, n, .inl (upd f i v))) b = M b := fun b hb => va_up_ne _ _ (fun z => tg_12 hj (hr.un (z ▸ hb)))
  have hra : (hF12 (M a))[j]? = some (.ref r) := by rw [hM]; exact hfr
  have hf : Y j = f := by
    rw [← h.2.2.1]
    exact ax_of hM hj hfr hMr
  have hl : ∀ b, isk K L b 12 0 → lx (va_up M r (.inl (cA, n, .inl (upd f i v)))) b = lx M b := fun b y => lx_eq hW y (fun i _ => by rw [hb b y]) (fun i q z _ w => congrArg LFc (va_up_ne _ _ (fun x => (tgl_no z).2 j hj (hr.un (x ▸ w)))))
  refine ⟨fun b y q => ⟨(fx_eq (hb b y) (hl b y)).trans (h.1 b y q).1, (ax_eq hW y (fun i _ => by rw [hb b y]) (fun i' q' z e w => va_up_ne _ _ (fun x => q ?_))).trans (h.1 b y q).2⟩, (fx_eq (hb a ha) (hl a ha)).trans h.2.1, ?_, fun b c y z i' q w e1 e2 => ?_⟩
  · subst x
    have : i' = j := tg_inj z (w.un hr)
    subst this
    exact h.2.2.2 b a y ha i' q' (tg_x z) e hra
  · funext i'
    by_cases q : i' = j
    · subst q
      rw [va_up_self, hf]
      exact ax_of (fs := fs) ((hb a ha).trans hM) hj hfr (va_up_self _ _ _)
    · rw [va_up_ne Y _ q, ← h.2.2.1]
      show (if tg i' = 0 then fun _ => 0 else vA (va_up M r _) (hF12 (va_up M r _ a))[i']?) = (if tg i' = 0 then fun _ => 0 else vA M (hF12 (M a))[i']?)
      by_cases z : tg i' = 0
      · rw [if_pos z, if_pos z]
      · obtain ⟨fs2, r2, f2, h1, h2, h3, h4⟩ := arF hW ha z
        have h5 : (hF12 (M a))[i']? = some (.ref r2) := by rw [h1]; exact h2
        rw [if_neg z, if_neg z, hb a ha, h5]
        show IFc (va_up M r _ r2) = IFc (M r2)
        rw [va_up_ne _ _ (fun x => q (tg_inj z (h3.un (x ▸ hr))))]
  · rw [hb b y] at e1
    rw [hb c z] at e2
    exact h.2.2.2 b c y z i' q w e1 e2
/-- a store into a watched array of longs -/
theorem VW.lst {cy : Nat → ClassId} {K : Kp} {L : List Nat} {M0 M : Hp} {a r j q n i : Nat} {cA : ClassId} {f : Nat → Int64} {v : Int64} {X : Nat → Int} {Y : Nat → Nat → Int32} {fs : List Value} (h : VW K L M0 M a X Y) (hW : WOM cy K L M) (ha : isk K L a 12 0) (hM : M a = .inr (12, fs)) (hr16 : r < 16) (hj : lfl r = j) (hj0 : tgl j ≠ 0) (hfr : fs[j]? = some (.ref q)) (hr : isk K L q (tgl j) (tnl j)) (hMr : M q = .inl (cA, n, .inr (.inl f))) : VW K L M0 (va_up M q (.inl (cA, n, .inr (.inl (vp_updL f i v))))) a (va_up X (lKey r i) v.toInt) Y := by
  have hjr : lfl r ≠ 0 := fun z => by
    rw [← hj, z] at hj0
    exact hj0 rfl
  have hb : ∀ b, isk K L b 12 0 → va_up M q (.inl (cA, n, .inr (.inl (vp_updL f i v)))) b = M b := fun b hb => va_up_ne _ _ (fun z => (tgl_no hj0).1 (hr.un (z ▸ hb)))
  have hra : (hF12 (M a))[j]? = some (.ref q) := by rw [hM]; exact hfr
  have hg : ∀ b, isk K L b 12 0 → ax (va_up M q (.inl (cA, n, .inr (.inl (vp_updL f i v))))) b = ax M b := fun b y => ax_eq hW y (fun i _ => by rw [hb b y]) (fun i' q' z _ w => va_up_ne _ _ (fun x => (tgl_no hj0).2 i' z (w.un (x ▸ hr))))
  have hl : ∀ b, isk K L b 12 0 → b ≠ a → lx (va_up M q (.inl (cA, n, .inr (.inl (vp_updL f i v))))) b = lx M b := fun b y w => lx_eq hW y (fun i _ => by rw [hb b y]) (fun i' q' z e w2 => congrArg LFc (va_up_ne _ _ (fun x => w (by
    subst x
    have e9 : i' = j := tgl_inj z (w2.un hr)
    subst e9
    exact h.2.2.2 b a y ha i' q' (tgl_x z) e hra))))
  refine ⟨fun b y w => ⟨(fx_eq (hb b y) (hl b y w)).trans (h.1 b y w).1, (hg b y).trans (h.1 b y w).2⟩, ?_, (hg a ha).trans h.2.2.1, fun b c y z i' q' w e1 e2 => ?_⟩
  · funext k
    have hM1 : va_up M q (.inl (cA, n, .inr (.inl (vp_updL f i v)))) a = .inr (12, fs) := (hb a ha).trans hM
    by_cases z : k = lKey r i
    · rw [z, va_up_self]
      refine (lx_of (q := q) (f := vp_updL f i v) hM1 hr16 hjr (by rw [hj]; exact hfr) (va_up_self _ _ _)).trans ?_
      rw [vp_updL_self]
    · rw [va_up_ne X _ z, ← h.2.1]
      show (if fi k = true then vI (hF12 (va_up M q _ a))[k]? else lx (va_up M q _) a k) = (if fi k = true then vI (hF12 (M a))[k]? else lx M a k)
      rw [hb a ha]
      by_cases w : fi k = true
      · rw [if_pos w, if_pos w]
      · rw [if_neg w, if_neg w]
        show (if 32 ≤ k ∧ lfl ((k - 32) % 16) ≠ 0 then vL (va_up M q _) (hF12 (va_up M q _ a))[lfl ((k - 32) % 16)]? ((k - 32) / 16) else 0) = (if 32 ≤ k ∧ lfl ((k - 32) % 16) ≠ 0 then vL M (hF12 (M a))[lfl ((k - 32) % 16)]? ((k - 32) / 16) else 0)
        by_cases y : 32 ≤ k ∧ lfl ((k - 32) % 16) ≠ 0
        · obtain ⟨fs2, r2, f2, h1, h2, h3, h4⟩ := lrF hW ha (lfl_tgl y.2)
          have h5 : (hF12 (M a))[lfl ((k - 32) % 16)]? = some (.ref r2) := by rw [h1]; exact h2
          rw [if_pos y, if_pos y, hb a ha, h5]
          show (LFc (va_up M q _ r2) _).toInt = (LFc (M r2) _).toInt
          by_cases x : r2 = q
          · subst x
            have e8 : lfl ((k - 32) % 16) = j := tgl_inj (lfl_tgl y.2) (h3.un hr)
            have e9 : (k - 32) % 16 = r := lfl_inj y.2 (e8.trans hj.symm)
            have e7 : (k - 32) / 16 ≠ i := fun e => z (by
              unfold lKey
              omega)
            rw [va_up_self, hMr]
            show (vp_updL f i v ((k - 32) / 16)).toInt = (f ((k - 32) / 16)).toInt
            rw [vp_updL_ne _ _ e7]
          · rw [va_up_ne _ _ x]
        · rw [if_neg y, if_neg y]
  · rw [hb b y] at e1
    rw [hb c z] at e2
    exact h.2.2.2 b c y z i' q' w e1 e2
theorem seen {cy : Nat → ClassId} {K : Kp} {L ts js : List Nat} {M M1 : Hp} {b : Nat} (hW : WOM cy K L M) (hW1 : WOM cy K L M1) (hF : fr K L ts M M1) (hG : fG K L js M M1) (ht : ∀ t ∈ ts, t ∉ [37, 35, 74, 33, 30, 31, 75, 41, 42, 76, 34, 16, 43, 77, 78, 38, 79, 80, 81, 44, 82, 36, 45, 46, 85, 84]) (hjs : ∀ j ∈ js, fi j = false ∧ tgx j = 0) (hb : isk K L b 12 0) : fx M1 b = fx M b ∧ ax M1 b = ax M b ∧ ∀ j, tgx j ≠ 0 → (hF12 (M1 b))[j]? = (hF12 (M b))[j]? := by
  obtain ⟨fs, h1, _, _⟩ := hW.open_12 hb
  obtain ⟨fs', h2, _, _⟩ := hW1.open_12 hb
  have hj := hG b hb fs fs' h1 h2
  have hq : ∀ j, j ∉ js → (hF12 (M1 b))[j]? = (hF12 (M b))[j]? := fun j z => by
    rw [h1, h2]
    exact hj j z
  have ha : ∀ j, tgx j ≠ 0 → (hF12 (M1 b))[j]? = (hF12 (M b))[j]? := fun j z => hq j (fun y => z (hjs j y).2)
  have hl : lx M1 b = lx M b := lx_eq hW hb (fun j z => ha j (tgl_x z)) (fun j r z _ w => congrArg LFc (hF.at w (fun y => ht _ y (by rcases tgl_mem z with rfl | rfl <;> decide))))
  refine ⟨?_, ax_eq hW hb (fun j z => ha j (tg_x z)) (fun j r z _ w => hF.at w (fun y => ht _ y (by rcases tg_mem z with rfl | rfl | rfl | rfl | rfl | rfl | rfl | rfl | rfl | rfl | rfl | rfl | rfl | rfl | rfl | rfl | rfl | rfl | rfl | rfl | rfl | rfl | rfl | rfl <;> decide))), ha⟩
  funext j
  show (if fi j = true then vI (hF12 (M1 b))[j]? else lx M1 b j) = (if fi j = true then vI (hF12 (M b))[j]? else lx M b j)
  rw [hl]
  by_cases z : fi j = true
  · rw [if_pos z, if_pos z, hq j (fun y => by rw [(hjs j y).1] at z; cases z)]
  · rw [if_neg z, if_neg z]
/-- a call that changes nothing that is watched -/
theorem VW.cal {cy : Nat → ClassId} {K : Kp} {L ts js : List Nat} {M0 M M1 : Hp} {a : Nat} {X : Nat → Int} {Y : Nat → Nat → Int32} (h : VW K L M0 M a X Y) (hW : WOM cy K L M) (hW1 : WOM cy K L M1) (hF : fr K L ts M M1) (hG : fG K L js M M1) (ht : ∀ t ∈ ts, t ∉ [37, 35, 74, 33, 30, 31, 75, 41, 42, 76, 34, 16, 43, 77, 78, 38, 79, 80, 81, 44, 82, 36, 45, 46, 85, 84]) (hjs : ∀ j ∈ js, fi j = false ∧ tgx j = 0) (ha : isk K L a 12 0) : VW K L M0 M1 a X Y := by
  have hs := fun b (hb : isk K L b 12 0) => seen hW hW1 hF hG ht hjs hb
  refine ⟨fun b hb q => ⟨((hs b hb).1).trans (h.1 b hb q).1, ((hs b hb).2.1).trans (h.1 b hb q).2⟩, ((hs a ha).1).trans h.2.1, ((hs a ha).2.1).trans h.2.2.1, fun b c hb hc i r q e1 e2 => ?_⟩
  rw [(hs b hb).2.2 i q] at e1
  rw [(hs c hc).2.2 i q] at e2
  exact h.2.2.2 b c hb hc i r q e1 e2
/-- what holds of every House that is there: leaves, undos, tenures, rules and mends, years -/
def HA (p q : Nat → Int32) : Prop := ∀ d, d < 1000 → p d = -1 ∨ (q d).toInt ≤ (p d).toInt
def cn (f : Nat → Int32) (n : Nat) (v : Int32) : Nat := (List.range n).countP (fun i => decide (f i = v))
def HB (u mv : Int) (q l : Nat → Int32) : Prop := (∀ d, d < 1000 → (cn l u.toNat (nI d) : Int) ≤ (q d).toInt) ∧ (cn l u.toNat (-1) : Int) ≤ mv
def HC (t : Int) (e i : Nat → Int32) : Prop := ∀ k : Nat, k < 24 → (k : Int) < t → e k = -1 ∨ 1 ≤ (i k).toInt
def HD (first rules mends : Int) (rd md : Nat → Int32) : Prop := (1 ≤ rules → (rd 0).toInt ≤ first) ∧ ∀ m : Nat, m < 20 → (m : Int) < mends → first ≤ (md m).toInt
def pv (first : Int) (e : Nat → Int32) : Nat → Int
  | 0 => first - 1
  | k + 1 => (e k).toInt
def HE (first to years closed : Int) (e : Nat → Int32) : Prop := closed ≤ years ∧ to = pv first e closed.toNat ∧ ∀ k : Nat, k < 12 → (k : Int) < years → pv first e k + 1 ≤ (e k).toInt ∧ (e k).toInt ≤ pv first e k + 100
def HI (x : Nat → Int) (y : Nat → Nat → Int32) : Prop := HA (y 2) (y 3) ∧ HB (x 16) (x 14) (y 3) (y 43) ∧ HC (x 10) (y 22) (y 23) ∧ HD (x 0) (x 11) (x 15) (y 34) (y 41) ∧ HE (x 0) (x 1) (x 12) (x 13) (y 37)
theorem HI.lk {x : Nat → Int} {y : Nat → Nat → Int32} (h : HI x y) (r i : Nat) (v : Int) : HI (va_up x (lKey r i) v) y := by
  have e : ∀ j, j < 32 → va_up x (lKey r i) v j = x j := fun j hj => lKdn x r i j v hj
  unfold HI at *
  rw [e 16 (by decide), e 14 (by decide), e 10 (by decide), e 0 (by decide), e 11 (by decide), e 15 (by decide), e 1 (by decide), e 12 (by decide), e 13 (by decide)]
  exact h
theorem HI.lk2 {x : Nat → Int} {y : Nat → Nat → Int32} {j : Nat} {n : Int} (h : HI (va_up x j n) y) (hj : j < 32) (r i : Nat) (v : Int) : HI (va_up (va_up x (lKey r i) v) j n) y := by
  have e : va_up (va_up x (lKey r i) v) j n = va_up (va_up x j n) (lKey r i) v := by
    funext z
    by_cases q : z = j
    · rw [q, va_up_self, lKdn _ r i j v hj, va_up_self]
    · rw [va_up_ne _ _ q]
      by_cases p : z = lKey r i
      · rw [p, va_up_self, va_up_self]
      · rw [va_up_ne _ _ p, va_up_ne _ _ p, va_up_ne _ _ q]
  rw [e]
  exact h.lk r i v
def FRS (x : Nat → Int) (y : Nat → Nat → Int32) : Prop := (x 10 = 0 ∧ x 11 = 0 ∧ x 12 = 0 ∧ x 13 = 0 ∧ x 14 = 0 ∧ x 15 = 0 ∧ x 16 = 0 ∧ x 17 = 0 ∧ x 18 = 0) ∧ (∀ d, d < 1000 → y 3 d = 0) ∧ (∀ s, s < 6 → y 9 s = 0) ∧ ∀ i, i < 24 → x (lKey 3 i) = 0
def GI (K : Kp) (L : List Nat) (z1 z2 : Nat) (M : Hp) : Prop := (∀ i j a, i < 8 → j < 8 → RFc (M z1) i = some a → RFc (M z1) j = some a → i = j) ∧ (∀ k a, k < z2 → RFc (M z1) k = some a → HI (fx M a) (ax M a)) ∧ (∀ k a, z2 ≤ k → k < 8 → RFc (M z1) k = some a → FRS (fx M a) (ax M a)) ∧ OWN K L M
def ACT (z1 z2 a : Nat) (M : Hp) : Prop := ∃ k, k < z2 ∧ RFc (M z1) k = some a
theorem hs23 {cy : Nat → ClassId} {K : Kp} {L : List Nat} {M : Hp} {z1 k a : Nat} (hW : WOM cy K L M) (hz : isk K L z1 23 8) (hk : k < 8) (h : RFc (M z1) k = some a) : isk K L a 12 0 := by
  obtain ⟨f, h1, h2⟩ := hW.open_23 hz
  rw [h1] at h
  obtain ⟨b, h3, h4⟩ := h2 k hk
  have : b = a := Option.some.inj (h3.symm.trans h)
  rw [← this]
  exact h4
theorem GI.at {K : Kp} {L : List Nat} {z1 z2 a : Nat} {M : Hp} (h : GI K L z1 z2 M) (ha : ACT z1 z2 a M) : HI (fx M a) (ax M a) := by
  obtain ⟨k, h1, h2⟩ := ha
  exact h.2.1 k a h1 h2
theorem GI.fin {cy : Nat → ClassId} {K : Kp} {L : List Nat} {M M1 : Hp} {z1 z2 a : Nat} {X : Nat → Int} {Y : Nat → Nat → Int32} (hW : WOM cy K L M) (hz : isk K L z1 23 8) (hz2 : z2 ≤ 8) (h : GI K L z1 z2 M) (ha : ACT z1 z2 a M) (hV : VW K L M M1 a X Y) (hq : M1 z1 = M z1) (hH : HI X Y) : GI K L z1 z2 M1 := by
  obtain ⟨k0, hk0, hk1⟩ := ha
  refine ⟨by rw [hq]; exact h.1, fun k b hk hb => ?_, fun k b hk hk8 hb => ?_, hV.2.2.2⟩
  · rw [hq] at hb
    by_cases q : b = a
    · subst q
      rw [hV.2.1, hV.2.2.1]
      exact hH
    · have hs := hV.1 b (hs23 hW hz (by omega) hb) q
      rw [hs.1, hs.2]
      exact h.2.1 k b hk hb
  · rw [hq] at hb
    have q : b ≠ a := fun z => by
      subst z
      have := h.1 k k0 b hk8 (by omega) hb hk1
      omega
    rw [(hV.1 b (hs23 hW hz hk8 hb) q).1, (hV.1 b (hs23 hW hz hk8 hb) q).2]
    exact h.2.2.1 k b hk hk8 hb
theorem GI.mv {cy : Nat → ClassId} {K : Kp} {L ts js : List Nat} {M M1 : Hp} {z1 z2 : Nat} (hW : WOM cy K L M) (hW1 : WOM cy K L M1) (hz : isk K L z1 23 8) (hz2 : z2 ≤ 8) (h : GI K L z1 z2 M) (hF : fr K L ts M M1) (hG : fG K L js M M1) (h23 : 23 ∉ ts) (ht : ∀ t ∈ ts, t ∉ [37, 35, 74, 33, 30, 31, 75, 41, 42, 76, 34, 16, 43, 77, 78, 38, 79, 80, 81, 44, 82, 36, 45, 46, 85, 84]) (hjs : ∀ j ∈ js, fi j = false ∧ tgx j = 0) : GI K L z1 z2 M1 := by
  have hq : M1 z1 = M z1 := hF.at hz h23
  have hs := fun b (hb : isk K L b 12 0) => seen hW hW1 hF hG ht hjs hb
  refine ⟨by rw [hq]; exact h.1, fun k b hk hb => ?_, fun k b hk hk8 hb => ?_, fun b c hb hc i r q e1 e2 => ?_⟩
  · rw [hq] at hb
    have := hs b (hs23 hW hz (by omega) hb)
    rw [this.1, this.2.1]
    exact h.2.1 k b hk hb
  · rw [hq] at hb
    rw [(hs b (hs23 hW hz hk8 hb)).1, (hs b (hs23 hW hz hk8 hb)).2.1]
    exact h.2.2.1 k b hk hk8 hb
  · rw [(hs b hb).2.2 i q] at e1
    rw [(hs c hc).2.2 i q] at e2
    exact h.2.2.2 b c hb hc i r q e1 e2
