
/-- what field j of a House of the reference holds -/
def fld12 (K : Kp) (L : List Nat) (j : Nat) (fs : List Value) : Prop := match j with
  | 0 => ∃ v : Nat, fs[0]? = some (.int (nI v)) ∧ v ≤ 999
  | 1 => ∃ v : Int32, fs[1]? = some (.int v) ∧ (v = (-1) ∨ ∃ c : Nat, c < 1000 ∧ v = nI c)
  | 2 => ∃ v : Nat, fs[2]? = some (.ref v) ∧ isk K L v 37 1000
  | 3 => ∃ v : Nat, fs[3]? = some (.ref v) ∧ isk K L v 35 1000
  | 4 => ∃ v : Nat, fs[4]? = some (.ref v) ∧ isk K L v 74 1000
  | 5 => ∃ v : Nat, fs[5]? = some (.ref v) ∧ isk K L v 84 6000
  | 6 => ∃ v : Nat, fs[6]? = some (.ref v) ∧ isk K L v 86 1000
  | 7 => ∃ v : Int64, fs[7]? = some (.long v)
  | 8 => ∃ v : Int64, fs[8]? = some (.long v)
  | 9 => ∃ v : Nat, fs[9]? = some (.ref v) ∧ isk K L v 33 6
  | 10 => ∃ v : Nat, fs[10]? = some (.int (nI v)) ∧ v ≤ 24
  | 11 => ∃ v : Nat, fs[11]? = some (.int (nI v)) ∧ v ≤ 16
  | 12 => ∃ v : Nat, fs[12]? = some (.int (nI v)) ∧ v ≤ 12
  | 13 => ∃ v : Nat, fs[13]? = some (.int (nI v)) ∧ v ≤ 12
  | 14 => ∃ v : Nat, fs[14]? = some (.int (nI v)) ∧ v ≤ 120
  | 15 => ∃ v : Nat, fs[15]? = some (.int (nI v)) ∧ v ≤ 20
  | 16 => ∃ v : Nat, fs[16]? = some (.int (nI v)) ∧ v ≤ 60
  | 17 => ∃ v : Nat, fs[17]? = some (.int (nI v)) ∧ v ≤ 120
  | 18 => ∃ v : Int32, fs[18]? = some (.int v) ∧ (v = 0 ∨ v = 1)
  | 19 => ∃ v : Nat, fs[19]? = some (.ref v) ∧ isk K L v 30 24
  | 20 => ∃ v : Nat, fs[20]? = some (.ref v) ∧ isk K L v 31 24
  | 21 => ∃ v : Nat, fs[21]? = some (.ref v) ∧ isk K L v 75 24
  | 22 => ∃ v : Nat, fs[22]? = some (.ref v) ∧ isk K L v 41 24
  | 23 => ∃ v : Nat, fs[23]? = some (.ref v) ∧ isk K L v 42 24
  | 24 => ∃ v : Nat, fs[24]? = some (.ref v) ∧ isk K L v 76 24
  | 25 => ∃ v : Nat, fs[25]? = some (.ref v) ∧ isk K L v 34 24
  | 26 => ∃ v : Nat, fs[26]? = some (.ref v) ∧ isk K L v 16 24
  | 27 => ∃ v : Nat, fs[27]? = some (.ref v) ∧ isk K L v 87 24
  | 28 => ∃ v : Nat, fs[28]? = some (.ref v) ∧ isk K L v 88 24
  | 29 => ∃ v : Nat, fs[29]? = some (.ref v) ∧ isk K L v 89 24
  | 30 => ∃ v : Nat, fs[30]? = some (.ref v) ∧ isk K L v 85 24
  | 31 => ∃ v : Nat, fs[31]? = some (.ref v) ∧ isk K L v 90 24
  | 32 => ∃ v : Nat, fs[32]? = some (.ref v) ∧ isk K L v 91 24
  | 33 => ∃ v : Nat, fs[33]? = some (.ref v) ∧ isk K L v 92 24
  | 34 => ∃ v : Nat, fs[34]? = some (.ref v) ∧ isk K L v 43 16
  | 35 => ∃ v : Nat, fs[35]? = some (.ref v) ∧ isk K L v 77 16
  | 36 => ∃ v : Nat, fs[36]? = some (.ref v) ∧ isk K L v 78 384
  | 37 => ∃ v : Nat, fs[37]? = some (.ref v) ∧ isk K L v 38 12
  | 38 => ∃ v : Nat, fs[38]? = some (.ref v) ∧ isk K L v 79 120
  | 39 => ∃ v : Nat, fs[39]? = some (.ref v) ∧ isk K L v 80 120
  | 40 => ∃ v : Nat, fs[40]? = some (.ref v) ∧ isk K L v 81 120
  | 41 => ∃ v : Nat, fs[41]? = some (.ref v) ∧ isk K L v 44 20
  | 42 => ∃ v : Nat, fs[42]? = some (.ref v) ∧ isk K L v 82 20
  | 43 => ∃ v : Nat, fs[43]? = some (.ref v) ∧ isk K L v 36 60
  | 44 => ∃ v : Nat, fs[44]? = some (.ref v) ∧ isk K L v 45 120
  | 45 => ∃ v : Nat, fs[45]? = some (.ref v) ∧ isk K L v 46 120
  | 46 => ∃ v : Nat, fs[46]? = some (.ref v) ∧ isk K L v 83 120
  | 47 => ∃ v : Nat, fs[47]? = some (.ref v) ∧ isk K L v 93 120
  | 48 => ∃ v : Nat, fs[48]? = some (.ref v) ∧ isk K L v 94 120
  | 49 => ∃ v : Nat, fs[49]? = some (.ref v) ∧ isk K L v 95 120
  | 50 => ∃ v : Nat, fs[50]? = some (.ref v) ∧ isk K L v 96 2880
  | _ => True
theorem fld12_congr {K : Kp} {L : List Nat} {fs gs : List Value} : ∀ j, fs[j]? = gs[j]? → fld12 K L j fs → fld12 K L j gs := fun j e h => match j, e, h with
  | 0, e, ⟨v, h⟩ => ⟨v, by rw [← e]; exact h⟩
  | 1, e, ⟨v, h⟩ => ⟨v, by rw [← e]; exact h⟩
  | 2, e, ⟨v, h⟩ => ⟨v, by rw [← e]; exact h⟩
  | 3, e, ⟨v, h⟩ => ⟨v, by rw [← e]; exact h⟩
  | 4, e, ⟨v, h⟩ => ⟨v, by rw [← e]; exact h⟩
  | 5, e, ⟨v, h⟩ => ⟨v, by rw [← e]; exact h⟩
  | 6, e, ⟨v, h⟩ => ⟨v, by rw [← e]; exact h⟩
  | 7, e, ⟨v, h⟩ => ⟨v, by rw [← e]; exact h⟩
  | 8, e, ⟨v, h⟩ => ⟨v, by rw [← e]; exact h⟩
  | 9, e, ⟨v, h⟩ => ⟨v, by rw [← e]; exact h⟩
  | 10, e, ⟨v, h⟩ => ⟨v, by rw [← e]; exact h⟩
  | 11, e, ⟨v, h⟩ => ⟨v, by rw [← e]; exact h⟩
  | 12, e, ⟨v, h⟩ => ⟨v, by rw [← e]; exact h⟩
  | 13, e, ⟨v, h⟩ => ⟨v, by rw [← e]; exact h⟩
  | 14, e, ⟨v, h⟩ => ⟨v, by rw [← e]; exact h⟩
  | 15, e, ⟨v, h⟩ => ⟨v, by rw [← e]; exact h⟩
  | 16, e, ⟨v, h⟩ => ⟨v, by rw [← e]; exact h⟩
  | 17, e, ⟨v, h⟩ => ⟨v, by rw [← e]; exact h⟩
  | 18, e, ⟨v, h⟩ => ⟨v, by rw [← e]; exact h⟩
  | 19, e, ⟨v, h⟩ => ⟨v, by rw [← e]; exact h⟩
  | 20, e, ⟨v, h⟩ => ⟨v, by rw [← e]; exact h⟩
  | 21, e, ⟨v, h⟩ => ⟨v, by rw [← e]; exact h⟩
  | 22, e, ⟨v, h⟩ => ⟨v, by rw [← e]; exact h⟩
  | 23, e, ⟨v, h⟩ => ⟨v, by rw [← e]; exact h⟩
  | 24, e, ⟨v, h⟩ => ⟨v, by rw [← e]; exact h⟩
  | 25, e, ⟨v, h⟩ => ⟨v, by rw [← e]; exact h⟩
  | 26, e, ⟨v, h⟩ => ⟨v, by rw [← e]; exact h⟩
  | 27, e, ⟨v, h⟩ => ⟨v, by rw [← e]; exact h⟩
  | 28, e, ⟨v, h⟩ => ⟨v, by rw [← e]; exact h⟩
  | 29, e, ⟨v, h⟩ => ⟨v, by rw [← e]; exact h⟩
  | 30, e, ⟨v, h⟩ => ⟨v, by rw [← e]; exact h⟩
  | 31, e, ⟨v, h⟩ => ⟨v, by rw [← e]; exact h⟩
  | 32, e, ⟨v, h⟩ => ⟨v, by rw [← e]; exact h⟩
  | 33, e, ⟨v, h⟩ => ⟨v, by rw [← e]; exact h⟩
  | 34, e, ⟨v, h⟩ => ⟨v, by rw [← e]; exact h⟩
  | 35, e, ⟨v, h⟩ => ⟨v, by rw [← e]; exact h⟩
  | 36, e, ⟨v, h⟩ => ⟨v, by rw [← e]; exact h⟩
  | 37, e, ⟨v, h⟩ => ⟨v, by rw [← e]; exact h⟩
  | 38, e, ⟨v, h⟩ => ⟨v, by rw [← e]; exact h⟩
  | 39, e, ⟨v, h⟩ => ⟨v, by rw [← e]; exact h⟩
  | 40, e, ⟨v, h⟩ => ⟨v, by rw [← e]; exact h⟩
  | 41, e, ⟨v, h⟩ => ⟨v, by rw [← e]; exact h⟩
  | 42, e, ⟨v, h⟩ => ⟨v, by rw [← e]; exact h⟩
  | 43, e, ⟨v, h⟩ => ⟨v, by rw [← e]; exact h⟩
  | 44, e, ⟨v, h⟩ => ⟨v, by rw [← e]; exact h⟩
  | 45, e, ⟨v, h⟩ => ⟨v, by rw [← e]; exact h⟩
  | 46, e, ⟨v, h⟩ => ⟨v, by rw [← e]; exact h⟩
  | 47, e, ⟨v, h⟩ => ⟨v, by rw [← e]; exact h⟩
  | 48, e, ⟨v, h⟩ => ⟨v, by rw [← e]; exact h⟩
  | 49, e, ⟨v, h⟩ => ⟨v, by rw [← e]; exact h⟩
  | 50, e, ⟨v, h⟩ => ⟨v, by rw [← e]; exact h⟩
  | _ + 51, _, _ => trivial
theorem fld12_set {K : Kp} {L : List Nat} {fs : List Value} {k : Nat} {w : Value} (h : ∀ j, j < 51 → fld12 K L j fs) (hk : fld12 K L k (fs.set k w)) : ∀ j, j < 51 → fld12 K L j (fs.set k w) := fun j hj => by
  by_cases q : k = j
  · subst q
    exact hk
  · exact fld12_congr j (List.getElem?_set_ne q).symm (h j hj)
abbrev gm_12 (K : Kp) (L : List Nat) (e : va_E) : Prop := ∃ fs : List Value, e = .inr (12, fs) ∧ fs.length = 51 ∧ ∀ j, j < 51 → fld12 K L j fs
abbrev gm_14 (cy : Nat → ClassId) (K : Kp) (L : List Nat) (n : Nat) (e : va_E) : Prop := ∃ f : Nat → Int32, e = .inl (cy 14, n, .inl f)
abbrev gm_15 (cy : Nat → ClassId) (K : Kp) (L : List Nat) (n : Nat) (e : va_E) : Prop := ∃ f : Nat → Int64, e = .inl (cy 15, n, .inr (.inl f))
abbrev gm_16 (cy : Nat → ClassId) (K : Kp) (L : List Nat) (n : Nat) (e : va_E) : Prop := ∃ f : Nat → Int32, e = .inl (cy 16, n, .inl f) ∧ ∀ j, j < n → (f j = 0 ∨ f j = 1)
abbrev gm_23 (cy : Nat → ClassId) (K : Kp) (L : List Nat) (n : Nat) (e : va_E) : Prop := ∃ f : Nat → Option Nat, e = .inl (cy 23, n, .inr (.inr (.inr (.inr f)))) ∧ ∀ j, j < n → ∃ a, f j = some a ∧ isk K L a 12 0
abbrev gm_30 (cy : Nat → ClassId) (K : Kp) (L : List Nat) (n : Nat) (e : va_E) : Prop := ∃ f : Nat → Int32, e = .inl (cy 14, n, .inl f) ∧ ∀ j, j < n → ∃ c : Nat, c < 40 ∧ f j = nI c
abbrev gm_31 (cy : Nat → ClassId) (K : Kp) (L : List Nat) (n : Nat) (e : va_E) : Prop := ∃ f : Nat → Int32, e = .inl (cy 14, n, .inl f) ∧ ∀ j, j < n → ∃ c : Nat, c < 6 ∧ f j = nI c
abbrev gm_32 (cy : Nat → ClassId) (K : Kp) (L : List Nat) (n : Nat) (e : va_E) : Prop := ∃ f : Nat → Int32, e = .inl (cy 14, n, .inl f) ∧ ∀ j, j < n → ∃ c : Nat, c < 24 ∧ f j = nI c
abbrev gm_33 (cy : Nat → ClassId) (K : Kp) (L : List Nat) (n : Nat) (e : va_E) : Prop := ∃ f : Nat → Int32, e = .inl (cy 14, n, .inl f) ∧ ∀ j, j < n → ((-1000000) ≤ f j ∧ f j ≤ 24)
abbrev gm_34 (cy : Nat → ClassId) (K : Kp) (L : List Nat) (n : Nat) (e : va_E) : Prop := ∃ f : Nat → Int32, e = .inl (cy 14, n, .inl f) ∧ ∀ j, j < n → (f j = -1 ∨ ∃ c : Nat, c < 24 ∧ f j = nI c)
abbrev gm_35 (cy : Nat → ClassId) (K : Kp) (L : List Nat) (n : Nat) (e : va_E) : Prop := ∃ f : Nat → Int32, e = .inl (cy 14, n, .inl f) ∧ ∀ j, j < n → ∃ c : Nat, c < 7 ∧ f j = nI c
abbrev gm_36 (cy : Nat → ClassId) (K : Kp) (L : List Nat) (n : Nat) (e : va_E) : Prop := ∃ f : Nat → Int32, e = .inl (cy 14, n, .inl f) ∧ ∀ j, j < n → (f j = -1 ∨ ∃ c : Nat, c < 1000 ∧ f j = nI c)
abbrev gm_37 (cy : Nat → ClassId) (K : Kp) (L : List Nat) (n : Nat) (e : va_E) : Prop := ∃ f : Nat → Int32, e = .inl (cy 14, n, .inl f) ∧ ∀ j, j < n → (f j = -1 ∨ ∃ c : Nat, c < 7 ∧ f j = nI c)
abbrev gm_38 (cy : Nat → ClassId) (K : Kp) (L : List Nat) (n : Nat) (e : va_E) : Prop := ∃ f : Nat → Int32, e = .inl (cy 14, n, .inl f) ∧ ∀ j, j < n → ∃ c : Nat, c < 1000 ∧ f j = nI c
abbrev gm_41 (cy : Nat → ClassId) (K : Kp) (L : List Nat) (n : Nat) (e : va_E) : Prop := ∃ f : Nat → Int32, e = .inl (cy 14, n, .inl f)
abbrev gm_42 (cy : Nat → ClassId) (K : Kp) (L : List Nat) (n : Nat) (e : va_E) : Prop := ∃ f : Nat → Int32, e = .inl (cy 14, n, .inl f)
abbrev gm_43 (cy : Nat → ClassId) (K : Kp) (L : List Nat) (n : Nat) (e : va_E) : Prop := ∃ f : Nat → Int32, e = .inl (cy 14, n, .inl f)
abbrev gm_44 (cy : Nat → ClassId) (K : Kp) (L : List Nat) (n : Nat) (e : va_E) : Prop := ∃ f : Nat → Int32, e = .inl (cy 14, n, .inl f) ∧ ∀ j, j < n → ∃ c : Nat, c < 1000 ∧ f j = nI c
abbrev gm_45 (cy : Nat → ClassId) (K : Kp) (L : List Nat) (n : Nat) (e : va_E) : Prop := ∃ f : Nat → Int32, e = .inl (cy 14, n, .inl f) ∧ ∀ j, j < n → ∃ c : Nat, c < 1000 ∧ f j = nI c
abbrev gm_46 (cy : Nat → ClassId) (K : Kp) (L : List Nat) (n : Nat) (e : va_E) : Prop := ∃ f : Nat → Int32, e = .inl (cy 14, n, .inl f) ∧ ∀ j, j < n → ∃ c : Nat, c < 1001 ∧ f j = nI c
abbrev gm_47 (cy : Nat → ClassId) (K : Kp) (L : List Nat) (n : Nat) (e : va_E) : Prop := ∃ f : Nat → Int32, e = .inl (cy 14, n, .inl f) ∧ ∀ j, j < n → ∃ c : Nat, c < 6 ∧ f j = nI c
abbrev gm_48 (cy : Nat → ClassId) (K : Kp) (L : List Nat) (n : Nat) (e : va_E) : Prop := ∃ f : Nat → Int32, e = .inl (cy 14, n, .inl f)
abbrev gm_49 (cy : Nat → ClassId) (K : Kp) (L : List Nat) (n : Nat) (e : va_E) : Prop := ∃ f : Nat → Int32, e = .inl (cy 14, n, .inl f)
abbrev gm_50 (cy : Nat → ClassId) (K : Kp) (L : List Nat) (n : Nat) (e : va_E) : Prop := ∃ f : Nat → Int32, e = .inl (cy 14, n, .inl f)
abbrev gm_74 (cy : Nat → ClassId) (K : Kp) (L : List Nat) (n : Nat) (e : va_E) : Prop := ∃ f : Nat → Int32, e = .inl (cy 14, n, .inl f)
abbrev gm_75 (cy : Nat → ClassId) (K : Kp) (L : List Nat) (n : Nat) (e : va_E) : Prop := ∃ f : Nat → Int32, e = .inl (cy 14, n, .inl f)
abbrev gm_76 (cy : Nat → ClassId) (K : Kp) (L : List Nat) (n : Nat) (e : va_E) : Prop := ∃ f : Nat → Int32, e = .inl (cy 14, n, .inl f)
abbrev gm_77 (cy : Nat → ClassId) (K : Kp) (L : List Nat) (n : Nat) (e : va_E) : Prop := ∃ f : Nat → Int32, e = .inl (cy 14, n, .inl f)
abbrev gm_78 (cy : Nat → ClassId) (K : Kp) (L : List Nat) (n : Nat) (e : va_E) : Prop := ∃ f : Nat → Int32, e = .inl (cy 14, n, .inl f)
abbrev gm_79 (cy : Nat → ClassId) (K : Kp) (L : List Nat) (n : Nat) (e : va_E) : Prop := ∃ f : Nat → Int32, e = .inl (cy 14, n, .inl f) ∧ ∀ j, j < n → ∃ c : Nat, c < 24 ∧ f j = nI c
abbrev gm_80 (cy : Nat → ClassId) (K : Kp) (L : List Nat) (n : Nat) (e : va_E) : Prop := ∃ f : Nat → Int32, e = .inl (cy 14, n, .inl f)
abbrev gm_81 (cy : Nat → ClassId) (K : Kp) (L : List Nat) (n : Nat) (e : va_E) : Prop := ∃ f : Nat → Int32, e = .inl (cy 14, n, .inl f)
abbrev gm_82 (cy : Nat → ClassId) (K : Kp) (L : List Nat) (n : Nat) (e : va_E) : Prop := ∃ f : Nat → Int32, e = .inl (cy 14, n, .inl f)
abbrev gm_83 (cy : Nat → ClassId) (K : Kp) (L : List Nat) (n : Nat) (e : va_E) : Prop := ∃ f : Nat → Int32, e = .inl (cy 14, n, .inl f)
abbrev gm_84 (cy : Nat → ClassId) (K : Kp) (L : List Nat) (n : Nat) (e : va_E) : Prop := ∃ f : Nat → Int64, e = .inl (cy 15, n, .inr (.inl f))
abbrev gm_85 (cy : Nat → ClassId) (K : Kp) (L : List Nat) (n : Nat) (e : va_E) : Prop := ∃ f : Nat → Int64, e = .inl (cy 15, n, .inr (.inl f))
abbrev gm_86 (cy : Nat → ClassId) (K : Kp) (L : List Nat) (n : Nat) (e : va_E) : Prop := ∃ f : Nat → Int64, e = .inl (cy 15, n, .inr (.inl f))
abbrev gm_87 (cy : Nat → ClassId) (K : Kp) (L : List Nat) (n : Nat) (e : va_E) : Prop := ∃ f : Nat → Int64, e = .inl (cy 15, n, .inr (.inl f))
abbrev gm_88 (cy : Nat → ClassId) (K : Kp) (L : List Nat) (n : Nat) (e : va_E) : Prop := ∃ f : Nat → Int64, e = .inl (cy 15, n, .inr (.inl f))
abbrev gm_89 (cy : Nat → ClassId) (K : Kp) (L : List Nat) (n : Nat) (e : va_E) : Prop := ∃ f : Nat → Int64, e = .inl (cy 15, n, .inr (.inl f))
abbrev gm_90 (cy : Nat → ClassId) (K : Kp) (L : List Nat) (n : Nat) (e : va_E) : Prop := ∃ f : Nat → Int64, e = .inl (cy 15, n, .inr (.inl f))
abbrev gm_91 (cy : Nat → ClassId) (K : Kp) (L : List Nat) (n : Nat) (e : va_E) : Prop := ∃ f : Nat → Int64, e = .inl (cy 15, n, .inr (.inl f))
abbrev gm_92 (cy : Nat → ClassId) (K : Kp) (L : List Nat) (n : Nat) (e : va_E) : Prop := ∃ f : Nat → Int64, e = .inl (cy 15, n, .inr (.inl f))
abbrev gm_93 (cy : Nat → ClassId) (K : Kp) (L : List Nat) (n : Nat) (e : va_E) : Prop := ∃ f : Nat → Int64, e = .inl (cy 15, n, .inr (.inl f))
abbrev gm_94 (cy : Nat → ClassId) (K : Kp) (L : List Nat) (n : Nat) (e : va_E) : Prop := ∃ f : Nat → Int64, e = .inl (cy 15, n, .inr (.inl f))
abbrev gm_95 (cy : Nat → ClassId) (K : Kp) (L : List Nat) (n : Nat) (e : va_E) : Prop := ∃ f : Nat → Int64, e = .inl (cy 15, n, .inr (.inl f))
abbrev gm_96 (cy : Nat → ClassId) (K : Kp) (L : List Nat) (n : Nat) (e : va_E) : Prop := ∃ f : Nat → Int64, e = .inl (cy 15, n, .inr (.inl f))
abbrev gm_97 (cy : Nat → ClassId) (K : Kp) (L : List Nat) (n : Nat) (e : va_E) : Prop := ∃ f : Nat → Int64, e = .inl (cy 15, n, .inr (.inl f))
abbrev gm_98 (cy : Nat → ClassId) (K : Kp) (L : List Nat) (n : Nat) (e : va_E) : Prop := ∃ f : Nat → Int64, e = .inl (cy 15, n, .inr (.inl f))
abbrev gm_99 (cy : Nat → ClassId) (K : Kp) (L : List Nat) (n : Nat) (e : va_E) : Prop := ∃ f : Nat → Int64, e = .inl (cy 15, n, .inr (.inl f))
def gm (cy : Nat → ClassId) (K : Kp) (L : List Nat) (t : Nat × Nat) (e : va_E) : Prop := match t.1 with
  | 12 => gm_12 K L e
  | 14 => gm_14 cy K L t.2 e
  | 15 => gm_15 cy K L t.2 e
  | 16 => gm_16 cy K L t.2 e
  | 23 => gm_23 cy K L t.2 e
  | 30 => gm_30 cy K L t.2 e
  | 31 => gm_31 cy K L t.2 e
  | 32 => gm_32 cy K L t.2 e
  | 33 => gm_33 cy K L t.2 e
  | 34 => gm_34 cy K L t.2 e
  | 35 => gm_35 cy K L t.2 e
  | 36 => gm_36 cy K L t.2 e
  | 37 => gm_37 cy K L t.2 e
  | 38 => gm_38 cy K L t.2 e
  | 41 => gm_41 cy K L t.2 e
  | 42 => gm_42 cy K L t.2 e
  | 43 => gm_43 cy K L t.2 e
  | 44 => gm_44 cy K L t.2 e
  | 45 => gm_45 cy K L t.2 e
  | 46 => gm_46 cy K L t.2 e
  | 47 => gm_47 cy K L t.2 e
  | 48 => gm_48 cy K L t.2 e
  | 49 => gm_49 cy K L t.2 e
  | 50 => gm_50 cy K L t.2 e
  | 74 => gm_74 cy K L t.2 e
  | 75 => gm_75 cy K L t.2 e
  | 76 => gm_76 cy K L t.2 e
  | 77 => gm_77 cy K L t.2 e
  | 78 => gm_78 cy K L t.2 e
  | 79 => gm_79 cy K L t.2 e
  | 80 => gm_80 cy K L t.2 e
  | 81 => gm_81 cy K L t.2 e
  | 82 => gm_82 cy K L t.2 e
  | 83 => gm_83 cy K L t.2 e
  | 84 => gm_84 cy K L t.2 e
  | 85 => gm_85 cy K L t.2 e
  | 86 => gm_86 cy K L t.2 e
  | 87 => gm_87 cy K L t.2 e
  | 88 => gm_88 cy K L t.2 e
  | 89 => gm_89 cy K L t.2 e
  | 90 => gm_90 cy K L t.2 e
  | 91 => gm_91 cy K L t.2 e
  | 92 => gm_92 cy K L t.2 e
  | 93 => gm_93 cy K L t.2 e
  | 94 => gm_94 cy K L t.2 e
  | 95 => gm_95 cy K L t.2 e
  | 96 => gm_96 cy K L t.2 e
  | 97 => gm_97 cy K L t.2 e
  | 98 => gm_98 cy K L t.2 e
  | 99 => gm_99 cy K L t.2 e
  | _ => False
/-- every object of the reference is as its class says -/
def WOM (cy : Nat → ClassId) (K : Kp) (L : List Nat) (M : Hp) : Prop := ∀ a, a ∈ L → gm cy K L (K a) (M a)
theorem WOM.gup {cy : Nat → ClassId} {K : Kp} {L : List Nat} {M : Hp} {a t n : Nat} {e : va_E} (hW : WOM cy K L M) (ha : isk K L a t n) (h : gm cy K L (t, n) e) : WOM cy K L (va_up M a e) := fun b hb => by
  by_cases q : b = a
  · subst q
    rw [va_up_self, ha.2]
    exact h
  · rw [va_up_ne M e q]
    exact hW b hb
theorem WOM.open_12 {cy : Nat → ClassId} {K : Kp} {L : List Nat} {M : Hp} {a : Nat} (hW : WOM cy K L M) (ha : isk K L a 12 0) : gm_12 K L (M a) := by
  have h := hW a ha.1
  rw [ha.2] at h
  exact h
theorem WOM.up_12 {cy : Nat → ClassId} {K : Kp} {L : List Nat} {M : Hp} {a : Nat} {e : va_E} (hW : WOM cy K L M) (ha : isk K L a 12 0) (h : gm_12 K L e) : WOM cy K L (va_up M a e) := hW.gup ha h
theorem WOM.open_14 {cy : Nat → ClassId} {K : Kp} {L : List Nat} {M : Hp} {a : Nat} {n : Nat} (hW : WOM cy K L M) (ha : isk K L a 14 n) : gm_14 cy K L n (M a) := by
  have h := hW a ha.1
  rw [ha.2] at h
  exact h
theorem WOM.up_14 {cy : Nat → ClassId} {K : Kp} {L : List Nat} {M : Hp} {a : Nat} {n : Nat} {e : va_E} (hW : WOM cy K L M) (ha : isk K L a 14 n) (h : gm_14 cy K L n e) : WOM cy K L (va_up M a e) := hW.gup ha h
theorem WOM.open_15 {cy : Nat → ClassId} {K : Kp} {L : List Nat} {M : Hp} {a : Nat} {n : Nat} (hW : WOM cy K L M) (ha : isk K L a 15 n) : gm_15 cy K L n (M a) := by
  have h := hW a ha.1
  rw [ha.2] at h
  exact h
theorem WOM.up_15 {cy : Nat → ClassId} {K : Kp} {L : List Nat} {M : Hp} {a : Nat} {n : Nat} {e : va_E} (hW : WOM cy K L M) (ha : isk K L a 15 n) (h : gm_15 cy K L n e) : WOM cy K L (va_up M a e) := hW.gup ha h
theorem WOM.open_16 {cy : Nat → ClassId} {K : Kp} {L : List Nat} {M : Hp} {a : Nat} {n : Nat} (hW : WOM cy K L M) (ha : isk K L a 16 n) : gm_16 cy K L n (M a) := by
  have h := hW a ha.1
  rw [ha.2] at h
  exact h
theorem WOM.up_16 {cy : Nat → ClassId} {K : Kp} {L : List Nat} {M : Hp} {a : Nat} {n : Nat} {e : va_E} (hW : WOM cy K L M) (ha : isk K L a 16 n) (h : gm_16 cy K L n e) : WOM cy K L (va_up M a e) := hW.gup ha h
theorem WOM.open_23 {cy : Nat → ClassId} {K : Kp} {L : List Nat} {M : Hp} {a : Nat} {n : Nat} (hW : WOM cy K L M) (ha : isk K L a 23 n) : gm_23 cy K L n (M a) := by
  have h := hW a ha.1
  rw [ha.2] at h
  exact h
theorem WOM.open_30 {cy : Nat → ClassId} {K : Kp} {L : List Nat} {M : Hp} {a : Nat} {n : Nat} (hW : WOM cy K L M) (ha : isk K L a 30 n) : gm_30 cy K L n (M a) := by
  have h := hW a ha.1
  rw [ha.2] at h
  exact h
theorem WOM.up_30 {cy : Nat → ClassId} {K : Kp} {L : List Nat} {M : Hp} {a : Nat} {n : Nat} {e : va_E} (hW : WOM cy K L M) (ha : isk K L a 30 n) (h : gm_30 cy K L n e) : WOM cy K L (va_up M a e) := hW.gup ha h
theorem WOM.open_31 {cy : Nat → ClassId} {K : Kp} {L : List Nat} {M : Hp} {a : Nat} {n : Nat} (hW : WOM cy K L M) (ha : isk K L a 31 n) : gm_31 cy K L n (M a) := by
  have h := hW a ha.1
  rw [ha.2] at h
  exact h
theorem WOM.up_31 {cy : Nat → ClassId} {K : Kp} {L : List Nat} {M : Hp} {a : Nat} {n : Nat} {e : va_E} (hW : WOM cy K L M) (ha : isk K L a 31 n) (h : gm_31 cy K L n e) : WOM cy K L (va_up M a e) := hW.gup ha h
theorem WOM.open_32 {cy : Nat → ClassId} {K : Kp} {L : List Nat} {M : Hp} {a : Nat} {n : Nat} (hW : WOM cy K L M) (ha : isk K L a 32 n) : gm_32 cy K L n (M a) := by
  have h := hW a ha.1
  rw [ha.2] at h
  exact h
theorem WOM.up_32 {cy : Nat → ClassId} {K : Kp} {L : List Nat} {M : Hp} {a : Nat} {n : Nat} {e : va_E} (hW : WOM cy K L M) (ha : isk K L a 32 n) (h : gm_32 cy K L n e) : WOM cy K L (va_up M a e) := hW.gup ha h
theorem WOM.open_33 {cy : Nat → ClassId} {K : Kp} {L : List Nat} {M : Hp} {a : Nat} {n : Nat} (hW : WOM cy K L M) (ha : isk K L a 33 n) : gm_33 cy K L n (M a) := by
  have h := hW a ha.1
  rw [ha.2] at h
  exact h
theorem WOM.up_33 {cy : Nat → ClassId} {K : Kp} {L : List Nat} {M : Hp} {a : Nat} {n : Nat} {e : va_E} (hW : WOM cy K L M) (ha : isk K L a 33 n) (h : gm_33 cy K L n e) : WOM cy K L (va_up M a e) := hW.gup ha h
theorem WOM.open_34 {cy : Nat → ClassId} {K : Kp} {L : List Nat} {M : Hp} {a : Nat} {n : Nat} (hW : WOM cy K L M) (ha : isk K L a 34 n) : gm_34 cy K L n (M a) := by
  have h := hW a ha.1
  rw [ha.2] at h
  exact h
theorem WOM.up_34 {cy : Nat → ClassId} {K : Kp} {L : List Nat} {M : Hp} {a : Nat} {n : Nat} {e : va_E} (hW : WOM cy K L M) (ha : isk K L a 34 n) (h : gm_34 cy K L n e) : WOM cy K L (va_up M a e) := hW.gup ha h
theorem WOM.open_35 {cy : Nat → ClassId} {K : Kp} {L : List Nat} {M : Hp} {a : Nat} {n : Nat} (hW : WOM cy K L M) (ha : isk K L a 35 n) : gm_35 cy K L n (M a) := by
  have h := hW a ha.1
  rw [ha.2] at h
  exact h
theorem WOM.up_35 {cy : Nat → ClassId} {K : Kp} {L : List Nat} {M : Hp} {a : Nat} {n : Nat} {e : va_E} (hW : WOM cy K L M) (ha : isk K L a 35 n) (h : gm_35 cy K L n e) : WOM cy K L (va_up M a e) := hW.gup ha h
theorem WOM.open_36 {cy : Nat → ClassId} {K : Kp} {L : List Nat} {M : Hp} {a : Nat} {n : Nat} (hW : WOM cy K L M) (ha : isk K L a 36 n) : gm_36 cy K L n (M a) := by
  have h := hW a ha.1
  rw [ha.2] at h
  exact h
theorem WOM.up_36 {cy : Nat → ClassId} {K : Kp} {L : List Nat} {M : Hp} {a : Nat} {n : Nat} {e : va_E} (hW : WOM cy K L M) (ha : isk K L a 36 n) (h : gm_36 cy K L n e) : WOM cy K L (va_up M a e) := hW.gup ha h
theorem WOM.open_37 {cy : Nat → ClassId} {K : Kp} {L : List Nat} {M : Hp} {a : Nat} {n : Nat} (hW : WOM cy K L M) (ha : isk K L a 37 n) : gm_37 cy K L n (M a) := by
  have h := hW a ha.1
  rw [ha.2] at h
  exact h
theorem WOM.up_37 {cy : Nat → ClassId} {K : Kp} {L : List Nat} {M : Hp} {a : Nat} {n : Nat} {e : va_E} (hW : WOM cy K L M) (ha : isk K L a 37 n) (h : gm_37 cy K L n e) : WOM cy K L (va_up M a e) := hW.gup ha h
theorem WOM.open_38 {cy : Nat → ClassId} {K : Kp} {L : List Nat} {M : Hp} {a : Nat} {n : Nat} (hW : WOM cy K L M) (ha : isk K L a 38 n) : gm_38 cy K L n (M a) := by
  have h := hW a ha.1
  rw [ha.2] at h
  exact h
theorem WOM.up_38 {cy : Nat → ClassId} {K : Kp} {L : List Nat} {M : Hp} {a : Nat} {n : Nat} {e : va_E} (hW : WOM cy K L M) (ha : isk K L a 38 n) (h : gm_38 cy K L n e) : WOM cy K L (va_up M a e) := hW.gup ha h
theorem WOM.open_41 {cy : Nat → ClassId} {K : Kp} {L : List Nat} {M : Hp} {a : Nat} {n : Nat} (hW : WOM cy K L M) (ha : isk K L a 41 n) : gm_41 cy K L n (M a) := by
  have h := hW a ha.1
  rw [ha.2] at h
  exact h
theorem WOM.up_41 {cy : Nat → ClassId} {K : Kp} {L : List Nat} {M : Hp} {a : Nat} {n : Nat} {e : va_E} (hW : WOM cy K L M) (ha : isk K L a 41 n) (h : gm_41 cy K L n e) : WOM cy K L (va_up M a e) := hW.gup ha h
theorem WOM.open_42 {cy : Nat → ClassId} {K : Kp} {L : List Nat} {M : Hp} {a : Nat} {n : Nat} (hW : WOM cy K L M) (ha : isk K L a 42 n) : gm_42 cy K L n (M a) := by
  have h := hW a ha.1
  rw [ha.2] at h
  exact h
theorem WOM.up_42 {cy : Nat → ClassId} {K : Kp} {L : List Nat} {M : Hp} {a : Nat} {n : Nat} {e : va_E} (hW : WOM cy K L M) (ha : isk K L a 42 n) (h : gm_42 cy K L n e) : WOM cy K L (va_up M a e) := hW.gup ha h
theorem WOM.open_43 {cy : Nat → ClassId} {K : Kp} {L : List Nat} {M : Hp} {a : Nat} {n : Nat} (hW : WOM cy K L M) (ha : isk K L a 43 n) : gm_43 cy K L n (M a) := by
  have h := hW a ha.1
  rw [ha.2] at h
  exact h
theorem WOM.up_43 {cy : Nat → ClassId} {K : Kp} {L : List Nat} {M : Hp} {a : Nat} {n : Nat} {e : va_E} (hW : WOM cy K L M) (ha : isk K L a 43 n) (h : gm_43 cy K L n e) : WOM cy K L (va_up M a e) := hW.gup ha h
theorem WOM.open_44 {cy : Nat → ClassId} {K : Kp} {L : List Nat} {M : Hp} {a : Nat} {n : Nat} (hW : WOM cy K L M) (ha : isk K L a 44 n) : gm_44 cy K L n (M a) := by
  have h := hW a ha.1
  rw [ha.2] at h
  exact h
theorem WOM.up_44 {cy : Nat → ClassId} {K : Kp} {L : List Nat} {M : Hp} {a : Nat} {n : Nat} {e : va_E} (hW : WOM cy K L M) (ha : isk K L a 44 n) (h : gm_44 cy K L n e) : WOM cy K L (va_up M a e) := hW.gup ha h
theorem WOM.open_45 {cy : Nat → ClassId} {K : Kp} {L : List Nat} {M : Hp} {a : Nat} {n : Nat} (hW : WOM cy K L M) (ha : isk K L a 45 n) : gm_45 cy K L n (M a) := by
  have h := hW a ha.1
  rw [ha.2] at h
  exact h
theorem WOM.up_45 {cy : Nat → ClassId} {K : Kp} {L : List Nat} {M : Hp} {a : Nat} {n : Nat} {e : va_E} (hW : WOM cy K L M) (ha : isk K L a 45 n) (h : gm_45 cy K L n e) : WOM cy K L (va_up M a e) := hW.gup ha h
theorem WOM.open_46 {cy : Nat → ClassId} {K : Kp} {L : List Nat} {M : Hp} {a : Nat} {n : Nat} (hW : WOM cy K L M) (ha : isk K L a 46 n) : gm_46 cy K L n (M a) := by
  have h := hW a ha.1
  rw [ha.2] at h
  exact h
theorem WOM.up_46 {cy : Nat → ClassId} {K : Kp} {L : List Nat} {M : Hp} {a : Nat} {n : Nat} {e : va_E} (hW : WOM cy K L M) (ha : isk K L a 46 n) (h : gm_46 cy K L n e) : WOM cy K L (va_up M a e) := hW.gup ha h
theorem WOM.open_47 {cy : Nat → ClassId} {K : Kp} {L : List Nat} {M : Hp} {a : Nat} {n : Nat} (hW : WOM cy K L M) (ha : isk K L a 47 n) : gm_47 cy K L n (M a) := by
  have h := hW a ha.1
  rw [ha.2] at h
  exact h
theorem WOM.up_47 {cy : Nat → ClassId} {K : Kp} {L : List Nat} {M : Hp} {a : Nat} {n : Nat} {e : va_E} (hW : WOM cy K L M) (ha : isk K L a 47 n) (h : gm_47 cy K L n e) : WOM cy K L (va_up M a e) := hW.gup ha h
theorem WOM.open_48 {cy : Nat → ClassId} {K : Kp} {L : List Nat} {M : Hp} {a : Nat} {n : Nat} (hW : WOM cy K L M) (ha : isk K L a 48 n) : gm_48 cy K L n (M a) := by
  have h := hW a ha.1
  rw [ha.2] at h
  exact h
theorem WOM.up_48 {cy : Nat → ClassId} {K : Kp} {L : List Nat} {M : Hp} {a : Nat} {n : Nat} {e : va_E} (hW : WOM cy K L M) (ha : isk K L a 48 n) (h : gm_48 cy K L n e) : WOM cy K L (va_up M a e) := hW.gup ha h
theorem WOM.open_49 {cy : Nat → ClassId} {K : Kp} {L : List Nat} {M : Hp} {a : Nat} {n : Nat} (hW : WOM cy K L M) (ha : isk K L a 49 n) : gm_49 cy K L n (M a) := by
  have h := hW a ha.1
  rw [ha.2] at h
  exact h
theorem WOM.up_49 {cy : Nat → ClassId} {K : Kp} {L : List Nat} {M : Hp} {a : Nat} {n : Nat} {e : va_E} (hW : WOM cy K L M) (ha : isk K L a 49 n) (h : gm_49 cy K L n e) : WOM cy K L (va_up M a e) := hW.gup ha h
theorem WOM.open_50 {cy : Nat → ClassId} {K : Kp} {L : List Nat} {M : Hp} {a : Nat} {n : Nat} (hW : WOM cy K L M) (ha : isk K L a 50 n) : gm_50 cy K L n (M a) := by
  have h := hW a ha.1
  rw [ha.2] at h
  exact h
theorem WOM.up_50 {cy : Nat → ClassId} {K : Kp} {L : List Nat} {M : Hp} {a : Nat} {n : Nat} {e : va_E} (hW : WOM cy K L M) (ha : isk K L a 50 n) (h : gm_50 cy K L n e) : WOM cy K L (va_up M a e) := hW.gup ha h
theorem WOM.open_74 {cy : Nat → ClassId} {K : Kp} {L : List Nat} {M : Hp} {a : Nat} {n : Nat} (hW : WOM cy K L M) (ha : isk K L a 74 n) : gm_74 cy K L n (M a) := by
  have h := hW a ha.1
  rw [ha.2] at h
  exact h
theorem WOM.up_74 {cy : Nat → ClassId} {K : Kp} {L : List Nat} {M : Hp} {a : Nat} {n : Nat} {e : va_E} (hW : WOM cy K L M) (ha : isk K L a 74 n) (h : gm_74 cy K L n e) : WOM cy K L (va_up M a e) := hW.gup ha h
theorem WOM.open_75 {cy : Nat → ClassId} {K : Kp} {L : List Nat} {M : Hp} {a : Nat} {n : Nat} (hW : WOM cy K L M) (ha : isk K L a 75 n) : gm_75 cy K L n (M a) := by
  have h := hW a ha.1
  rw [ha.2] at h
  exact h
theorem WOM.up_75 {cy : Nat → ClassId} {K : Kp} {L : List Nat} {M : Hp} {a : Nat} {n : Nat} {e : va_E} (hW : WOM cy K L M) (ha : isk K L a 75 n) (h : gm_75 cy K L n e) : WOM cy K L (va_up M a e) := hW.gup ha h
theorem WOM.open_76 {cy : Nat → ClassId} {K : Kp} {L : List Nat} {M : Hp} {a : Nat} {n : Nat} (hW : WOM cy K L M) (ha : isk K L a 76 n) : gm_76 cy K L n (M a) := by
  have h := hW a ha.1
  rw [ha.2] at h
  exact h
theorem WOM.up_76 {cy : Nat → ClassId} {K : Kp} {L : List Nat} {M : Hp} {a : Nat} {n : Nat} {e : va_E} (hW : WOM cy K L M) (ha : isk K L a 76 n) (h : gm_76 cy K L n e) : WOM cy K L (va_up M a e) := hW.gup ha h
theorem WOM.open_77 {cy : Nat → ClassId} {K : Kp} {L : List Nat} {M : Hp} {a : Nat} {n : Nat} (hW : WOM cy K L M) (ha : isk K L a 77 n) : gm_77 cy K L n (M a) := by
  have h := hW a ha.1
  rw [ha.2] at h
  exact h
theorem WOM.up_77 {cy : Nat → ClassId} {K : Kp} {L : List Nat} {M : Hp} {a : Nat} {n : Nat} {e : va_E} (hW : WOM cy K L M) (ha : isk K L a 77 n) (h : gm_77 cy K L n e) : WOM cy K L (va_up M a e) := hW.gup ha h
theorem WOM.open_78 {cy : Nat → ClassId} {K : Kp} {L : List Nat} {M : Hp} {a : Nat} {n : Nat} (hW : WOM cy K L M) (ha : isk K L a 78 n) : gm_78 cy K L n (M a) := by
  have h := hW a ha.1
  rw [ha.2] at h
  exact h
theorem WOM.up_78 {cy : Nat → ClassId} {K : Kp} {L : List Nat} {M : Hp} {a : Nat} {n : Nat} {e : va_E} (hW : WOM cy K L M) (ha : isk K L a 78 n) (h : gm_78 cy K L n e) : WOM cy K L (va_up M a e) := hW.gup ha h
theorem WOM.open_79 {cy : Nat → ClassId} {K : Kp} {L : List Nat} {M : Hp} {a : Nat} {n : Nat} (hW : WOM cy K L M) (ha : isk K L a 79 n) : gm_79 cy K L n (M a) := by
  have h := hW a ha.1
  rw [ha.2] at h
  exact h
theorem WOM.up_79 {cy : Nat → ClassId} {K : Kp} {L : List Nat} {M : Hp} {a : Nat} {n : Nat} {e : va_E} (hW : WOM cy K L M) (ha : isk K L a 79 n) (h : gm_79 cy K L n e) : WOM cy K L (va_up M a e) := hW.gup ha h
theorem WOM.open_80 {cy : Nat → ClassId} {K : Kp} {L : List Nat} {M : Hp} {a : Nat} {n : Nat} (hW : WOM cy K L M) (ha : isk K L a 80 n) : gm_80 cy K L n (M a) := by
  have h := hW a ha.1
  rw [ha.2] at h
  exact h
theorem WOM.up_80 {cy : Nat → ClassId} {K : Kp} {L : List Nat} {M : Hp} {a : Nat} {n : Nat} {e : va_E} (hW : WOM cy K L M) (ha : isk K L a 80 n) (h : gm_80 cy K L n e) : WOM cy K L (va_up M a e) := hW.gup ha h
theorem WOM.open_81 {cy : Nat → ClassId} {K : Kp} {L : List Nat} {M : Hp} {a : Nat} {n : Nat} (hW : WOM cy K L M) (ha : isk K L a 81 n) : gm_81 cy K L n (M a) := by
  have h := hW a ha.1
  rw [ha.2] at h
  exact h
theorem WOM.up_81 {cy : Nat → ClassId} {K : Kp} {L : List Nat} {M : Hp} {a : Nat} {n : Nat} {e : va_E} (hW : WOM cy K L M) (ha : isk K L a 81 n) (h : gm_81 cy K L n e) : WOM cy K L (va_up M a e) := hW.gup ha h
theorem WOM.open_82 {cy : Nat → ClassId} {K : Kp} {L : List Nat} {M : Hp} {a : Nat} {n : Nat} (hW : WOM cy K L M) (ha : isk K L a 82 n) : gm_82 cy K L n (M a) := by
  have h := hW a ha.1
  rw [ha.2] at h
  exact h
theorem WOM.up_82 {cy : Nat → ClassId} {K : Kp} {L : List Nat} {M : Hp} {a : Nat} {n : Nat} {e : va_E} (hW : WOM cy K L M) (ha : isk K L a 82 n) (h : gm_82 cy K L n e) : WOM cy K L (va_up M a e) := hW.gup ha h
theorem WOM.open_83 {cy : Nat → ClassId} {K : Kp} {L : List Nat} {M : Hp} {a : Nat} {n : Nat} (hW : WOM cy K L M) (ha : isk K L a 83 n) : gm_83 cy K L n (M a) := by
  have h := hW a ha.1
  rw [ha.2] at h
  exact h
theorem WOM.up_83 {cy : Nat → ClassId} {K : Kp} {L : List Nat} {M : Hp} {a : Nat} {n : Nat} {e : va_E} (hW : WOM cy K L M) (ha : isk K L a 83 n) (h : gm_83 cy K L n e) : WOM cy K L (va_up M a e) := hW.gup ha h
theorem WOM.open_84 {cy : Nat → ClassId} {K : Kp} {L : List Nat} {M : Hp} {a : Nat} {n : Nat} (hW : WOM cy K L M) (ha : isk K L a 84 n) : gm_84 cy K L n (M a) := by
  have h := hW a ha.1
  rw [ha.2] at h
  exact h
theorem WOM.up_84 {cy : Nat → ClassId} {K : Kp} {L : List Nat} {M : Hp} {a : Nat} {n : Nat} {e : va_E} (hW : WOM cy K L M) (ha : isk K L a 84 n) (h : gm_84 cy K L n e) : WOM cy K L (va_up M a e) := hW.gup ha h
theorem WOM.open_85 {cy : Nat → ClassId} {K : Kp} {L : List Nat} {M : Hp} {a : Nat} {n : Nat} (hW : WOM cy K L M) (ha : isk K L a 85 n) : gm_85 cy K L n (M a) := by
  have h := hW a ha.1
  rw [ha.2] at h
  exact h
theorem WOM.up_85 {cy : Nat → ClassId} {K : Kp} {L : List Nat} {M : Hp} {a : Nat} {n : Nat} {e : va_E} (hW : WOM cy K L M) (ha : isk K L a 85 n) (h : gm_85 cy K L n e) : WOM cy K L (va_up M a e) := hW.gup ha h
theorem WOM.open_86 {cy : Nat → ClassId} {K : Kp} {L : List Nat} {M : Hp} {a : Nat} {n : Nat} (hW : WOM cy K L M) (ha : isk K L a 86 n) : gm_86 cy K L n (M a) := by
  have h := hW a ha.1
  rw [ha.2] at h
  exact h
theorem WOM.up_86 {cy : Nat → ClassId} {K : Kp} {L : List Nat} {M : Hp} {a : Nat} {n : Nat} {e : va_E} (hW : WOM cy K L M) (ha : isk K L a 86 n) (h : gm_86 cy K L n e) : WOM cy K L (va_up M a e) := hW.gup ha h
theorem WOM.open_87 {cy : Nat → ClassId} {K : Kp} {L : List Nat} {M : Hp} {a : Nat} {n : Nat} (hW : WOM cy K L M) (ha : isk K L a 87 n) : gm_87 cy K L n (M a) := by
  have h := hW a ha.1
  rw [ha.2] at h
  exact h
theorem WOM.up_87 {cy : Nat → ClassId} {K : Kp} {L : List Nat} {M : Hp} {a : Nat} {n : Nat} {e : va_E} (hW : WOM cy K L M) (ha : isk K L a 87 n) (h : gm_87 cy K L n e) : WOM cy K L (va_up M a e) := hW.gup ha h
theorem WOM.open_88 {cy : Nat → ClassId} {K : Kp} {L : List Nat} {M : Hp} {a : Nat} {n : Nat} (hW : WOM cy K L M) (ha : isk K L a 88 n) : gm_88 cy K L n (M a) := by
  have h := hW a ha.1
  rw [ha.2] at h
  exact h
theorem WOM.up_88 {cy : Nat → ClassId} {K : Kp} {L : List Nat} {M : Hp} {a : Nat} {n : Nat} {e : va_E} (hW : WOM cy K L M) (ha : isk K L a 88 n) (h : gm_88 cy K L n e) : WOM cy K L (va_up M a e) := hW.gup ha h
theorem WOM.open_89 {cy : Nat → ClassId} {K : Kp} {L : List Nat} {M : Hp} {a : Nat} {n : Nat} (hW : WOM cy K L M) (ha : isk K L a 89 n) : gm_89 cy K L n (M a) := by
  have h := hW a ha.1
  rw [ha.2] at h
  exact h
theorem WOM.up_89 {cy : Nat → ClassId} {K : Kp} {L : List Nat} {M : Hp} {a : Nat} {n : Nat} {e : va_E} (hW : WOM cy K L M) (ha : isk K L a 89 n) (h : gm_89 cy K L n e) : WOM cy K L (va_up M a e) := hW.gup ha h
theorem WOM.open_90 {cy : Nat → ClassId} {K : Kp} {L : List Nat} {M : Hp} {a : Nat} {n : Nat} (hW : WOM cy K L M) (ha : isk K L a 90 n) : gm_90 cy K L n (M a) := by
  have h := hW a ha.1
  rw [ha.2] at h
  exact h
theorem WOM.up_90 {cy : Nat → ClassId} {K : Kp} {L : List Nat} {M : Hp} {a : Nat} {n : Nat} {e : va_E} (hW : WOM cy K L M) (ha : isk K L a 90 n) (h : gm_90 cy K L n e) : WOM cy K L (va_up M a e) := hW.gup ha h
theorem WOM.open_91 {cy : Nat → ClassId} {K : Kp} {L : List Nat} {M : Hp} {a : Nat} {n : Nat} (hW : WOM cy K L M) (ha : isk K L a 91 n) : gm_91 cy K L n (M a) := by
  have h := hW a ha.1
  rw [ha.2] at h
  exact h
theorem WOM.up_91 {cy : Nat → ClassId} {K : Kp} {L : List Nat} {M : Hp} {a : Nat} {n : Nat} {e : va_E} (hW : WOM cy K L M) (ha : isk K L a 91 n) (h : gm_91 cy K L n e) : WOM cy K L (va_up M a e) := hW.gup ha h
theorem WOM.open_92 {cy : Nat → ClassId} {K : Kp} {L : List Nat} {M : Hp} {a : Nat} {n : Nat} (hW : WOM cy K L M) (ha : isk K L a 92 n) : gm_92 cy K L n (M a) := by
  have h := hW a ha.1
  rw [ha.2] at h
  exact h
theorem WOM.up_92 {cy : Nat → ClassId} {K : Kp} {L : List Nat} {M : Hp} {a : Nat} {n : Nat} {e : va_E} (hW : WOM cy K L M) (ha : isk K L a 92 n) (h : gm_92 cy K L n e) : WOM cy K L (va_up M a e) := hW.gup ha h
theorem WOM.open_93 {cy : Nat → ClassId} {K : Kp} {L : List Nat} {M : Hp} {a : Nat} {n : Nat} (hW : WOM cy K L M) (ha : isk K L a 93 n) : gm_93 cy K L n (M a) := by
  have h := hW a ha.1
  rw [ha.2] at h
  exact h
theorem WOM.up_93 {cy : Nat → ClassId} {K : Kp} {L : List Nat} {M : Hp} {a : Nat} {n : Nat} {e : va_E} (hW : WOM cy K L M) (ha : isk K L a 93 n) (h : gm_93 cy K L n e) : WOM cy K L (va_up M a e) := hW.gup ha h
theorem WOM.open_94 {cy : Nat → ClassId} {K : Kp} {L : List Nat} {M : Hp} {a : Nat} {n : Nat} (hW : WOM cy K L M) (ha : isk K L a 94 n) : gm_94 cy K L n (M a) := by
  have h := hW a ha.1
  rw [ha.2] at h
  exact h
theorem WOM.up_94 {cy : Nat → ClassId} {K : Kp} {L : List Nat} {M : Hp} {a : Nat} {n : Nat} {e : va_E} (hW : WOM cy K L M) (ha : isk K L a 94 n) (h : gm_94 cy K L n e) : WOM cy K L (va_up M a e) := hW.gup ha h
theorem WOM.open_95 {cy : Nat → ClassId} {K : Kp} {L : List Nat} {M : Hp} {a : Nat} {n : Nat} (hW : WOM cy K L M) (ha : isk K L a 95 n) : gm_95 cy K L n (M a) := by
  have h := hW a ha.1
  rw [ha.2] at h
  exact h
theorem WOM.up_95 {cy : Nat → ClassId} {K : Kp} {L : List Nat} {M : Hp} {a : Nat} {n : Nat} {e : va_E} (hW : WOM cy K L M) (ha : isk K L a 95 n) (h : gm_95 cy K L n e) : WOM cy K L (va_up M a e) := hW.gup ha h
theorem WOM.open_96 {cy : Nat → ClassId} {K : Kp} {L : List Nat} {M : Hp} {a : Nat} {n : Nat} (hW : WOM cy K L M) (ha : isk K L a 96 n) : gm_96 cy K L n (M a) := by
  have h := hW a ha.1
  rw [ha.2] at h
  exact h
theorem WOM.up_96 {cy : Nat → ClassId} {K : Kp} {L : List Nat} {M : Hp} {a : Nat} {n : Nat} {e : va_E} (hW : WOM cy K L M) (ha : isk K L a 96 n) (h : gm_96 cy K L n e) : WOM cy K L (va_up M a e) := hW.gup ha h
theorem WOM.open_97 {cy : Nat → ClassId} {K : Kp} {L : List Nat} {M : Hp} {a : Nat} {n : Nat} (hW : WOM cy K L M) (ha : isk K L a 97 n) : gm_97 cy K L n (M a) := by
  have h := hW a ha.1
  rw [ha.2] at h
  exact h
theorem WOM.up_97 {cy : Nat → ClassId} {K : Kp} {L : List Nat} {M : Hp} {a : Nat} {n : Nat} {e : va_E} (hW : WOM cy K L M) (ha : isk K L a 97 n) (h : gm_97 cy K L n e) : WOM cy K L (va_up M a e) := hW.gup ha h
theorem WOM.open_98 {cy : Nat → ClassId} {K : Kp} {L : List Nat} {M : Hp} {a : Nat} {n : Nat} (hW : WOM cy K L M) (ha : isk K L a 98 n) : gm_98 cy K L n (M a) := by
  have h := hW a ha.1
  rw [ha.2] at h
  exact h
theorem WOM.up_98 {cy : Nat → ClassId} {K : Kp} {L : List Nat} {M : Hp} {a : Nat} {n : Nat} {e : va_E} (hW : WOM cy K L M) (ha : isk K L a 98 n) (h : gm_98 cy K L n e) : WOM cy K L (va_up M a e) := hW.gup ha h
theorem WOM.open_99 {cy : Nat → ClassId} {K : Kp} {L : List Nat} {M : Hp} {a : Nat} {n : Nat} (hW : WOM cy K L M) (ha : isk K L a 99 n) : gm_99 cy K L n (M a) := by
  have h := hW a ha.1
  rw [ha.2] at h
  exact h
theorem WOM.up_99 {cy : Nat → ClassId} {K : Kp} {L : List Nat} {M : Hp} {a : Nat} {n : Nat} {e : va_E} (hW : WOM cy K L M) (ha : isk K L a 99 n) (h : gm_99 cy K L n e) : WOM cy K L (va_up M a e) := hW.gup ha h
theorem updP {P : Int32 → Prop} {n i : Nat} {f : Nat → Int32} {v : Int32} (h : ∀ j, j < n → P (f j)) (hv : P v) : ∀ j, j < n → P (upd f i v j) := fun j hj => by
  by_cases q : j = i
  · subst q
    have e : upd f j v j = v := by simp [upd]
    rw [e]
    exact hv
  · have e : upd f i v j = f j := by simp [upd, q]
    rw [e]
    exact h j hj
theorem le24z {x : Int32} (hl : (-1000000) ≤ x) (h : x ≤ 24) (h0 : ¬ x - 1 < 0) : ∃ j : Nat, j < 24 ∧ x - 1 = nI j := by
  have h1 := Int32.le_iff_toInt_le.mp h
  rw [show (24 : Int32).toInt = 24 from rfl] at h1
  have hb := Int32.le_iff_toInt_le.mp hl
  rw [show (-1000000 : Int32).toInt = -1000000 from rfl] at hb
  have h2 := Int32.le_iff_toInt_le.mp (Int32.not_lt.mp h0)
  rw [show (0 : Int32).toInt = 0 from rfl] at h2
  have h4 : (x - 1).toInt = x.toInt - 1 := by
    rw [Int32.toInt_sub, show (1 : Int32).toInt = 1 from rfl]
    apply Int.bmod_eq_of_le <;> omega
  exact ⟨(x - 1).toInt.toNat, by omega, i32_of (by omega) (by omega)⟩
