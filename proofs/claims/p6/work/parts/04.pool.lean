/-! the pool: the class's objects and arrays by their addresses; a kind is a tag and a length -/
abbrev Kp : Type := Nat → Nat × Nat
abbrev Hp : Type := Nat → va_E
def isk (K : Kp) (L : List Nat) (a t n : Nat) : Prop := a ∈ L ∧ K a = (t, n)
def iskN (K : Kp) (L : List Nat) (o : Option Nat) (t n : Nat) : Prop := ∀ a, o = some a → isk K L a t n
def ext (K : Kp) (L : List Nat) (K' : Kp) (L' : List Nat) : Prop := ∀ a, a ∈ L → a ∈ L' ∧ K' a = K a
theorem isk.ne {K : Kp} {L : List Nat} {a b t n t' n' : Nat} (ha : isk K L a t n) (hb : isk K L b t' n') (h : (t, n) ≠ (t', n')) : a ≠ b := fun e => h (by rw [← ha.2, ← hb.2, e])
theorem isk.ext {K K' : Kp} {L L' : List Nat} {a t n : Nat} (h : isk K L a t n) (e : ext K L K' L') : isk K' L' a t n := ⟨(e a h.1).1, ((e a h.1).2).trans h.2⟩
theorem iskN.ext {K K' : Kp} {L L' : List Nat} {o : Option Nat} {t n : Nat} (h : iskN K L o t n) (e : ext K L K' L') : iskN K' L' o t n := fun a q => (h a q).ext e
theorem iskN.none {K : Kp} {L : List Nat} {t n : Nat} : iskN K L none t n := fun _ h => by cases h
theorem iskN.some {K : Kp} {L : List Nat} {a t n : Nat} (h : isk K L a t n) : iskN K L (some a) t n := fun _ e => by cases e; exact h
theorem ext.rf {K : Kp} {L : List Nat} : ext K L K L := fun _ h => ⟨h, rfl⟩
theorem ext.tr {K K' K'' : Kp} {L L' L'' : List Nat} (h : ext K L K' L') (g : ext K' L' K'' L'') : ext K L K'' L'' := fun a q => ⟨(g a (h a q).1).1, ((g a (h a q).1).2).trans (h a q).2⟩
theorem ext.push {K : Kp} {L : List Nat} {q : Nat} (kd : Nat × Nat) (h : q ∉ L) : ext K L (va_up K q kd) (L ++ [q]) := fun a ha => ⟨List.mem_append_left _ ha, va_up_ne K kd (fun e => h (e ▸ ha))⟩
abbrev gd_0 (K : Kp) (L : List Nat) (e : va_E) : Prop := ∃ (v0 : Nat) (v1 : Nat) (v2 : Nat) (v3 : Nat) (v4 : Int64), e = (b0_7 v0 v1 v2 (nI v3) v4) ∧ isk K L v0 21 120 ∧ isk K L v1 66 100 ∧ isk K L v2 7 0 ∧ v3 ≤ 120
abbrev gd_1 (K : Kp) (L : List Nat) (e : va_E) : Prop := ∃ (n_ : Nat) (v0 : Nat) (v1 : Nat) (v2 : Nat) (v3 : Nat), e = (b1_4 v0 v1 v2 (nI v3)) ∧ isk K L v0 63 n_ ∧ isk K L v1 56 n_ ∧ isk K L v2 57 n_ ∧ v3 ≤ n_ ∧ n_ ≤ 120
abbrev gd_2 (K : Kp) (L : List Nat) (e : va_E) : Prop := ∃ (v0 : Int32) (v1 : Int32) (v2 : Int32) (v3 : Nat) (v4 : Nat) (v5 : Nat) (v6 : Nat) (v7 : Nat) (v8 : Nat) (v9 : Nat) (v10 : Nat) (v11 : Nat) (v12 : Nat) (v13 : Nat) (v14 : Int64) (v15 : Int32) (v16 : Nat) (v17 : Nat) (v18 : Nat) (v19 : Nat), e = (b2_2 v0 v1 v2 v3 (nI v4) (nI v5) v6 v7 v8 (nI v9) v10 (nI v11) v12 v13 v14 v15 v16 v17 v18 v19) ∧ isk K L v3 51 12 ∧ v4 ≤ 12 ∧ v5 ≤ 12 ∧ isk K L v6 52 6 ∧ isk K L v7 61 6 ∧ isk K L v8 62 24 ∧ v9 ≤ 24 ∧ isk K L v10 20 16 ∧ v11 ≤ 16 ∧ isk K L v12 18 1000 ∧ isk K L v13 67 1000 ∧ isk K L v16 1 0 ∧ isk K L v17 1 0 ∧ isk K L v18 10 0 ∧ isk K L v19 0 0
abbrev gd_3 (K : Kp) (L : List Nat) (e : va_E) : Prop := ∃ (n_ : Nat) (v0 : Int32) (v1 : Nat) (v2 : Nat), e = (b3_3 v0 v1 (nI v2)) ∧ isk K L v1 53 n_ ∧ v2 ≤ n_ ∧ n_ ≤ 6
abbrev gd_4 (K : Kp) (L : List Nat) (e : va_E) : Prop := ∃ (v0 : Int32) (v1 : Int32) (v2 : Int32) (v3 : Option Nat), e = .inr (4, [.int v0, .int v1, .int v2, va_rf v3]) ∧ iskN K L v3 2 0
abbrev gd_5 (K : Kp) (L : List Nat) (e : va_E) : Prop := ∃ (v0 : Nat) (v1 : Nat) (v2 : Int32), e = (b5_14 v0 v1 v2) ∧ isk K L v0 58 8 ∧ isk K L v1 59 8
abbrev gd_6 (K : Kp) (L : List Nat) (e : va_E) : Prop := ∃ (v0 : Int32) (v1 : Int32) (v2 : Nat), e = (b6_13 v0 v1 v2) ∧ isk K L v2 54 24
abbrev gd_7 (K : Kp) (L : List Nat) (e : va_E) : Prop := ∃ (v0 : Nat) (v1 : Nat) (v2 : Nat) (v3 : Nat) (v4 : Nat) (v5 : Nat), e = (b7_8 v0 v1 v2 v3 v4 (nI v5)) ∧ isk K L v0 64 100 ∧ isk K L v1 68 100 ∧ isk K L v2 69 100 ∧ isk K L v3 70 100 ∧ isk K L v4 71 100 ∧ v5 ≤ 100
abbrev gd_8 (K : Kp) (L : List Nat) (e : va_E) : Prop := ∃ (v0 : Nat) (v1 : Nat) (v2 : Int32) (v3 : Int32) (v4 : Int64) (v5 : Int64), e = (b8_11 v0 v1 v2 v3 v4 v5) ∧ isk K L v0 65 6 ∧ isk K L v1 72 6
abbrev gd_9 (K : Kp) (L : List Nat) (e : va_E) : Prop := ∃ (v0 : Nat) (v1 : Nat) (v2 : Int32) (v3 : Int32) (v4 : Int32) (v5 : Int32) (v6 : Int32) (v7 : Int32) (v8 : Option Nat) (v9 : Int64) (v10 : Int64) (v11 : Int64) (v12 : Int64) (v13 : Int64) (v14 : Int64) (v15 : Int64), e = (b9_9 (nI v0) v1 v2 v3 v4 v5 v6 v7 v8 v9 v10 v11 v12 v13 v14 v15) ∧ v0 ≤ 24 ∧ isk K L v1 4 0 ∧ (v4 = 0 ∨ v4 = 1) ∧ iskN K L v8 9 0
abbrev gd_10 (K : Kp) (L : List Nat) (e : va_E) : Prop := ∃ (v0 : Nat) (v1 : Int32) (v2 : Int32), e = (b10_15 v0 v1 v2) ∧ isk K L v0 55 60
abbrev gd_14 (cy : Nat → ClassId) (K : Kp) (L : List Nat) (n : Nat) (e : va_E) : Prop := ∃ f : Nat → Int32, e = .inl (cy 14, n, .inl f)
abbrev gd_15 (cy : Nat → ClassId) (K : Kp) (L : List Nat) (n : Nat) (e : va_E) : Prop := ∃ f : Nat → Int64, e = .inl (cy 15, n, .inr (.inl f))
abbrev gd_17 (cy : Nat → ClassId) (K : Kp) (L : List Nat) (n : Nat) (e : va_E) : Prop := ∃ f : Nat → Option Nat, e = .inl (cy 17, n, .inr (.inr (.inr (.inr f)))) ∧ ∀ j, j < n → iskN K L (f j) 2 0
abbrev gd_18 (cy : Nat → ClassId) (K : Kp) (L : List Nat) (n : Nat) (e : va_E) : Prop := ∃ f : Nat → Option Nat, e = .inl (cy 18, n, .inr (.inr (.inr (.inr f)))) ∧ ∀ j, j < n → iskN K L (f j) 3 0
abbrev gd_19 (cy : Nat → ClassId) (K : Kp) (L : List Nat) (n : Nat) (e : va_E) : Prop := ∃ f : Nat → Option Nat, e = .inl (cy 19, n, .inr (.inr (.inr (.inr f)))) ∧ ∀ j, j < n → iskN K L (f j) 4 0
abbrev gd_20 (cy : Nat → ClassId) (K : Kp) (L : List Nat) (n : Nat) (e : va_E) : Prop := ∃ f : Nat → Option Nat, e = .inl (cy 20, n, .inr (.inr (.inr (.inr f)))) ∧ ∀ j, j < n → iskN K L (f j) 6 0
abbrev gd_21 (cy : Nat → ClassId) (K : Kp) (L : List Nat) (n : Nat) (e : va_E) : Prop := ∃ f : Nat → Option Nat, e = .inl (cy 21, n, .inr (.inr (.inr (.inr f)))) ∧ ∀ j, j < n → iskN K L (f j) 8 0
abbrev gd_51 (cy : Nat → ClassId) (K : Kp) (L : List Nat) (n : Nat) (e : va_E) : Prop := ∃ f : Nat → Int32, e = .inl (cy 14, n, .inl f)
abbrev gd_52 (cy : Nat → ClassId) (K : Kp) (L : List Nat) (n : Nat) (e : va_E) : Prop := ∃ f : Nat → Int32, e = .inl (cy 14, n, .inl f)
abbrev gd_53 (cy : Nat → ClassId) (K : Kp) (L : List Nat) (n : Nat) (e : va_E) : Prop := ∃ f : Nat → Int32, e = .inl (cy 14, n, .inl f)
abbrev gd_54 (cy : Nat → ClassId) (K : Kp) (L : List Nat) (n : Nat) (e : va_E) : Prop := ∃ f : Nat → Int32, e = .inl (cy 14, n, .inl f)
abbrev gd_55 (cy : Nat → ClassId) (K : Kp) (L : List Nat) (n : Nat) (e : va_E) : Prop := ∃ f : Nat → Int32, e = .inl (cy 14, n, .inl f)
abbrev gd_56 (cy : Nat → ClassId) (K : Kp) (L : List Nat) (n : Nat) (e : va_E) : Prop := ∃ f : Nat → Int32, e = .inl (cy 14, n, .inl f)
abbrev gd_57 (cy : Nat → ClassId) (K : Kp) (L : List Nat) (n : Nat) (e : va_E) : Prop := ∃ f : Nat → Int32, e = .inl (cy 14, n, .inl f)
abbrev gd_58 (cy : Nat → ClassId) (K : Kp) (L : List Nat) (n : Nat) (e : va_E) : Prop := ∃ f : Nat → Int32, e = .inl (cy 14, n, .inl f)
abbrev gd_59 (cy : Nat → ClassId) (K : Kp) (L : List Nat) (n : Nat) (e : va_E) : Prop := ∃ f : Nat → Int32, e = .inl (cy 14, n, .inl f)
abbrev gd_60 (cy : Nat → ClassId) (K : Kp) (L : List Nat) (n : Nat) (e : va_E) : Prop := ∃ f : Nat → Int32, e = .inl (cy 14, n, .inl f)
abbrev gd_61 (cy : Nat → ClassId) (K : Kp) (L : List Nat) (n : Nat) (e : va_E) : Prop := ∃ f : Nat → Option Nat, e = .inl (cy 22, n, .inr (.inr (.inr (.inr f)))) ∧ ∀ j, j < n → iskN K L (f j) 9 0
abbrev gd_62 (cy : Nat → ClassId) (K : Kp) (L : List Nat) (n : Nat) (e : va_E) : Prop := ∃ f : Nat → Option Nat, e = .inl (cy 22, n, .inr (.inr (.inr (.inr f)))) ∧ ∀ j, j < n → iskN K L (f j) 9 0
abbrev gd_63 (cy : Nat → ClassId) (K : Kp) (L : List Nat) (n : Nat) (e : va_E) : Prop := ∃ f : Nat → Option Nat, e = .inl (cy 22, n, .inr (.inr (.inr (.inr f)))) ∧ ∀ j, j < n → iskN K L (f j) 9 0
abbrev gd_64 (cy : Nat → ClassId) (K : Kp) (L : List Nat) (n : Nat) (e : va_E) : Prop := ∃ f : Nat → Option Nat, e = .inl (cy 22, n, .inr (.inr (.inr (.inr f)))) ∧ ∀ j, j < n → iskN K L (f j) 9 0
abbrev gd_65 (cy : Nat → ClassId) (K : Kp) (L : List Nat) (n : Nat) (e : va_E) : Prop := ∃ f : Nat → Option Nat, e = .inl (cy 22, n, .inr (.inr (.inr (.inr f)))) ∧ ∀ j, j < n → iskN K L (f j) 9 0
abbrev gd_66 (cy : Nat → ClassId) (K : Kp) (L : List Nat) (n : Nat) (e : va_E) : Prop := ∃ f : Nat → Int64, e = .inl (cy 15, n, .inr (.inl f))
abbrev gd_67 (cy : Nat → ClassId) (K : Kp) (L : List Nat) (n : Nat) (e : va_E) : Prop := ∃ f : Nat → Int64, e = .inl (cy 15, n, .inr (.inl f))
abbrev gd_68 (cy : Nat → ClassId) (K : Kp) (L : List Nat) (n : Nat) (e : va_E) : Prop := ∃ f : Nat → Int64, e = .inl (cy 15, n, .inr (.inl f))
abbrev gd_69 (cy : Nat → ClassId) (K : Kp) (L : List Nat) (n : Nat) (e : va_E) : Prop := ∃ f : Nat → Int64, e = .inl (cy 15, n, .inr (.inl f))
abbrev gd_70 (cy : Nat → ClassId) (K : Kp) (L : List Nat) (n : Nat) (e : va_E) : Prop := ∃ f : Nat → Int64, e = .inl (cy 15, n, .inr (.inl f))
abbrev gd_71 (cy : Nat → ClassId) (K : Kp) (L : List Nat) (n : Nat) (e : va_E) : Prop := ∃ f : Nat → Int64, e = .inl (cy 15, n, .inr (.inl f))
abbrev gd_72 (cy : Nat → ClassId) (K : Kp) (L : List Nat) (n : Nat) (e : va_E) : Prop := ∃ f : Nat → Int64, e = .inl (cy 15, n, .inr (.inl f))
abbrev gd_73 (cy : Nat → ClassId) (K : Kp) (L : List Nat) (n : Nat) (e : va_E) : Prop := ∃ f : Nat → Int64, e = .inl (cy 15, n, .inr (.inl f))
def gd (cy : Nat → ClassId) (K : Kp) (L : List Nat) (t : Nat × Nat) (e : va_E) : Prop := match t.1 with
  | 0 => gd_0 K L e
  | 1 => gd_1 K L e
  | 2 => gd_2 K L e
  | 3 => gd_3 K L e
  | 4 => gd_4 K L e
  | 5 => gd_5 K L e
  | 6 => gd_6 K L e
  | 7 => gd_7 K L e
  | 8 => gd_8 K L e
  | 9 => gd_9 K L e
  | 10 => gd_10 K L e
  | 14 => gd_14 cy K L t.2 e
  | 15 => gd_15 cy K L t.2 e
  | 17 => gd_17 cy K L t.2 e
  | 18 => gd_18 cy K L t.2 e
  | 19 => gd_19 cy K L t.2 e
  | 20 => gd_20 cy K L t.2 e
  | 21 => gd_21 cy K L t.2 e
  | 51 => gd_51 cy K L t.2 e
  | 52 => gd_52 cy K L t.2 e
  | 53 => gd_53 cy K L t.2 e
  | 54 => gd_54 cy K L t.2 e
  | 55 => gd_55 cy K L t.2 e
  | 56 => gd_56 cy K L t.2 e
  | 57 => gd_57 cy K L t.2 e
  | 58 => gd_58 cy K L t.2 e
  | 59 => gd_59 cy K L t.2 e
  | 60 => gd_60 cy K L t.2 e
  | 61 => gd_61 cy K L t.2 e
  | 62 => gd_62 cy K L t.2 e
  | 63 => gd_63 cy K L t.2 e
  | 64 => gd_64 cy K L t.2 e
  | 65 => gd_65 cy K L t.2 e
  | 66 => gd_66 cy K L t.2 e
  | 67 => gd_67 cy K L t.2 e
  | 68 => gd_68 cy K L t.2 e
  | 69 => gd_69 cy K L t.2 e
  | 70 => gd_70 cy K L t.2 e
  | 71 => gd_71 cy K L t.2 e
  | 72 => gd_72 cy K L t.2 e
  | 73 => gd_73 cy K L t.2 e
  | _ => False
def WOK (cy : Nat → ClassId) (K : Kp) (L : List Nat) (M : Hp) : Prop := ∀ a, a ∈ L → gd cy K L (K a) (M a)
theorem WOK.gup {cy : Nat → ClassId} {K : Kp} {L : List Nat} {M : Hp} {a t n : Nat} {e : va_E} (hW : WOK cy K L M) (ha : isk K L a t n) (h : gd cy K L (t, n) e) : WOK cy K L (va_up M a e) := fun b hb => by
  by_cases q : b = a
  · subst q
    rw [va_up_self, ha.2]
    exact h
  · rw [va_up_ne M e q]
    exact hW b hb
theorem WOK.open_0 {cy : Nat → ClassId} {K : Kp} {L : List Nat} {M : Hp} {a : Nat} (hW : WOK cy K L M) (ha : isk K L a 0 0) : gd_0 K L (M a) := by
  have h := hW a ha.1
  rw [ha.2] at h
  exact h
theorem WOK.up_0 {cy : Nat → ClassId} {K : Kp} {L : List Nat} {M : Hp} {a : Nat} {e : va_E} (hW : WOK cy K L M) (ha : isk K L a 0 0) (h : gd_0 K L e) : WOK cy K L (va_up M a e) := hW.gup ha h
theorem WOK.open_1 {cy : Nat → ClassId} {K : Kp} {L : List Nat} {M : Hp} {a : Nat} (hW : WOK cy K L M) (ha : isk K L a 1 0) : gd_1 K L (M a) := by
  have h := hW a ha.1
  rw [ha.2] at h
  exact h
theorem WOK.up_1 {cy : Nat → ClassId} {K : Kp} {L : List Nat} {M : Hp} {a : Nat} {e : va_E} (hW : WOK cy K L M) (ha : isk K L a 1 0) (h : gd_1 K L e) : WOK cy K L (va_up M a e) := hW.gup ha h
theorem WOK.open_2 {cy : Nat → ClassId} {K : Kp} {L : List Nat} {M : Hp} {a : Nat} (hW : WOK cy K L M) (ha : isk K L a 2 0) : gd_2 K L (M a) := by
  have h := hW a ha.1
  rw [ha.2] at h
  exact h
theorem WOK.up_2 {cy : Nat → ClassId} {K : Kp} {L : List Nat} {M : Hp} {a : Nat} {e : va_E} (hW : WOK cy K L M) (ha : isk K L a 2 0) (h : gd_2 K L e) : WOK cy K L (va_up M a e) := hW.gup ha h
theorem WOK.open_3 {cy : Nat → ClassId} {K : Kp} {L : List Nat} {M : Hp} {a : Nat} (hW : WOK cy K L M) (ha : isk K L a 3 0) : gd_3 K L (M a) := by
  have h := hW a ha.1
  rw [ha.2] at h
  exact h
theorem WOK.up_3 {cy : Nat → ClassId} {K : Kp} {L : List Nat} {M : Hp} {a : Nat} {e : va_E} (hW : WOK cy K L M) (ha : isk K L a 3 0) (h : gd_3 K L e) : WOK cy K L (va_up M a e) := hW.gup ha h
theorem WOK.open_4 {cy : Nat → ClassId} {K : Kp} {L : List Nat} {M : Hp} {a : Nat} (hW : WOK cy K L M) (ha : isk K L a 4 0) : gd_4 K L (M a) := by
  have h := hW a ha.1
  rw [ha.2] at h
  exact h
theorem WOK.open_5 {cy : Nat → ClassId} {K : Kp} {L : List Nat} {M : Hp} {a : Nat} (hW : WOK cy K L M) (ha : isk K L a 5 0) : gd_5 K L (M a) := by
  have h := hW a ha.1
  rw [ha.2] at h
  exact h
theorem WOK.up_5 {cy : Nat → ClassId} {K : Kp} {L : List Nat} {M : Hp} {a : Nat} {e : va_E} (hW : WOK cy K L M) (ha : isk K L a 5 0) (h : gd_5 K L e) : WOK cy K L (va_up M a e) := hW.gup ha h
theorem WOK.open_6 {cy : Nat → ClassId} {K : Kp} {L : List Nat} {M : Hp} {a : Nat} (hW : WOK cy K L M) (ha : isk K L a 6 0) : gd_6 K L (M a) := by
  have h := hW a ha.1
  rw [ha.2] at h
  exact h
theorem WOK.up_6 {cy : Nat → ClassId} {K : Kp} {L : List Nat} {M : Hp} {a : Nat} {e : va_E} (hW : WOK cy K L M) (ha : isk K L a 6 0) (h : gd_6 K L e) : WOK cy K L (va_up M a e) := hW.gup ha h
theorem WOK.open_7 {cy : Nat → ClassId} {K : Kp} {L : List Nat} {M : Hp} {a : Nat} (hW : WOK cy K L M) (ha : isk K L a 7 0) : gd_7 K L (M a) := by
  have h := hW a ha.1
  rw [ha.2] at h
  exact h
theorem WOK.up_7 {cy : Nat → ClassId} {K : Kp} {L : List Nat} {M : Hp} {a : Nat} {e : va_E} (hW : WOK cy K L M) (ha : isk K L a 7 0) (h : gd_7 K L e) : WOK cy K L (va_up M a e) := hW.gup ha h
theorem WOK.open_8 {cy : Nat → ClassId} {K : Kp} {L : List Nat} {M : Hp} {a : Nat} (hW : WOK cy K L M) (ha : isk K L a 8 0) : gd_8 K L (M a) := by
  have h := hW a ha.1
  rw [ha.2] at h
  exact h
theorem WOK.up_8 {cy : Nat → ClassId} {K : Kp} {L : List Nat} {M : Hp} {a : Nat} {e : va_E} (hW : WOK cy K L M) (ha : isk K L a 8 0) (h : gd_8 K L e) : WOK cy K L (va_up M a e) := hW.gup ha h
theorem WOK.open_9 {cy : Nat → ClassId} {K : Kp} {L : List Nat} {M : Hp} {a : Nat} (hW : WOK cy K L M) (ha : isk K L a 9 0) : gd_9 K L (M a) := by
  have h := hW a ha.1
  rw [ha.2] at h
  exact h
theorem WOK.up_9 {cy : Nat → ClassId} {K : Kp} {L : List Nat} {M : Hp} {a : Nat} {e : va_E} (hW : WOK cy K L M) (ha : isk K L a 9 0) (h : gd_9 K L e) : WOK cy K L (va_up M a e) := hW.gup ha h
theorem WOK.open_10 {cy : Nat → ClassId} {K : Kp} {L : List Nat} {M : Hp} {a : Nat} (hW : WOK cy K L M) (ha : isk K L a 10 0) : gd_10 K L (M a) := by
  have h := hW a ha.1
  rw [ha.2] at h
  exact h
theorem WOK.up_10 {cy : Nat → ClassId} {K : Kp} {L : List Nat} {M : Hp} {a : Nat} {e : va_E} (hW : WOK cy K L M) (ha : isk K L a 10 0) (h : gd_10 K L e) : WOK cy K L (va_up M a e) := hW.gup ha h
theorem WOK.open_14 {cy : Nat → ClassId} {K : Kp} {L : List Nat} {M : Hp} {a : Nat} {n : Nat} (hW : WOK cy K L M) (ha : isk K L a 14 n) : gd_14 cy K L n (M a) := by
  have h := hW a ha.1
  rw [ha.2] at h
  exact h
theorem WOK.up_14 {cy : Nat → ClassId} {K : Kp} {L : List Nat} {M : Hp} {a : Nat} {n : Nat} {e : va_E} (hW : WOK cy K L M) (ha : isk K L a 14 n) (h : gd_14 cy K L n e) : WOK cy K L (va_up M a e) := hW.gup ha h
theorem WOK.open_15 {cy : Nat → ClassId} {K : Kp} {L : List Nat} {M : Hp} {a : Nat} {n : Nat} (hW : WOK cy K L M) (ha : isk K L a 15 n) : gd_15 cy K L n (M a) := by
  have h := hW a ha.1
  rw [ha.2] at h
  exact h
theorem WOK.up_15 {cy : Nat → ClassId} {K : Kp} {L : List Nat} {M : Hp} {a : Nat} {n : Nat} {e : va_E} (hW : WOK cy K L M) (ha : isk K L a 15 n) (h : gd_15 cy K L n e) : WOK cy K L (va_up M a e) := hW.gup ha h
theorem WOK.open_17 {cy : Nat → ClassId} {K : Kp} {L : List Nat} {M : Hp} {a : Nat} {n : Nat} (hW : WOK cy K L M) (ha : isk K L a 17 n) : gd_17 cy K L n (M a) := by
  have h := hW a ha.1
  rw [ha.2] at h
  exact h
theorem WOK.up_17 {cy : Nat → ClassId} {K : Kp} {L : List Nat} {M : Hp} {a : Nat} {n : Nat} {e : va_E} (hW : WOK cy K L M) (ha : isk K L a 17 n) (h : gd_17 cy K L n e) : WOK cy K L (va_up M a e) := hW.gup ha h
theorem WOK.open_18 {cy : Nat → ClassId} {K : Kp} {L : List Nat} {M : Hp} {a : Nat} {n : Nat} (hW : WOK cy K L M) (ha : isk K L a 18 n) : gd_18 cy K L n (M a) := by
  have h := hW a ha.1
  rw [ha.2] at h
  exact h
theorem WOK.up_18 {cy : Nat → ClassId} {K : Kp} {L : List Nat} {M : Hp} {a : Nat} {n : Nat} {e : va_E} (hW : WOK cy K L M) (ha : isk K L a 18 n) (h : gd_18 cy K L n e) : WOK cy K L (va_up M a e) := hW.gup ha h
theorem WOK.open_19 {cy : Nat → ClassId} {K : Kp} {L : List Nat} {M : Hp} {a : Nat} {n : Nat} (hW : WOK cy K L M) (ha : isk K L a 19 n) : gd_19 cy K L n (M a) := by
  have h := hW a ha.1
  rw [ha.2] at h
  exact h
theorem WOK.up_19 {cy : Nat → ClassId} {K : Kp} {L : List Nat} {M : Hp} {a : Nat} {n : Nat} {e : va_E} (hW : WOK cy K L M) (ha : isk K L a 19 n) (h : gd_19 cy K L n e) : WOK cy K L (va_up M a e) := hW.gup ha h
theorem WOK.open_20 {cy : Nat → ClassId} {K : Kp} {L : List Nat} {M : Hp} {a : Nat} {n : Nat} (hW : WOK cy K L M) (ha : isk K L a 20 n) : gd_20 cy K L n (M a) := by
  have h := hW a ha.1
  rw [ha.2] at h
  exact h
theorem WOK.up_20 {cy : Nat → ClassId} {K : Kp} {L : List Nat} {M : Hp} {a : Nat} {n : Nat} {e : va_E} (hW : WOK cy K L M) (ha : isk K L a 20 n) (h : gd_20 cy K L n e) : WOK cy K L (va_up M a e) := hW.gup ha h
theorem WOK.open_21 {cy : Nat → ClassId} {K : Kp} {L : List Nat} {M : Hp} {a : Nat} {n : Nat} (hW : WOK cy K L M) (ha : isk K L a 21 n) : gd_21 cy K L n (M a) := by
  have h := hW a ha.1
  rw [ha.2] at h
  exact h
theorem WOK.up_21 {cy : Nat → ClassId} {K : Kp} {L : List Nat} {M : Hp} {a : Nat} {n : Nat} {e : va_E} (hW : WOK cy K L M) (ha : isk K L a 21 n) (h : gd_21 cy K L n e) : WOK cy K L (va_up M a e) := hW.gup ha h
theorem WOK.open_51 {cy : Nat → ClassId} {K : Kp} {L : List Nat} {M : Hp} {a : Nat} {n : Nat} (hW : WOK cy K L M) (ha : isk K L a 51 n) : gd_51 cy K L n (M a) := by
  have h := hW a ha.1
  rw [ha.2] at h
  exact h
theorem WOK.up_51 {cy : Nat → ClassId} {K : Kp} {L : List Nat} {M : Hp} {a : Nat} {n : Nat} {e : va_E} (hW : WOK cy K L M) (ha : isk K L a 51 n) (h : gd_51 cy K L n e) : WOK cy K L (va_up M a e) := hW.gup ha h
theorem WOK.open_52 {cy : Nat → ClassId} {K : Kp} {L : List Nat} {M : Hp} {a : Nat} {n : Nat} (hW : WOK cy K L M) (ha : isk K L a 52 n) : gd_52 cy K L n (M a) := by
  have h := hW a ha.1
  rw [ha.2] at h
  exact h
theorem WOK.up_52 {cy : Nat → ClassId} {K : Kp} {L : List Nat} {M : Hp} {a : Nat} {n : Nat} {e : va_E} (hW : WOK cy K L M) (ha : isk K L a 52 n) (h : gd_52 cy K L n e) : WOK cy K L (va_up M a e) := hW.gup ha h
theorem WOK.open_53 {cy : Nat → ClassId} {K : Kp} {L : List Nat} {M : Hp} {a : Nat} {n : Nat} (hW : WOK cy K L M) (ha : isk K L a 53 n) : gd_53 cy K L n (M a) := by
  have h := hW a ha.1
  rw [ha.2] at h
  exact h
theorem WOK.up_53 {cy : Nat → ClassId} {K : Kp} {L : List Nat} {M : Hp} {a : Nat} {n : Nat} {e : va_E} (hW : WOK cy K L M) (ha : isk K L a 53 n) (h : gd_53 cy K L n e) : WOK cy K L (va_up M a e) := hW.gup ha h
theorem WOK.open_54 {cy : Nat → ClassId} {K : Kp} {L : List Nat} {M : Hp} {a : Nat} {n : Nat} (hW : WOK cy K L M) (ha : isk K L a 54 n) : gd_54 cy K L n (M a) := by
  have h := hW a ha.1
  rw [ha.2] at h
  exact h
theorem WOK.up_54 {cy : Nat → ClassId} {K : Kp} {L : List Nat} {M : Hp} {a : Nat} {n : Nat} {e : va_E} (hW : WOK cy K L M) (ha : isk K L a 54 n) (h : gd_54 cy K L n e) : WOK cy K L (va_up M a e) := hW.gup ha h
theorem WOK.open_55 {cy : Nat → ClassId} {K : Kp} {L : List Nat} {M : Hp} {a : Nat} {n : Nat} (hW : WOK cy K L M) (ha : isk K L a 55 n) : gd_55 cy K L n (M a) := by
  have h := hW a ha.1
  rw [ha.2] at h
  exact h
theorem WOK.up_55 {cy : Nat → ClassId} {K : Kp} {L : List Nat} {M : Hp} {a : Nat} {n : Nat} {e : va_E} (hW : WOK cy K L M) (ha : isk K L a 55 n) (h : gd_55 cy K L n e) : WOK cy K L (va_up M a e) := hW.gup ha h
theorem WOK.open_56 {cy : Nat → ClassId} {K : Kp} {L : List Nat} {M : Hp} {a : Nat} {n : Nat} (hW : WOK cy K L M) (ha : isk K L a 56 n) : gd_56 cy K L n (M a) := by
  have h := hW a ha.1
  rw [ha.2] at h
  exact h
theorem WOK.up_56 {cy : Nat → ClassId} {K : Kp} {L : List Nat} {M : Hp} {a : Nat} {n : Nat} {e : va_E} (hW : WOK cy K L M) (ha : isk K L a 56 n) (h : gd_56 cy K L n e) : WOK cy K L (va_up M a e) := hW.gup ha h
theorem WOK.open_57 {cy : Nat → ClassId} {K : Kp} {L : List Nat} {M : Hp} {a : Nat} {n : Nat} (hW : WOK cy K L M) (ha : isk K L a 57 n) : gd_57 cy K L n (M a) := by
  have h := hW a ha.1
  rw [ha.2] at h
  exact h
theorem WOK.up_57 {cy : Nat → ClassId} {K : Kp} {L : List Nat} {M : Hp} {a : Nat} {n : Nat} {e : va_E} (hW : WOK cy K L M) (ha : isk K L a 57 n) (h : gd_57 cy K L n e) : WOK cy K L (va_up M a e) := hW.gup ha h
theorem WOK.open_58 {cy : Nat → ClassId} {K : Kp} {L : List Nat} {M : Hp} {a : Nat} {n : Nat} (hW : WOK cy K L M) (ha : isk K L a 58 n) : gd_58 cy K L n (M a) := by
  have h := hW a ha.1
  rw [ha.2] at h
  exact h
theorem WOK.up_58 {cy : Nat → ClassId} {K : Kp} {L : List Nat} {M : Hp} {a : Nat} {n : Nat} {e : va_E} (hW : WOK cy K L M) (ha : isk K L a 58 n) (h : gd_58 cy K L n e) : WOK cy K L (va_up M a e) := hW.gup ha h
theorem WOK.open_59 {cy : Nat → ClassId} {K : Kp} {L : List Nat} {M : Hp} {a : Nat} {n : Nat} (hW : WOK cy K L M) (ha : isk K L a 59 n) : gd_59 cy K L n (M a) := by
  have h := hW a ha.1
  rw [ha.2] at h
  exact h
theorem WOK.up_59 {cy : Nat → ClassId} {K : Kp} {L : List Nat} {M : Hp} {a : Nat} {n : Nat} {e : va_E} (hW : WOK cy K L M) (ha : isk K L a 59 n) (h : gd_59 cy K L n e) : WOK cy K L (va_up M a e) := hW.gup ha h
theorem WOK.open_60 {cy : Nat → ClassId} {K : Kp} {L : List Nat} {M : Hp} {a : Nat} {n : Nat} (hW : WOK cy K L M) (ha : isk K L a 60 n) : gd_60 cy K L n (M a) := by
  have h := hW a ha.1
  rw [ha.2] at h
  exact h
theorem WOK.up_60 {cy : Nat → ClassId} {K : Kp} {L : List Nat} {M : Hp} {a : Nat} {n : Nat} {e : va_E} (hW : WOK cy K L M) (ha : isk K L a 60 n) (h : gd_60 cy K L n e) : WOK cy K L (va_up M a e) := hW.gup ha h
theorem WOK.open_61 {cy : Nat → ClassId} {K : Kp} {L : List Nat} {M : Hp} {a : Nat} {n : Nat} (hW : WOK cy K L M) (ha : isk K L a 61 n) : gd_61 cy K L n (M a) := by
  have h := hW a ha.1
  rw [ha.2] at h
  exact h
theorem WOK.up_61 {cy : Nat → ClassId} {K : Kp} {L : List Nat} {M : Hp} {a : Nat} {n : Nat} {e : va_E} (hW : WOK cy K L M) (ha : isk K L a 61 n) (h : gd_61 cy K L n e) : WOK cy K L (va_up M a e) := hW.gup ha h
theorem WOK.open_62 {cy : Nat → ClassId} {K : Kp} {L : List Nat} {M : Hp} {a : Nat} {n : Nat} (hW : WOK cy K L M) (ha : isk K L a 62 n) : gd_62 cy K L n (M a) := by
  have h := hW a ha.1
  rw [ha.2] at h
  exact h
theorem WOK.up_62 {cy : Nat → ClassId} {K : Kp} {L : List Nat} {M : Hp} {a : Nat} {n : Nat} {e : va_E} (hW : WOK cy K L M) (ha : isk K L a 62 n) (h : gd_62 cy K L n e) : WOK cy K L (va_up M a e) := hW.gup ha h
theorem WOK.open_63 {cy : Nat → ClassId} {K : Kp} {L : List Nat} {M : Hp} {a : Nat} {n : Nat} (hW : WOK cy K L M) (ha : isk K L a 63 n) : gd_63 cy K L n (M a) := by
  have h := hW a ha.1
  rw [ha.2] at h
  exact h
theorem WOK.up_63 {cy : Nat → ClassId} {K : Kp} {L : List Nat} {M : Hp} {a : Nat} {n : Nat} {e : va_E} (hW : WOK cy K L M) (ha : isk K L a 63 n) (h : gd_63 cy K L n e) : WOK cy K L (va_up M a e) := hW.gup ha h
theorem WOK.open_64 {cy : Nat → ClassId} {K : Kp} {L : List Nat} {M : Hp} {a : Nat} {n : Nat} (hW : WOK cy K L M) (ha : isk K L a 64 n) : gd_64 cy K L n (M a) := by
  have h := hW a ha.1
  rw [ha.2] at h
  exact h
theorem WOK.up_64 {cy : Nat → ClassId} {K : Kp} {L : List Nat} {M : Hp} {a : Nat} {n : Nat} {e : va_E} (hW : WOK cy K L M) (ha : isk K L a 64 n) (h : gd_64 cy K L n e) : WOK cy K L (va_up M a e) := hW.gup ha h
theorem WOK.open_65 {cy : Nat → ClassId} {K : Kp} {L : List Nat} {M : Hp} {a : Nat} {n : Nat} (hW : WOK cy K L M) (ha : isk K L a 65 n) : gd_65 cy K L n (M a) := by
  have h := hW a ha.1
  rw [ha.2] at h
  exact h
theorem WOK.up_65 {cy : Nat → ClassId} {K : Kp} {L : List Nat} {M : Hp} {a : Nat} {n : Nat} {e : va_E} (hW : WOK cy K L M) (ha : isk K L a 65 n) (h : gd_65 cy K L n e) : WOK cy K L (va_up M a e) := hW.gup ha h
theorem WOK.open_66 {cy : Nat → ClassId} {K : Kp} {L : List Nat} {M : Hp} {a : Nat} {n : Nat} (hW : WOK cy K L M) (ha : isk K L a 66 n) : gd_66 cy K L n (M a) := by
  have h := hW a ha.1
  rw [ha.2] at h
  exact h
theorem WOK.up_66 {cy : Nat → ClassId} {K : Kp} {L : List Nat} {M : Hp} {a : Nat} {n : Nat} {e : va_E} (hW : WOK cy K L M) (ha : isk K L a 66 n) (h : gd_66 cy K L n e) : WOK cy K L (va_up M a e) := hW.gup ha h
theorem WOK.open_67 {cy : Nat → ClassId} {K : Kp} {L : List Nat} {M : Hp} {a : Nat} {n : Nat} (hW : WOK cy K L M) (ha : isk K L a 67 n) : gd_67 cy K L n (M a) := by
  have h := hW a ha.1
  rw [ha.2] at h
  exact h
theorem WOK.up_67 {cy : Nat → ClassId} {K : Kp} {L : List Nat} {M : Hp} {a : Nat} {n : Nat} {e : va_E} (hW : WOK cy K L M) (ha : isk K L a 67 n) (h : gd_67 cy K L n e) : WOK cy K L (va_up M a e) := hW.gup ha h
theorem WOK.open_68 {cy : Nat → ClassId} {K : Kp} {L : List Nat} {M : Hp} {a : Nat} {n : Nat} (hW : WOK cy K L M) (ha : isk K L a 68 n) : gd_68 cy K L n (M a) := by
  have h := hW a ha.1
  rw [ha.2] at h
  exact h
theorem WOK.up_68 {cy : Nat → ClassId} {K : Kp} {L : List Nat} {M : Hp} {a : Nat} {n : Nat} {e : va_E} (hW : WOK cy K L M) (ha : isk K L a 68 n) (h : gd_68 cy K L n e) : WOK cy K L (va_up M a e) := hW.gup ha h
theorem WOK.open_69 {cy : Nat → ClassId} {K : Kp} {L : List Nat} {M : Hp} {a : Nat} {n : Nat} (hW : WOK cy K L M) (ha : isk K L a 69 n) : gd_69 cy K L n (M a) := by
  have h := hW a ha.1
  rw [ha.2] at h
  exact h
theorem WOK.up_69 {cy : Nat → ClassId} {K : Kp} {L : List Nat} {M : Hp} {a : Nat} {n : Nat} {e : va_E} (hW : WOK cy K L M) (ha : isk K L a 69 n) (h : gd_69 cy K L n e) : WOK cy K L (va_up M a e) := hW.gup ha h
theorem WOK.open_70 {cy : Nat → ClassId} {K : Kp} {L : List Nat} {M : Hp} {a : Nat} {n : Nat} (hW : WOK cy K L M) (ha : isk K L a 70 n) : gd_70 cy K L n (M a) := by
  have h := hW a ha.1
  rw [ha.2] at h
  exact h
theorem WOK.up_70 {cy : Nat → ClassId} {K : Kp} {L : List Nat} {M : Hp} {a : Nat} {n : Nat} {e : va_E} (hW : WOK cy K L M) (ha : isk K L a 70 n) (h : gd_70 cy K L n e) : WOK cy K L (va_up M a e) := hW.gup ha h
theorem WOK.open_71 {cy : Nat → ClassId} {K : Kp} {L : List Nat} {M : Hp} {a : Nat} {n : Nat} (hW : WOK cy K L M) (ha : isk K L a 71 n) : gd_71 cy K L n (M a) := by
  have h := hW a ha.1
  rw [ha.2] at h
  exact h
theorem WOK.up_71 {cy : Nat → ClassId} {K : Kp} {L : List Nat} {M : Hp} {a : Nat} {n : Nat} {e : va_E} (hW : WOK cy K L M) (ha : isk K L a 71 n) (h : gd_71 cy K L n e) : WOK cy K L (va_up M a e) := hW.gup ha h
theorem WOK.open_72 {cy : Nat → ClassId} {K : Kp} {L : List Nat} {M : Hp} {a : Nat} {n : Nat} (hW : WOK cy K L M) (ha : isk K L a 72 n) : gd_72 cy K L n (M a) := by
  have h := hW a ha.1
  rw [ha.2] at h
  exact h
theorem WOK.up_72 {cy : Nat → ClassId} {K : Kp} {L : List Nat} {M : Hp} {a : Nat} {n : Nat} {e : va_E} (hW : WOK cy K L M) (ha : isk K L a 72 n) (h : gd_72 cy K L n e) : WOK cy K L (va_up M a e) := hW.gup ha h
theorem WOK.open_73 {cy : Nat → ClassId} {K : Kp} {L : List Nat} {M : Hp} {a : Nat} {n : Nat} (hW : WOK cy K L M) (ha : isk K L a 73 n) : gd_73 cy K L n (M a) := by
  have h := hW a ha.1
  rw [ha.2] at h
  exact h
theorem WOK.up_73 {cy : Nat → ClassId} {K : Kp} {L : List Nat} {M : Hp} {a : Nat} {n : Nat} {e : va_E} (hW : WOK cy K L M) (ha : isk K L a 73 n) (h : gd_73 cy K L n e) : WOK cy K L (va_up M a e) := hW.gup ha h
theorem gd.ext {cy : Nat → ClassId} {K K' : Kp} {L L' : List Nat} (x : ext K L K' L') : ∀ (t : Nat × Nat) (e : va_E), gd cy K L t e → gd cy K' L' t e := fun t e h => by
  obtain ⟨t, n⟩ := t
  match t, h with
  | 0, h => obtain ⟨v0, v1, v2, v3, v4, h, h0, h1, h2, h3⟩ := h; exact ⟨v0, v1, v2, v3, v4, h, h0.ext x, h1.ext x, h2.ext x, h3⟩
  | 1, h => obtain ⟨n_, v0, v1, v2, v3, h, h0, h1, h2, h3, y0⟩ := h; exact ⟨n_, v0, v1, v2, v3, h, h0.ext x, h1.ext x, h2.ext x, h3, y0⟩
  | 2, h => obtain ⟨v0, v1, v2, v3, v4, v5, v6, v7, v8, v9, v10, v11, v12, v13, v14, v15, v16, v17, v18, v19, h, h3, h4, h5, h6, h7, h8, h9, h10, h11, h12, h13, h16, h17, h18, h19⟩ := h; exact ⟨v0, v1, v2, v3, v4, v5, v6, v7, v8, v9, v10, v11, v12, v13, v14, v15, v16, v17, v18, v19, h, h3.ext x, h4, h5, h6.ext x, h7.ext x, h8.ext x, h9, h10.ext x, h11, h12.ext x, h13.ext x, h16.ext x, h17.ext x, h18.ext x, h19.ext x⟩
  | 3, h => obtain ⟨n_, v0, v1, v2, h, h1, h2, y0⟩ := h; exact ⟨n_, v0, v1, v2, h, h1.ext x, h2, y0⟩
  | 4, h => obtain ⟨v0, v1, v2, v3, h, h3⟩ := h; exact ⟨v0, v1, v2, v3, h, h3.ext x⟩
  | 5, h => obtain ⟨v0, v1, v2, h, h0, h1⟩ := h; exact ⟨v0, v1, v2, h, h0.ext x, h1.ext x⟩
  | 6, h => obtain ⟨v0, v1, v2, h, h2⟩ := h; exact ⟨v0, v1, v2, h, h2.ext x⟩
  | 7, h => obtain ⟨v0, v1, v2, v3, v4, v5, h, h0, h1, h2, h3, h4, h5⟩ := h; exact ⟨v0, v1, v2, v3, v4, v5, h, h0.ext x, h1.ext x, h2.ext x, h3.ext x, h4.ext x, h5⟩
  | 8, h => obtain ⟨v0, v1, v2, v3, v4, v5, h, h0, h1⟩ := h; exact ⟨v0, v1, v2, v3, v4, v5, h, h0.ext x, h1.ext x⟩
  | 9, h => obtain ⟨v0, v1, v2, v3, v4, v5, v6, v7, v8, v9, v10, v11, v12, v13, v14, v15, h, h0, h1, h4, h8⟩ := h; exact ⟨v0, v1, v2, v3, v4, v5, v6, v7, v8, v9, v10, v11, v12, v13, v14, v15, h, h0, h1.ext x, h4, h8.ext x⟩
  | 10, h => obtain ⟨v0, v1, v2, h, h0⟩ := h; exact ⟨v0, v1, v2, h, h0.ext x⟩
  | 14, h => exact h
  | 15, h => exact h
  | 17, h => obtain ⟨f, h0, h1⟩ := h; exact ⟨f, h0, fun j q => (h1 j q).ext x⟩
  | 18, h => obtain ⟨f, h0, h1⟩ := h; exact ⟨f, h0, fun j q => (h1 j q).ext x⟩
  | 19, h => obtain ⟨f, h0, h1⟩ := h; exact ⟨f, h0, fun j q => (h1 j q).ext x⟩
  | 20, h => obtain ⟨f, h0, h1⟩ := h; exact ⟨f, h0, fun j q => (h1 j q).ext x⟩
  | 21, h => obtain ⟨f, h0, h1⟩ := h; exact ⟨f, h0, fun j q => (h1 j q).ext x⟩
  | 51, h => exact h
  | 52, h => exact h
  | 53, h => exact h
  | 54, h => exact h
  | 55, h => exact h
  | 56, h => exact h
  | 57, h => exact h
  | 58, h => exact h
  | 59, h => exact h
  | 60, h => exact h
  | 61, h => obtain ⟨f, h0, h1⟩ := h; exact ⟨f, h0, fun j q => (h1 j q).ext x⟩
  | 62, h => obtain ⟨f, h0, h1⟩ := h; exact ⟨f, h0, fun j q => (h1 j q).ext x⟩
  | 63, h => obtain ⟨f, h0, h1⟩ := h; exact ⟨f, h0, fun j q => (h1 j q).ext x⟩
  | 64, h => obtain ⟨f, h0, h1⟩ := h; exact ⟨f, h0, fun j q => (h1 j q).ext x⟩
  | 65, h => obtain ⟨f, h0, h1⟩ := h; exact ⟨f, h0, fun j q => (h1 j q).ext x⟩
  | 66, h => exact h
  | 67, h => exact h
  | 68, h => exact h
  | 69, h => exact h
  | 70, h => exact h
  | 71, h => exact h
  | 72, h => exact h
  | 73, h => exact h
theorem WOK.push {cy : Nat → ClassId} {K : Kp} {L : List Nat} {M : Hp} {q : Nat} {e : va_E} (t n : Nat) (hW : WOK cy K L M) (hq : q ∉ L) (h : gd cy (va_up K q (t, n)) (L ++ [q]) (t, n) e) : WOK cy (va_up K q (t, n)) (L ++ [q]) (va_up M q e) := fun b hb => by
  by_cases z : b = q
  · subst z
    rw [va_up_self, va_up_self]
    exact h
  · rw [va_up_ne M e z, va_up_ne K (t, n) z]
    rcases List.mem_append.mp hb with hb | hb
    · exact gd.ext (ext.push (t, n) hq) _ _ (hW b hb)
    · exact absurd (List.mem_singleton.mp hb) z
theorem isk.new {K : Kp} {L : List Nat} {q : Nat} (t n : Nat) : isk (va_up K q (t, n)) (L ++ [q]) q t n := ⟨List.mem_append_right _ (List.mem_singleton.mpr rfl), va_up_self K q (t, n)⟩
/-- nothing of the kinds outside ts has changed -/
def fr (K : Kp) (L : List Nat) (ts : List Nat) (M M' : Hp) : Prop := ∀ b, b ∈ L → (K b).1 ∉ ts → M' b = M b
theorem fr.rf {K : Kp} {L : List Nat} {ts : List Nat} {M : Hp} : fr K L ts M M := fun _ _ _ => rfl
theorem fr.tr {K : Kp} {L : List Nat} {ts us : List Nat} {M M' M'' : Hp} (h : fr K L ts M M') (g : fr K L us M' M'') (hs : ∀ t ∈ us, t ∈ ts) : fr K L ts M M'' := fun b hb hn => (g b hb (fun q => hn (hs _ q))).trans (h b hb hn)
theorem fr.up {K : Kp} {L : List Nat} {ts : List Nat} {M M' : Hp} {a t n : Nat} {e : va_E} (h : fr K L ts M M') (ha : isk K L a t n) (ht : t ∈ ts) : fr K L ts M (va_up M' a e) := fun b hb hn => by
  by_cases q : b = a
  · subst q
    exact absurd (by rw [ha.2]; exact ht) hn
  · rw [va_up_ne M' e q]
    exact h b hb hn
theorem fr.at {K : Kp} {L : List Nat} {ts : List Nat} {M M' : Hp} {b t n : Nat} (h : fr K L ts M M') (hb : isk K L b t n) (ht : t ∉ ts) : M' b = M b := h b hb.1 (by rw [hb.2]; exact ht)
def tysC (cy : Nat → ClassId) : List (ClassId × FieldType) := [(cy 14, .int), (cy 15, .long), (cy 16, .boolean), (cy 17, .object RX2), (cy 18, .object RX3), (cy 19, .object RX4), (cy 20, .object RX6), (cy 21, .object RX8), (cy 22, .object RX9), (cy 23, .object RX12)]
/-- a contract's start over explicit cells E and the pool -/
def PG (D : va_G) (cy : Nat → ClassId) (E : va_W) (L : List Nat) (M : Hp) (sz : Nat) (U : State) : Prop := U.heap.size = sz ∧ va_P D vwCl (E ++ va_pl L M) U.heap ∧ va_K D vwCl (tysC cy) U ∧ va_D (fun _ => True) (E ++ va_pl L M) ∧ NW U
def PQ (D : va_G) (E : va_W) (L : List Nat) (M : Hp) (A : Nat → Prop) (t : State) : Prop := va_P D vwCl (E ++ va_pl L M) t.heap ∧ va_D A (E ++ va_pl L M)
theorem PG.calling {D : va_G} {cy : Nat → ClassId} {E : va_W} {L : List Nat} {M : Hp} {sz : Nat} {U : State} (g : JFrame) (mk : MethodId) (a : Array Value) (h : PG D cy E L M sz U) : PG D cy E L M sz (U.calling g mk a) := ⟨h.1, h.2.1, va_K.moved (u := U) (U := U.calling g mk a) (Vm.Alike.refl U.vm) h.2.2.1, h.2.2.2.1, NW.same (s := U) rfl h.2.2.2.2⟩
theorem PG.at {D : va_G} {cy : Nat → ClassId} {E : va_W} {L : List Nat} {M : Hp} {s U : State} {H : Heap} {A : Nat → Prop} (hP : va_P D vwCl (E ++ va_pl L M) H) (hK : va_K D vwCl (tysC cy) s) (hD : va_D A (E ++ va_pl L M)) (hN : NW s) (hU : U.heap = H) (hW : s.WarmedH U.vm) : PG D cy E L M H.size U := ⟨by rw [hU], by rw [hU]; exact hP, va_K.moved hW.alike hK, hD.weaken (fun _ _ _ _ => trivial), NW.warm hW hN⟩
theorem PG.blind {D : va_G} {cy : Nat → ClassId} {E : va_W} {L : List Nat} {M : Hp} {sz : Nat} {av : List Value} : FrameBlind (va_Pc av (PG D cy E L M sz)) := fun a U g mk q => ⟨q.1, q.2.calling g mk a⟩
theorem va_D.mono {A B : Nat → Prop} {ws : va_W} (h : va_D A ws) (f : ∀ q, A q → B q) : va_D B ws := ⟨h.1, fun k q e => f _ (h.2 k q e)⟩
/-- ints that are naturals -/
theorem iLT {a b : Nat} (ha : a < 2147483648) (hb : b < 2147483648) : nI a < nI b ↔ a < b := ⟨fun h => Nat.lt_of_not_le fun q => absurd h (Int32.not_lt.mpr (nI_le q ha)), fun h => nI_lt h hb⟩
theorem iLE {a b : Nat} (ha : a < 2147483648) (hb : b < 2147483648) : nI a ≤ nI b ↔ a ≤ b := ⟨fun h => Nat.le_of_not_lt fun q => absurd h (Int32.not_le.mpr (nI_lt q ha)), fun h => nI_le h hb⟩
theorem iEQ {a b : Nat} (ha : a < 2147483648) (hb : b < 2147483648) : nI a = nI b ↔ a = b := ⟨fun h => Nat.le_antisymm ((iLE ha hb).mp (Int32.le_of_eq h)) ((iLE hb ha).mp (Int32.le_of_eq h.symm)), fun h => by rw [h]⟩
theorem nI_mul (a b : Nat) : nI a * nI b = nI (a * b) := (Int32.ofNat_mul a b).symm
theorem nI_prd {a : Nat} (h : 1 ≤ a) : nI a - 1 = nI (a - 1) := by
  obtain ⟨b, rfl⟩ : ∃ b, a = b + 1 := ⟨a - 1, by omega⟩
  exact nI_pred b
theorem vp_lt {i : Int32} {n : Nat} (h : vp_in i n) : i.toNatClampNeg < n := Nat.not_le.mp fun q => h (Or.inr q)
theorem upN {K : Kp} {L : List Nat} {n t i v : Nat} {f : Nat → Option Nat} (hf : ∀ j, j < n → iskN K L (f j) t 0) (hv : isk K L v t 0) : ∀ j, j < n → iskN K L (va_up f i (some v) j) t 0 := fun j hj => by
  by_cases q : j = i
  · subst q
    rw [va_up_self]
    exact iskN.some hv
  · rw [va_up_ne f (some v) q]
    exact hf j hj
theorem upN0 {K : Kp} {L : List Nat} {n t i : Nat} {f : Nat → Option Nat} (hf : ∀ j, j < n → iskN K L (f j) t 0) : ∀ j, j < n → iskN K L (va_up f i none j) t 0 := fun j hj => by
  by_cases q : j = i
  · subst q
    rw [va_up_self]
    exact iskN.none
  · rw [va_up_ne f none q]
    exact hf j hj
theorem up_same {M : Hp} {a b ci j : Nat} {fa fb : List Value} {v : Value} (ha : M a = .inr (ci, fa)) (hb : M b = .inr (ci, fb)) : va_up M a (.inr (ci, fa.set j v)) b = .inr (ci, fb.set j v) ∨ va_up M a (.inr (ci, fa.set j v)) b = .inr (ci, fb) := by
  by_cases q : b = a
  · subst q
    have e : fa = fb := by
      have := ha.symm.trans hb
      simpa using this
    subst e
    exact Or.inl (va_up_self _ _ _)
  · exact Or.inr ((va_up_ne _ _ q).trans hb)
theorem isk.neT {K : Kp} {L : List Nat} {a b t n t' n' : Nat} (ha : isk K L a t n) (hb : isk K L b t' n') (h : t ≠ t') : a ≠ b := ha.ne hb (fun e => h (congrArg Prod.fst e))
theorem cls_eq {D : va_G} {cl : List vw_C} {tys : List (ClassId × FieldType)} {s : State} (hK : va_K D cl tys s) (i j : Nat) {c1 c2 : ClassId} {ty : FieldType} (h1 : tys[i]? = some (c1, ty)) (h2 : tys[j]? = some (c2, ty)) : c1 = c2 := by
  have a1 := (hK.2 i _ h1).2
  have a2 := (hK.2 j _ h2).2
  cases ty with
  | object C =>
    obtain ⟨_, _, _, _, _, q1⟩ := a1
    obtain ⟨_, _, _, _, _, q2⟩ := a2
    exact Option.some.inj (q1.symm.trans q2)
  | _ => exact Option.some.inj (Eq.trans (Eq.symm a1) a2)
theorem i32nat {x : Int32} (n : Nat) (hn : n < 2147483648) (h0 : ¬ x < 0) (h1 : ¬ nI n ≤ x) : ∃ j : Nat, j < n ∧ x = nI j := by
  obtain ⟨j, hj, hx, _⟩ := pk_mu h0 h1 hn
  exact ⟨j, hj, hx⟩
theorem inb (x : Int32) (n : Nat) (hn : n < 2147483648) (h0 : ¬ x < 0) (h1 : ¬ nI n ≤ x) : vp_in x n := by
  obtain ⟨j, hj, _, _, hc, _⟩ := pk_mu h0 h1 hn
  intro q
  rcases q with q | q
  · exact h0 q
  · omega
theorem inbL (x : Int32) (n : Nat) (hn : n < 2147483648) (h0 : ¬ x < 0) (h1 : x < nI n) : vp_in x n := inb x n hn h0 (Int32.not_le.mpr h1)
theorem inbW {x : Int32} {a n : Nat} (h : a ≤ n) (q : vp_in x a) : vp_in x n := fun z => q (z.elim Or.inl (fun w => Or.inr (Nat.le_trans h w)))
theorem inbE (x : Int32) (b n : Nat) (hb : b < 2147483648) (h : b + 1 ≤ n) (h0 : ¬ x < 0) (h1 : x ≤ nI b) : vp_in x n := by
  intro q
  rcases q with q | q
  · exact h0 q
  · have h2 : x.toInt ≤ (b : Int) := by
      have := Int32.le_iff_toInt_le.mp h1
      rwa [nI_toInt hb] at this
    have h3 : (x.toNatClampNeg : Int) = x.toInt := by
      have := Int32.not_lt.mp h0
      rw [Int32.le_iff_toInt_le] at this
      show ((x.toInt.toNat : Nat) : Int) = x.toInt
      exact Int.toNat_of_nonneg this
    omega
theorem nI_ne_m1 {a : Nat} (h : a < 2147483648) : ¬ nI a = (-1) := fun e => nI_pos h (by rw [e]; decide)
theorem lc_gtt {x y : Int64} (h : 0 < lg_cmp x y) : y < x := (lg_cmp_gt x y).mp h
theorem lc_gtf {x y : Int64} (h : ¬ 0 < lg_cmp x y) : ¬ y < x := fun q => h ((lg_cmp_gt x y).mpr q)
theorem lc_let {x y : Int64} (h : lg_cmp x y ≤ 0) : x ≤ y := (lg_cmp_le x y).mp h
theorem lc_lef {x y : Int64} (h : ¬ lg_cmp x y ≤ 0) : ¬ x ≤ y := fun q => h ((lg_cmp_le x y).mpr q)
theorem i2l_nz {x : Int32} {f : Int64} (e : f = x.toInt64) (h : ¬ x ≤ 0) : ¬ f = 0 := fun q => h (by
  have h1 : x.toInt64.toInt = 0 := by rw [← e, q]; rfl
  rw [Int32.toInt_toInt64] at h1
  rw [Int32.le_iff_toInt_le, h1]
  decide)
theorem rem60 (x : Int32) : (x - x / 60 * 60).toInt = x.toInt.tmod 60 := by
  have hb1 : -2147483648 ≤ x.toInt := Int32.le_toInt x
  have hb2 : x.toInt < 2147483648 := Int32.toInt_lt x
  have h60 : (60 : Int32).toInt = 60 := rfl
  have hq : x.toInt.tdiv 60 * 60 + x.toInt.tmod 60 = x.toInt := Int.tdiv_mul_add_tmod x.toInt 60
  have hm1 : x.toInt.tmod 60 < 60 := Int.tmod_lt_of_pos _ (by decide)
  have hm2 : -60 < x.toInt.tmod 60 := by
    have := Int.lt_tmod_of_pos x.toInt (b := 60) (by decide)
    omega
  have hp : 0 ≤ x.toInt → 0 ≤ x.toInt.tmod 60 := fun q => Int.tmod_nonneg 60 q
  have hn : x.toInt ≤ 0 → x.toInt.tmod 60 ≤ 0 := fun q => by
    have h3 : 0 ≤ (-x.toInt).tmod 60 := Int.tmod_nonneg 60 (by omega)
    rw [Int.neg_tmod] at h3
    omega
  have hd : (x / 60).toInt = x.toInt.tdiv 60 := by
    rw [Int32.toInt_div, h60]
    apply Int.bmod_eq_of_le <;> omega
  have hmu : (x / 60 * 60).toInt = x.toInt.tdiv 60 * 60 := by
    rw [Int32.toInt_mul, hd, h60]
    apply Int.bmod_eq_of_le <;> omega
  have hs : (x - x / 60 * 60).toInt = x.toInt - x.toInt.tdiv 60 * 60 := by
    rw [Int32.toInt_sub, hmu]
    apply Int.bmod_eq_of_le <;> omega
  omega
theorem i32_of {m : Int32} {a : Nat} (h : m.toInt = (a : Int)) (ha : a < 2147483648) : m = nI a := by
  apply Int32.toInt.inj
  rw [nI_toInt ha]
  exact h
theorem xs60 (x : Int32) : 0 ≤ x ^^^ 60 ↔ 0 ≤ x.toInt := by
  rw [Int32.le_iff_toInt_le]
  have h : (x ^^^ 60).toBitVec.msb = x.toBitVec.msb := by
    rw [Int32.toBitVec_xor, BitVec.msb_xor]
    rw [show (60 : Int32).toBitVec.msb = false from by decide, Bool.xor_false]
  rw [BitVec.msb_eq_toInt, BitVec.msb_eq_toInt, decide_eq_decide] at h
  show 0 ≤ (x ^^^ 60).toBitVec.toInt ↔ 0 ≤ x.toBitVec.toInt
  omega
theorem inbN (j n : Nat) (h : j < n) (hn : n < 2147483648) : vp_in (nI j) n := vp_in_nI h hn
/-- of the objects of kind t only the fields js may have changed -/
def fT (t : Nat) (K : Kp) (L js : List Nat) (M M' : Hp) : Prop := ∀ a, isk K L a t 0 → ∀ fs : List Value, M a = .inr (t, fs) → ∃ fs' : List Value, M' a = .inr (t, fs') ∧ ∀ j, j ∉ js → fs'[j]? = fs[j]?
theorem fT.rf {t : Nat} {K : Kp} {L js : List Nat} {M : Hp} : fT t K L js M M := fun _ _ fs h => ⟨fs, h, fun _ _ => rfl⟩
theorem fT.tr {t : Nat} {K : Kp} {L js us : List Nat} {M M1 M2 : Hp} (h : fT t K L js M M1) (g : fT t K L us M1 M2) (hs : ∀ j ∈ us, j ∈ js) : fT t K L js M M2 := fun a ha fs e => by
  obtain ⟨f1, e1, g1⟩ := h a ha fs e
  obtain ⟨f2, e2, g2⟩ := g a ha f1 e1
  exact ⟨f2, e2, fun j hj => (g2 j (fun q => hj (hs j q))).trans (g1 j hj)⟩
theorem fT.frr {t : Nat} {K : Kp} {L js ts : List Nat} {M M1 M2 : Hp} (h : fT t K L js M M1) (g : fr K L ts M1 M2) (ht : t ∉ ts) : fT t K L js M M2 := fun a ha fs e => by
  obtain ⟨f1, e1, g1⟩ := h a ha fs e
  exact ⟨f1, (g.at ha ht).trans e1, g1⟩
theorem fT.up {t : Nat} {K : Kp} {L js : List Nat} {M M1 : Hp} {a i : Nat} {gs gs' : List Value} {v : Value} (h : fT t K L js M M1) (hM : M1 a = .inr (t, gs)) (e : gs' = gs.set i v) (hi : i ∈ js) : fT t K L js M (va_up M1 a (.inr (t, gs'))) := fun b hb fs q => by
  obtain ⟨f1, e1, g1⟩ := h b hb fs q
  by_cases z : b = a
  · subst z
    have e2 : gs = f1 := (Prod.mk.inj (Sum.inr.inj (hM.symm.trans e1))).2
    refine ⟨gs', va_up_self _ _ _, fun j hj => ?_⟩
    rw [e, List.getElem?_set_ne (show i ≠ j from fun y => hj (y ▸ hi)), e2]
    exact g1 j hj
  · exact ⟨f1, (va_up_ne _ _ z).trans e1, g1⟩
theorem fT.ne {t : Nat} {K : Kp} {L js : List Nat} {M M1 : Hp} {a t' n : Nat} {e : va_E} (h : fT t K L js M M1) (ha : isk K L a t' n) (ht : t' ≠ t) : fT t K L js M (va_up M1 a e) := fun b hb fs q => by
  obtain ⟨f1, e1, g1⟩ := h b hb fs q
  exact ⟨f1, (va_up_ne _ _ (hb.neT ha (fun y => ht y.symm))).trans e1, g1⟩
theorem fT.neX {t : Nat} {K0 K : Kp} {L0 L js : List Nat} {M0 M : Hp} {a t' n : Nat} {e : va_E} (h : fT t K0 L0 js M0 M) (x : ext K0 L0 K L) (ha : isk K L a t' n) (ht : t' ≠ t) : fT t K0 L0 js M0 (va_up M a e) := fun b hb fs q => by
  obtain ⟨f1, e1, g1⟩ := h b hb fs q
  exact ⟨f1, (va_up_ne _ _ ((hb.ext x).neT ha (fun y => ht y.symm))).trans e1, g1⟩
theorem fT.adX {t : Nat} {K0 K : Kp} {L0 L js : List Nat} {M0 M M' : Hp} (h : fT t K0 L0 js M0 M) (x : ext K0 L0 K L) (g : ∀ b, b ∈ L → M' b = M b) : fT t K0 L0 js M0 M' := fun b hb fs q => by
  obtain ⟨f1, e1, g1⟩ := h b hb fs q
  exact ⟨f1, (g b (x b hb.1).1).trans e1, g1⟩
theorem fT.trX {t : Nat} {K0 K : Kp} {L0 L js us : List Nat} {M0 M M' : Hp} (h : fT t K0 L0 js M0 M) (x : ext K0 L0 K L) (g : fT t K L us M M') (hs : ∀ j ∈ us, j ∈ js) : fT t K0 L0 js M0 M' := fun b hb fs q => by
  obtain ⟨f1, e1, g1⟩ := h b hb fs q
  obtain ⟨f2, e2, g2⟩ := g b (hb.ext x) f1 e1
  exact ⟨f2, e2, fun j hj => (g2 j (fun z => hj (hs j z))).trans (g1 j hj)⟩
theorem fT.frrX {t : Nat} {K0 K : Kp} {L0 L js ts : List Nat} {M0 M M' : Hp} (h : fT t K0 L0 js M0 M) (x : ext K0 L0 K L) (g : fr K L ts M M') (ht : t ∉ ts) : fT t K0 L0 js M0 M' := fun b hb fs q => by
  obtain ⟨f1, e1, g1⟩ := h b hb fs q
  exact ⟨f1, (g.at (hb.ext x) ht).trans e1, g1⟩
section POOL
variable {p : Program} {l : Launch} {e : Env} {R : Room} {s : State} {m : MethodId} {args : Array Value} {below : List Frame} {meth : Method} {c : Code} {H : Heap} {locs : List Loc} {cells slots : Nat} {Q : State → Prop}
variable {cc : ByteArray} {pc : Nat} {ls : Array Slot} {rest : List Value} {D : va_G} {A : Nat → Prop} {a : Nat} {tys : List (ClassId × FieldType)} {E : va_W} {L : List Nat} {M : Hp} {H0 : Heap}
theorem W.nameQ {g : JFrame} (h : ∀ Q' : State → Prop, Q' = Q → W p l e R s m args below meth c H locs cells slots Q' g) : W p l e R s m args below meth c H locs cells slots Q g := h Q rfl
theorem W.nameR {g : JFrame} (h : ∀ R' : Room, R' = R → W p l e R' s m args below meth c H locs cells slots Q g) : W p l e R s m args below meth c H locs cells slots Q g := h R rfl
theorem pg_get (hexec : p.tables.exec = Jvm.exec) (hb : c.code = cc) {own ref C : String} {T : u_T} {N ci index : Nat} {Ts : List Cond} (hts : ∀ w ∈ Ts, w.before args s = true) (hin : ∀ w ∈ u_ws C T N, w ∈ Ts) (hown : s.vm.findClass own = some m.cls) (hK : va_K D vwCl tys s) (hP : va_P D vwCl (E ++ va_pl L M) H) (haL : a ∈ L) {fs : List Value} (hM : M a = .inr (ci, fs)) (hc : vwCl[ci]? = some (C, T, N)) (k : Nat) (hk : k < N) (hlink : (Cond.fieldLink own index ref (T k).2.1 (T k).2.2.1).before args s = true) (hsame : ∀ x, s.fieldFound? (T k).1 (T k).2.1 (T k).2.2.1 = some x → s.fieldFound? ref (T k).2.1 (T k).2.2.1 = some x) {v : Value} (hv : fs[k]? = some v) (hdg : decode cc pc = .ok (.getfield index, 3))
    (kk : W p l e R s m args below meth c H locs cells slots Q (F0 m (pc + 3) ls (v :: rest))) : W p l e R s m args below meth c H locs cells slots Q (F0 m pc ls (.ref a :: rest)) := by
  obtain ⟨q0, hq⟩ := va_pl_get (X := E) (f := M) haL
  rw [hM] at hq
  exact va_get hexec hb hts hin hown hK hP q0 hq hc k hk hlink hsame hv hdg kk
theorem pg_getN (hexec : p.tables.exec = Jvm.exec) (hb : c.code = cc) {own ref C host : String} {T : u_T} {N ci index : Nat} {Ts : List Cond} (hts : ∀ w ∈ Ts, w.before args s = true) (hin : ∀ w ∈ u_ws C T N, w ∈ Ts) (hown : s.vm.findClass own = some m.cls) (hK : va_K D vwCl tys s) (hP : va_P D vwCl (E ++ va_pl L M) H) (haL : a ∈ L) {fs : List Value} (hM : M a = .inr (ci, fs)) (hc : vwCl[ci]? = some (C, T, N)) (k : Nat) (hk : k < N) (hlink : (Cond.fieldLinkNest own index ref (T k).2.1 (T k).2.2.1 host).before args s = true) (hsame : ∀ x, s.fieldFound? (T k).1 (T k).2.1 (T k).2.2.1 = some x → s.fieldFound? ref (T k).2.1 (T k).2.2.1 = some x) {v : Value} (hv : fs[k]? = some v) (hdg : decode cc pc = .ok (.getfield index, 3))
    (kk : W p l e R s m args below meth c H locs cells slots Q (F0 m (pc + 3) ls (v :: rest))) : W p l e R s m args below meth c H locs cells slots Q (F0 m pc ls (.ref a :: rest)) := by
  obtain ⟨q0, hq⟩ := va_pl_get (X := E) (f := M) haL
  rw [hM] at hq
  exact va_getN hexec hb hts hin hown hK hP q0 hq hc k hk hlink hsame hv hdg kk
theorem pg_put (hexec : p.tables.exec = Jvm.exec) (hb : c.code = cc) {own ref C : String} {T : u_T} {N ci index : Nat} {Ts : List Cond} (hts : ∀ w ∈ Ts, w.before args s = true) (hin : ∀ w ∈ u_ws C T N, w ∈ Ts) (ty0 : Nat → FieldType) (hty : ∀ k, k < N → parseFieldDescriptor (T k).2.2.1 = some (ty0 k)) (hnm : ∀ a, a < N → ∀ b, b < N → a ≠ b → (T a).2.1 ≠ (T b).2.1) (hown : s.vm.findClass own = some m.cls) (hK : va_K D vwCl tys s) (hP : va_P D vwCl (E ++ va_pl L M) H) (hD : va_D A (E ++ va_pl L M)) (hS0 : va_S A H0 H locs) (haL : a ∈ L) {fs : List Value} (hM : M a = .inr (ci, fs)) (hc : vwCl[ci]? = some (C, T, N)) (k : Nat) (hk : k < N) (hlink : (Cond.fieldLink own index ref (T k).2.1 (T k).2.2.1).before args s = true) (hsame : ∀ x, s.fieldFound? (T k).1 (T k).2.1 (T k).2.2.1 = some x → s.fieldFound? ref (T k).2.1 (T k).2.2.1 = some x) (hfin : (T k).2.2.2 = false) {ty : FieldType} {v : Value} (hd : parseFieldDescriptor (T k).2.2.1 = some ty) (hn : narrow ty v = v) (hfit : fits ty v = true) (hl : k < fs.length) (hdg : decode cc pc = .ok (.putfield index, 3))
    (kk : ∀ (H1 : Heap) (locs1 : List Loc), va_P D vwCl (E ++ va_pl L (va_up M a (.inr (ci, fs.set k v)))) H1 → va_D A (E ++ va_pl L (va_up M a (.inr (ci, fs.set k v)))) → va_S A H0 H1 locs1 → W p l e R s m args below meth c H1 locs1 cells slots Q (F0 m (pc + 3) ls rest)) : W p l e R s m args below meth c H locs cells slots Q (F0 m pc ls (v :: .ref a :: rest)) := by
  obtain ⟨q0, hq⟩ := va_pl_get (X := E) (f := M) haL
  have hq2 := hq
  rw [hM] at hq2
  refine va_put hexec hb hts hin ty0 hty hnm hown hK hP hD hS0 q0 hq2 hc k hk hlink hsame hfin hd hn hfit hl hdg (fun H1 locs1 hP1 hD1 hS1 => ?_)
  rw [va_pl_set hD haL hq] at hP1 hD1
  exact kk H1 locs1 hP1 hD1 hS1
theorem pg_putN (hexec : p.tables.exec = Jvm.exec) (hb : c.code = cc) {own ref C host : String} {T : u_T} {N ci index : Nat} {Ts : List Cond} (hts : ∀ w ∈ Ts, w.before args s = true) (hin : ∀ w ∈ u_ws C T N, w ∈ Ts) (ty0 : Nat → FieldType) (hty : ∀ k, k < N → parseFieldDescriptor (T k).2.2.1 = some (ty0 k)) (hnm : ∀ a, a < N → ∀ b, b < N → a ≠ b → (T a).2.1 ≠ (T b).2.1) (hown : s.vm.findClass own = some m.cls) (hK : va_K D vwCl tys s) (hP : va_P D vwCl (E ++ va_pl L M) H) (hD : va_D A (E ++ va_pl L M)) (hS0 : va_S A H0 H locs) (haL : a ∈ L) {fs : List Value} (hM : M a = .inr (ci, fs)) (hc : vwCl[ci]? = some (C, T, N)) (k : Nat) (hk : k < N) (hlink : (Cond.fieldLinkNest own index ref (T k).2.1 (T k).2.2.1 host).before args s = true) (hsame : ∀ x, s.fieldFound? (T k).1 (T k).2.1 (T k).2.2.1 = some x → s.fieldFound? ref (T k).2.1 (T k).2.2.1 = some x) (hfin : (T k).2.2.2 = false) {ty : FieldType} {v : Value} (hd : parseFieldDescriptor (T k).2.2.1 = some ty) (hn : narrow ty v = v) (hfit : fits ty v = true) (hl : k < fs.length) (hdg : decode cc pc = .ok (.putfield index, 3))
    (kk : ∀ (H1 : Heap) (locs1 : List Loc), va_P D vwCl (E ++ va_pl L (va_up M a (.inr (ci, fs.set k v)))) H1 → va_D A (E ++ va_pl L (va_up M a (.inr (ci, fs.set k v)))) → va_S A H0 H1 locs1 → W p l e R s m args below meth c H1 locs1 cells slots Q (F0 m (pc + 3) ls rest)) : W p l e R s m args below meth c H locs cells slots Q (F0 m pc ls (v :: .ref a :: rest)) := by
  obtain ⟨q0, hq⟩ := va_pl_get (X := E) (f := M) haL
  have hq2 := hq
  rw [hM] at hq2
  refine va_putN hexec hb hts hin ty0 hty hnm hown hK hP hD hS0 q0 hq2 hc k hk hlink hsame hfin hd hn hfit hl hdg (fun H1 locs1 hP1 hD1 hS1 => ?_)
  rw [va_pl_set hD haL hq] at hP1 hD1
  exact kk H1 locs1 hP1 hD1 hS1
theorem pg_iald (hexec : p.tables.exec = Jvm.exec) (hb : c.code = cc) (hK : va_K D vwCl tys s) (hP : va_P D vwCl (E ++ va_pl L M) H) (haL : a ∈ L) (t0 : Nat) {cA : ClassId} {n : Nat} {f : Nat → Int32} (hM : M a = .inl (cA, n, .inl f)) (ht : tys[t0]? = some (cA, .int)) {i : Int32} (hin : vp_in i n) (hdg : decode cc pc = .ok (.iaload, 1))
    (kk : W p l e R s m args below meth c H locs cells slots Q (F0 m (pc + 1) ls (.int (f i.toNatClampNeg) :: rest))) : W p l e R s m args below meth c H locs cells slots Q (F0 m pc ls (.int i :: .ref a :: rest)) := by
  obtain ⟨q0, hq⟩ := va_pl_get (X := E) (f := M) haL
  rw [hM] at hq
  exact va_iald hexec hb hK hP q0 t0 hq ht hin hdg kk
theorem pg_lald (hexec : p.tables.exec = Jvm.exec) (hb : c.code = cc) (hK : va_K D vwCl tys s) (hP : va_P D vwCl (E ++ va_pl L M) H) (haL : a ∈ L) (t0 : Nat) {cA : ClassId} {n : Nat} {f : Nat → Int64} (hM : M a = .inl (cA, n, .inr (.inl f))) (ht : tys[t0]? = some (cA, .long)) {i : Int32} (hin : vp_in i n) (hdg : decode cc pc = .ok (.laload, 1))
    (kk : W p l e R s m args below meth c H locs cells slots Q (F0 m (pc + 1) ls (.long (f i.toNatClampNeg) :: rest))) : W p l e R s m args below meth c H locs cells slots Q (F0 m pc ls (.int i :: .ref a :: rest)) := by
  obtain ⟨q0, hq⟩ := va_pl_get (X := E) (f := M) haL
  rw [hM] at hq
  exact va_lald hexec hb hK hP q0 t0 hq ht hin hdg kk
theorem pg_aldq (hexec : p.tables.exec = Jvm.exec) (hb : c.code = cc) (hK : va_K D vwCl tys s) (hP : va_P D vwCl (E ++ va_pl L M) H) (haL : a ∈ L) (t0 : Nat) {cA : ClassId} {C : String} {n : Nat} {f : Nat → Option Nat} (hM : M a = .inl (cA, n, .inr (.inr (.inr (.inr f))))) (ht : tys[t0]? = some (cA, .object C)) {i : Int32} (hin : vp_in i n) (hdg : decode cc pc = .ok (.aaload, 1))
    (kk : W p l e R s m args below meth c H locs cells slots Q (F0 m (pc + 1) ls (va_rf (f i.toNatClampNeg) :: rest))) : W p l e R s m args below meth c H locs cells slots Q (F0 m pc ls (.int i :: .ref a :: rest)) := by
  obtain ⟨q0, hq⟩ := va_pl_get (X := E) (f := M) haL
  rw [hM] at hq
  exact va_aldq hexec hb hK hP q0 t0 hq ht hin hdg kk
theorem pg_alen (hexec : p.tables.exec = Jvm.exec) (hb : c.code = cc) (hK : va_K D vwCl tys s) (hP : va_P D vwCl (E ++ va_pl L M) H) (haL : a ∈ L) (t0 : Nat) {cA : ClassId} {x : vp_A} (hM : M a = .inl (cA, x)) {ty : FieldType} (ht : tys[t0]? = some (cA, ty)) {v : Int32} (hv : Int32.ofNat x.1 = v) (hdg : decode cc pc = .ok (.arraylength, 1))
    (kk : W p l e R s m args below meth c H locs cells slots Q (F0 m (pc + 1) ls (.int v :: rest))) : W p l e R s m args below meth c H locs cells slots Q (F0 m pc ls (.ref a :: rest)) := by
  obtain ⟨q0, hq⟩ := va_pl_get (X := E) (f := M) haL
  rw [hM] at hq
  exact va_alen hexec hb hK hP q0 t0 hq ht hv hdg kk
theorem pg_iast (hexec : p.tables.exec = Jvm.exec) (hb : c.code = cc) (hK : va_K D vwCl tys s) (hP : va_P D vwCl (E ++ va_pl L M) H) (hD : va_D A (E ++ va_pl L M)) (hS : va_S A H0 H locs) (haL : a ∈ L) (t0 : Nat) {cA : ClassId} {n : Nat} {f : Nat → Int32} (hM : M a = .inl (cA, n, .inl f)) (ht : tys[t0]? = some (cA, .int)) {i : Int32} {x : Int32} (hin : vp_in i n) (hdg : decode cc pc = .ok (.iastore, 1))
    (kk : ∀ (H1 : Heap) (locs1 : List Loc), va_P D vwCl (E ++ va_pl L (va_up M a (.inl (cA, n, .inl (upd f i.toNatClampNeg x))))) H1 → va_D A (E ++ va_pl L (va_up M a (.inl (cA, n, .inl (upd f i.toNatClampNeg x))))) → va_S A H0 H1 locs1 → W p l e R s m args below meth c H1 locs1 cells slots Q (F0 m (pc + 1) ls rest)) : W p l e R s m args below meth c H locs cells slots Q (F0 m pc ls (.int x :: .int i :: .ref a :: rest)) := by
  obtain ⟨q0, hq⟩ := va_pl_get (X := E) (f := M) haL
  have hq2 := hq
  rw [hM] at hq2
  refine va_iast hexec hb hK hP hD hS q0 t0 hq2 ht hin hdg (fun H1 locs1 hP1 hD1 hS1 => ?_)
  rw [va_pl_set hD haL hq] at hP1 hD1
  exact kk H1 locs1 hP1 hD1 hS1
theorem pg_last (hexec : p.tables.exec = Jvm.exec) (hb : c.code = cc) (hK : va_K D vwCl tys s) (hP : va_P D vwCl (E ++ va_pl L M) H) (hD : va_D A (E ++ va_pl L M)) (hS : va_S A H0 H locs) (haL : a ∈ L) (t0 : Nat) {cA : ClassId} {n : Nat} {f : Nat → Int64} (hM : M a = .inl (cA, n, .inr (.inl f))) (ht : tys[t0]? = some (cA, .long)) {i : Int32} {x : Int64} (hin : vp_in i n) (hdg : decode cc pc = .ok (.lastore, 1))
    (kk : ∀ (H1 : Heap) (locs1 : List Loc), va_P D vwCl (E ++ va_pl L (va_up M a (.inl (cA, n, .inr (.inl (vp_updL f i.toNatClampNeg x)))))) H1 → va_D A (E ++ va_pl L (va_up M a (.inl (cA, n, .inr (.inl (vp_updL f i.toNatClampNeg x)))))) → va_S A H0 H1 locs1 → W p l e R s m args below meth c H1 locs1 cells slots Q (F0 m (pc + 1) ls rest)) : W p l e R s m args below meth c H locs cells slots Q (F0 m pc ls (.long x :: .int i :: .ref a :: rest)) := by
  obtain ⟨q0, hq⟩ := va_pl_get (X := E) (f := M) haL
  have hq2 := hq
  rw [hM] at hq2
  refine va_last hexec hb hK hP hD hS q0 t0 hq2 ht hin hdg (fun H1 locs1 hP1 hD1 hS1 => ?_)
  rw [va_pl_set hD haL hq] at hP1 hD1
  exact kk H1 locs1 hP1 hD1 hS1
theorem pg_astq (hexec : p.tables.exec = Jvm.exec) (hb : c.code = cc) (hK : va_K D vwCl tys s) (hP : va_P D vwCl (E ++ va_pl L M) H) (hD : va_D A (E ++ va_pl L M)) (hS : va_S A H0 H locs) (haL : a ∈ L) (t0 ci : Nat) {cA : ClassId} {r : vw_C} {n v : Nat} {vs : List Value} {f : Nat → Option Nat} (hM : M a = .inl (cA, n, .inr (.inr (.inr (.inr f))))) (ht : tys[t0]? = some (cA, .object r.1)) (hvL : v ∈ L) (hv : M v = .inr (ci, vs)) (hc : vwCl[ci]? = some r) {i : Int32} (hin : vp_in i n) (hdg : decode cc pc = .ok (.aastore, 1))
    (kk : ∀ (H1 : Heap) (locs1 : List Loc), va_P D vwCl (E ++ va_pl L (va_up M a (.inl (cA, n, .inr (.inr (.inr (.inr (va_up f i.toNatClampNeg (some v)))))))) ) H1 → va_D A (E ++ va_pl L (va_up M a (.inl (cA, n, .inr (.inr (.inr (.inr (va_up f i.toNatClampNeg (some v))))))))) → va_S A H0 H1 locs1 → W p l e R s m args below meth c H1 locs1 cells slots Q (F0 m (pc + 1) ls rest)) : W p l e R s m args below meth c H locs cells slots Q (F0 m pc ls (.ref v :: .int i :: .ref a :: rest)) := by
  obtain ⟨q0, hq⟩ := va_pl_get (X := E) (f := M) haL
  obtain ⟨qk, hqk⟩ := va_pl_get (X := E) (f := M) hvL
  have hq2 := hq
  rw [hM] at hq2
  rw [hv] at hqk
  refine va_astq hexec hb hK hP hD hS q0 t0 qk ci hq2 ht hqk hc hin hdg (fun H1 locs1 hP1 hD1 hS1 => ?_)
  rw [va_pl_set hD haL hq] at hP1 hD1
  exact kk H1 locs1 hP1 hD1 hS1
theorem pg_astqN (hexec : p.tables.exec = Jvm.exec) (hb : c.code = cc) (hK : va_K D vwCl tys s) (hP : va_P D vwCl (E ++ va_pl L M) H) (hD : va_D A (E ++ va_pl L M)) (hS : va_S A H0 H locs) (haL : a ∈ L) (t0 : Nat) {cA : ClassId} {C : String} {n : Nat} {f : Nat → Option Nat} (hM : M a = .inl (cA, n, .inr (.inr (.inr (.inr f))))) (ht : tys[t0]? = some (cA, .object C)) {i : Int32} (hin : vp_in i n) (hdg : decode cc pc = .ok (.aastore, 1))
    (kk : ∀ (H1 : Heap) (locs1 : List Loc), va_P D vwCl (E ++ va_pl L (va_up M a (.inl (cA, n, .inr (.inr (.inr (.inr (va_up f i.toNatClampNeg none)))))))) H1 → va_D A (E ++ va_pl L (va_up M a (.inl (cA, n, .inr (.inr (.inr (.inr (va_up f i.toNatClampNeg none)))))))) → va_S A H0 H1 locs1 → W p l e R s m args below meth c H1 locs1 cells slots Q (F0 m (pc + 1) ls rest)) : W p l e R s m args below meth c H locs cells slots Q (F0 m pc ls (.null :: .int i :: .ref a :: rest)) := by
  obtain ⟨q0, hq⟩ := va_pl_get (X := E) (f := M) haL
  have hq2 := hq
  rw [hM] at hq2
  refine va_astqN hexec hb hK hP hD hS q0 t0 hq2 ht hin hdg (fun H1 locs1 hP1 hD1 hS1 => ?_)
  rw [va_pl_set hD haL hq] at hP1 hD1
  exact kk H1 locs1 hP1 hD1 hS1
theorem pg_recv {ci : Nat} {q : vw_C} {fs : List Value} (hK : va_K D vwCl tys s) (hP : va_P D vwCl (E ++ va_pl L M) H) (haL : a ∈ L) (hM : M a = .inr (ci, fs)) (hc : vwCl[ci]? = some q) : ∃ cell : Cell, H[a]? = some cell ∧ cell.vm.isStatics = false ∧ s.vm.findClass q.1 = some cell.cls := by
  obtain ⟨q0, hq⟩ := va_pl_get (X := E) (f := M) haL
  rw [hM] at hq
  exact va_recv hK hP hc hq
theorem pg_free (hD : va_D A (E ++ va_pl L M)) (hS : va_S A H0 H locs) (hA : ∀ q, H0.size ≤ q → A q) : ∀ q, va_A (E ++ va_pl L M) H.size q → A q := fun q h => h.elim (fun ⟨k, e, hk⟩ => hD.2 k _ hk) (fun h => hA q (Nat.le_trans hS.1 h))
end POOL
