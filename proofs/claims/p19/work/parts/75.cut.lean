/-- the sum of the first n -/
def sumI (f : Nat → Int) : Nat → Int
  | 0 => 0
  | n + 1 => sumI f n + f n
theorem sumI_cg {f g : Nat → Int} : ∀ n, (∀ j, j < n → f j = g j) → sumI f n = sumI g n := by
  intro n
  induction n with
  | zero => intro _; rfl
  | succ n ih =>
    intro h
    show sumI f n + f n = sumI g n + g n
    rw [ih (fun j hj => h j (Nat.lt_succ_of_lt hj)), h n (Nat.lt_succ_self n)]
theorem sumI_nn {f : Nat → Int} : ∀ n, (∀ j, j < n → 0 ≤ f j) → 0 ≤ sumI f n := by
  intro n
  induction n with
  | zero => intro _; exact Int.le_refl 0
  | succ n ih =>
    intro h
    have h1 := ih (fun j hj => h j (Nat.lt_succ_of_lt hj))
    have h2 := h n (Nat.lt_succ_self n)
    show 0 ≤ sumI f n + f n
    omega
theorem sumI_le {f g : Nat → Int} : ∀ n, (∀ j, j < n → f j ≤ g j) → sumI f n ≤ sumI g n := by
  intro n
  induction n with
  | zero => intro _; exact Int.le_refl 0
  | succ n ih =>
    intro h
    have h1 := ih (fun j hj => h j (Nat.lt_succ_of_lt hj))
    have h2 := h n (Nat.lt_succ_self n)
    show sumI f n + f n ≤ sumI g n + g n
    omega
theorem sumI_add {f g : Nat → Int} : ∀ n, sumI (fun j => f j + g j) n = sumI f n + sumI g n := by
  intro n
  induction n with
  | zero => rfl
  | succ n ih =>
    show sumI (fun j => f j + g j) n + (f n + g n) = sumI f n + f n + (sumI g n + g n)
    rw [ih]
    omega
theorem sumI_mul {f : Nat → Int} {s : Int} : ∀ n, sumI (fun j => s * f j) n = s * sumI f n := by
  intro n
  induction n with
  | zero => exact (Int.mul_zero s).symm
  | succ n ih =>
    show sumI (fun j => s * f j) n + s * f n = s * (sumI f n + f n)
    rw [ih, Int.mul_add]
theorem sumI_one {f : Nat → Int} {k : Nat} : ∀ n, k < n → (∀ j, j < n → 0 ≤ f j) → f k ≤ sumI f n := by
  intro n
  induction n with
  | zero => intro h; exact absurd h (Nat.not_lt_zero _)
  | succ n ih =>
    intro hk h
    have h1 := sumI_nn n (fun j hj => h j (Nat.lt_succ_of_lt hj))
    have h2 := h n (Nat.lt_succ_self n)
    show f k ≤ sumI f n + f n
    by_cases z : k = n
    · rw [z]
      omega
    · have h3 := ih (by omega) (fun j hj => h j (Nat.lt_succ_of_lt hj))
      omega
/-- how many of the first n are so -/
noncomputable def cntB (P : Nat → Prop) : Nat → Nat
  | 0 => 0
  | n + 1 => cntB P n + @ite Nat (P n) (Classical.propDecidable _) 1 0
theorem cntB_y {P : Nat → Prop} {n : Nat} (h : P n) : cntB P (n + 1) = cntB P n + 1 := by
  show cntB P n + @ite Nat (P n) (Classical.propDecidable _) 1 0 = _
  rw [if_pos h]
theorem cntB_n {P : Nat → Prop} {n : Nat} (h : ¬ P n) : cntB P (n + 1) = cntB P n := by
  show cntB P n + @ite Nat (P n) (Classical.propDecidable _) 1 0 = _
  rw [if_neg h, Nat.add_zero]
theorem cntB_cg {P Q : Nat → Prop} : ∀ n, (∀ j, j < n → (P j ↔ Q j)) → cntB P n = cntB Q n := by
  intro n
  induction n with
  | zero => intro _; rfl
  | succ n ih =>
    intro h
    have h1 := ih (fun j hj => h j (Nat.lt_succ_of_lt hj))
    have h2 := h n (Nat.lt_succ_self n)
    by_cases z : P n
    · rw [cntB_y z, cntB_y (h2.mp z), h1]
    · rw [cntB_n z, cntB_n (fun w => z (h2.mpr w)), h1]
theorem cntB_mo {P Q : Nat → Prop} : ∀ n, (∀ j, j < n → P j → Q j) → cntB P n ≤ cntB Q n := by
  intro n
  induction n with
  | zero => intro _; exact Nat.le_refl 0
  | succ n ih =>
    intro h
    have h1 := ih (fun j hj => h j (Nat.lt_succ_of_lt hj))
    by_cases z : P n
    · rw [cntB_y z, cntB_y (h n (Nat.lt_succ_self n) z)]
      omega
    · rw [cntB_n z]
      by_cases w : Q n
      · rw [cntB_y w]
        omega
      · rw [cntB_n w]
        exact h1
theorem cntB_lt {P Q : Nat → Prop} {k : Nat} : ∀ n, k < n → ¬ P k → Q k → (∀ j, j < n → P j → Q j) → cntB P n < cntB Q n := by
  intro n
  induction n with
  | zero => intro h; exact absurd h (Nat.not_lt_zero _)
  | succ n ih =>
    intro hk hp hq h
    have h0 := cntB_mo n (fun j hj => h j (Nat.lt_succ_of_lt hj))
    by_cases z : k = n
    · rw [z] at hp hq
      rw [cntB_n hp, cntB_y hq]
      omega
    · have h1 := ih (by omega) hp hq (fun j hj => h j (Nat.lt_succ_of_lt hj))
      by_cases y : P n
      · rw [cntB_y y, cntB_y (h n (Nat.lt_succ_self n) y)]
        omega
      · rw [cntB_n y]
        by_cases w : Q n
        · rw [cntB_y w]
          omega
        · rw [cntB_n w]
          exact h1
theorem cntB_le {P : Nat → Prop} : ∀ n, cntB P n ≤ n := by
  intro n
  induction n with
  | zero => exact Nat.le_refl 0
  | succ n ih =>
    by_cases z : P n
    · rw [cntB_y z]
      omega
    · rw [cntB_n z]
      omega
theorem cntB_0 {P : Nat → Prop} : ∀ n, (∀ j, j < n → ¬ P j) → cntB P n = 0 := by
  intro n
  induction n with
  | zero => intro _; rfl
  | succ n ih =>
    intro h
    rw [cntB_n (h n (Nat.lt_succ_self n))]
    exact ih (fun j hj => h j (Nat.lt_succ_of_lt hj))
theorem cntB_ex {P : Nat → Prop} : ∀ n, cntB P n < n → ∃ j, j < n ∧ ¬ P j := by
  intro n
  induction n with
  | zero => intro h; exact absurd h (Nat.not_lt_zero _)
  | succ n ih =>
    intro h
    by_cases z : P n
    · rw [cntB_y z] at h
      obtain ⟨j, g1, g2⟩ := ih (by omega)
      exact ⟨j, Nat.lt_succ_of_lt g1, g2⟩
    · exact ⟨n, Nat.lt_succ_self n, z⟩
theorem cntB_1 {P Q : Nat → Prop} {b : Nat} : ∀ n, b < n → ¬ P b → (∀ j, j < n → (Q j ↔ P j ∨ j = b)) → cntB Q n = cntB P n + 1 := by
  intro n
  induction n with
  | zero => intro h; exact absurd h (Nat.not_lt_zero _)
  | succ n ih =>
    intro hb hp h
    have hn := h n (Nat.lt_succ_self n)
    by_cases z : b = n
    · rw [← z] at hn ⊢
      have e : cntB Q b = cntB P b := cntB_cg b (fun j hj => by
        have g := h j (by omega)
        exact ⟨fun w => (g.mp w).resolve_right (by omega), fun w => g.mpr (Or.inl w)⟩)
      rw [cntB_y (hn.mpr (Or.inr rfl)), cntB_n hp, e]
    · have h1 := ih (by omega) hp (fun j hj => h j (Nat.lt_succ_of_lt hj))
      by_cases y : P n
      · rw [cntB_y y, cntB_y (hn.mpr (Or.inl y)), h1]
      · rw [cntB_n y, cntB_n (fun w => (hn.mp w).elim y (fun q => z q.symm)), h1]
/-- i is served ahead of j -/
def btr (r : Nat → Int) (i j : Nat) : Prop := r j < r i ∨ (r i = r j ∧ i < j)
theorem btr.ir {r : Nat → Int} {i : Nat} : ¬ btr r i i := fun h => by
  rcases h with h | ⟨_, h⟩ <;> omega
theorem btr.tr {r : Nat → Int} {i j k : Nat} (h : btr r i j) (g : btr r j k) : btr r i k := by
  unfold btr at h g ⊢
  omega
theorem btr.tot {r : Nat → Int} {i j : Nat} (h : i ≠ j) : btr r i j ∨ btr r j i := by
  unfold btr
  omega
/-- how many are served ahead of j -/
noncomputable def rnk (r : Nat → Int) (n j : Nat) : Nat := cntB (fun i => btr r i j) n
theorem rnk.lt {r : Nat → Int} {n i j : Nat} (hi : i < n) (h : btr r i j) : rnk r n i < rnk r n j := cntB_lt (P := fun k => btr r k i) (Q := fun k => btr r k j) n hi btr.ir h (fun _ _ g => g.tr h)
theorem rnk.inv {r : Nat → Int} {n i j : Nat} (hj : j < n) (h : rnk r n i < rnk r n j) : btr r i j := by
  by_cases z : i = j
  · rw [z] at h
    exact absurd h (Nat.lt_irrefl _)
  · rcases btr.tot (r := r) z with g | g
    · exact g
    · have := rnk.lt hj g
      omega
theorem rnk.un {r : Nat → Int} {n i j : Nat} (hi : i < n) (hj : j < n) (h : rnk r n i = rnk r n j) : i = j := by
  by_cases z : i = j
  · exact z
  · rcases btr.tot (r := r) z with g | g
    · have := rnk.lt hi g
      omega
    · have := rnk.lt hj g
      omega
/-- the first of those that are so -/
theorem bst {r : Nat → Int} {S : Nat → Prop} : ∀ n, (∃ j, j < n ∧ S j) → ∃ b, b < n ∧ S b ∧ ∀ j, j < n → S j → j ≠ b → btr r b j := by
  intro n
  induction n with
  | zero => intro ⟨_, h, _⟩; exact absurd h (Nat.not_lt_zero _)
  | succ n ih =>
    intro ⟨j, h1, h2⟩
    by_cases w : ∃ j, j < n ∧ S j
    · obtain ⟨b, g1, g2, g3⟩ := ih w
      by_cases z : S n ∧ btr r n b
      · refine ⟨n, Nat.lt_succ_self n, z.1, fun i hi hs hne => ?_⟩
        by_cases y : i = b
        · rw [y]
          exact z.2
        · exact z.2.tr (g3 i (by omega) hs y)
      · refine ⟨b, by omega, g2, fun i hi hs hne => ?_⟩
        by_cases y : i = n
        · rw [y] at hs ⊢
          exact (btr.tot (r := r) (show b ≠ n by omega)).resolve_right (fun q => z ⟨hs, q⟩)
        · exact g3 i (by omega) hs hne
    · refine ⟨j, h1, h2, fun i hi hs hne => absurd ?_ w⟩
      by_cases y : i = n
      · exact ⟨j, by omega, h2⟩
      · exact ⟨i, by omega, hs⟩
theorem rnk_b {r : Nat → Int} {n c b : Nat} (hc : cntB (fun j => rnk r n j < c) n = c) (hb : b < n) (h1 : c ≤ rnk r n b) (h2 : ∀ j, j < n → c ≤ rnk r n j → j ≠ b → btr r b j) : rnk r n b = c := by
  have e : rnk r n b = cntB (fun j => rnk r n j < c) n := cntB_cg n (fun i hi => ⟨fun g => by
    by_cases z : c ≤ rnk r n i
    · by_cases y : i = b
      · rw [y] at g
        exact absurd g btr.ir
      · exact absurd (g.tr (h2 i hi z y)) btr.ir
    · show rnk r n i < c
      omega, fun (g : rnk r n i < c) => rnk.inv hb (by omega)⟩)
  rw [e, hc]
theorem rnk_c {r : Nat → Int} {n : Nat} : ∀ c, c ≤ n → cntB (fun j => rnk r n j < c) n = c := by
  intro c
  induction c with
  | zero => intro _; exact cntB_0 n (fun j _ => Nat.not_lt_zero _)
  | succ c ih =>
    intro hc
    have h0 := ih (by omega)
    obtain ⟨j, g1, g2⟩ := cntB_ex n (show cntB (fun j => rnk r n j < c) n < n by omega)
    have g2 : ¬ rnk r n j < c := g2
    obtain ⟨b, b1, b2, b3⟩ := bst (r := r) (S := fun j => c ≤ rnk r n j) n ⟨j, g1, by show c ≤ rnk r n j; omega⟩
    have e := rnk_b h0 b1 b2 b3
    have e1 := cntB_1 (P := fun j => rnk r n j < c) (Q := fun j => rnk r n j < c + 1) n b1 (by show ¬ rnk r n b < c; omega) (fun i hi => ⟨fun (g : rnk r n i < c + 1) => by
      by_cases z : rnk r n i < c
      · exact Or.inl z
      · exact Or.inr (rnk.un (r := r) hi b1 (by omega)), fun g => by
      show rnk r n i < c + 1
      rcases g with g | g
      · have g : rnk r n i < c := g
        omega
      · rw [g]
        omega⟩)
    rw [e1, h0]
/-- the rests when c coins are given -/
noncomputable def rsC (r : Nat → Int) (n c j : Nat) : Int := @ite Int (rnk r n j < c) (Classical.propDecidable _) (-1) (r j)
/-- the c coins -/
noncomputable def cnC (r : Nat → Int) (n c j : Nat) : Int := @ite Int (rnk r n j < c) (Classical.propDecidable _) 1 0
theorem rsC_0 {r : Nat → Int} {n j : Nat} : rsC r n 0 j = r j := if_neg (Nat.not_lt_zero _)
theorem cnC_0 {r : Nat → Int} {n j : Nat} : cnC r n 0 j = 0 := if_neg (Nat.not_lt_zero _)
/-- the first of the greatest rests is whose turn it is -/
theorem coin {r : Nat → Int} {n c b : Nat} (h0 : ∀ j, j < n → 0 ≤ r j) (hc : c < n) (hb : b < n) (h : ∀ j, j < n → j ≠ b → btr (rsC r n c) b j) : rnk r n b = c := by
  have hk := rnk_c (r := r) (n := n) c (by omega)
  obtain ⟨j, g1, g2⟩ := cntB_ex n (show cntB (fun j => rnk r n j < c) n < n by omega)
  have g2 : ¬ rnk r n j < c := g2
  have hb1 : ¬ rnk r n b < c := fun z => by
    have e1 : rsC r n c b = -1 := if_pos z
    have e2 : rsC r n c j = r j := if_neg g2
    have g3 := h j g1 (fun y => g2 (by rw [y]; exact z))
    have g4 := h0 j g1
    unfold btr at g3
    rw [e1, e2] at g3
    omega
  refine rnk_b hk hb (by omega) (fun i hi hz hne => ?_)
  have g3 := h i hi hne
  unfold btr at g3 ⊢
  rw [show rsC r n c b = r b from if_neg hb1, show rsC r n c i = r i from if_neg (by omega)] at g3
  exact g3
theorem coin_r {r : Nat → Int} {n c b : Nat} (hb : b < n) (e : rnk r n b = c) (j : Nat) (hj : j < n) : rsC r n (c + 1) j = if j = b then -1 else rsC r n c j := by
  unfold rsC
  by_cases z : j = b
  · rw [if_pos z, if_pos (by rw [z]; omega)]
  · rw [if_neg z]
    have g : rnk r n j ≠ c := fun w => z (rnk.un (r := r) hj hb (by omega))
    by_cases y : rnk r n j < c
    · rw [if_pos y, if_pos (by omega)]
    · rw [if_neg y, if_neg (by omega)]
theorem coin_p {r : Nat → Int} {n c b : Nat} (hb : b < n) (e : rnk r n b = c) (j : Nat) (hj : j < n) : cnC r n (c + 1) j = if j = b then cnC r n c j + 1 else cnC r n c j := by
  unfold cnC
  by_cases z : j = b
  · rw [if_pos z, if_pos (show rnk r n j < c + 1 by rw [z]; omega), if_neg (show ¬ rnk r n j < c by rw [z]; omega)]
    all_goals rfl
  · rw [if_neg z]
    have g : rnk r n j ≠ c := fun w => z (rnk.un (r := r) hj hb (by omega))
    by_cases y : rnk r n j < c
    · rw [if_pos y, if_pos (by omega)]
    · rw [if_neg y, if_neg (by omega)]
theorem cnC_s {P : Nat → Prop} : ∀ n, sumI (fun j => @ite Int (P j) (Classical.propDecidable _) 1 0) n = ((cntB P n : Nat) : Int) := by
  intro n
  induction n with
  | zero => rfl
  | succ n ih =>
    show sumI (fun j => @ite Int (P j) (Classical.propDecidable _) 1 0) n + @ite Int (P n) (Classical.propDecidable _) 1 0 = _
    rw [ih]
    by_cases z : P n
    · rw [if_pos z, cntB_y z]
      omega
    · rw [if_neg z, cntB_n z]
      omega
theorem cnC_sum {r : Nat → Int} {n c : Nat} (h : c ≤ n) : sumI (cnC r n c) n = (c : Int) := (cnC_s (P := fun j => rnk r n j < c) n).trans (congrArg (fun x : Nat => (x : Int)) (rnk_c c h))
/-- a sum that is cut by the weights w of n: what each has, its rest, what is left for coins, its part -/
def bas (s T : Int) (w : Nat → Int) (j : Nat) : Int := s * w j / T
def rst (s T : Int) (w : Nat → Int) (j : Nat) : Int := s * w j % T
def lft (s : Int) (w : Nat → Int) (n : Nat) : Int := s - sumI (bas s (sumI w n) w) n
noncomputable def prt1 (s : Int) (w : Nat → Int) (n j : Nat) : Int := bas s (sumI w n) w j + cnC (rst s (sumI w n) w) n (lft s w n).toNat j
theorem lft_T {s : Int} {w : Nat → Int} {n : Nat} : sumI w n * lft s w n = sumI (rst s (sumI w n) w) n := by
  have e1 : sumI (fun j => sumI w n * bas s (sumI w n) w j + rst s (sumI w n) w j) n = sumI (fun j => s * w j) n := sumI_cg n (fun j _ => Int.mul_ediv_add_emod (s * w j) (sumI w n))
  rw [sumI_add, sumI_mul, sumI_mul] at e1
  unfold lft
  rw [Int.mul_sub, Int.mul_comm (sumI w n) s]
  omega
theorem rst_b {s T : Int} {w : Nat → Int} {j : Nat} (hT : 0 < T) : 0 ≤ rst s T w j ∧ rst s T w j < T := ⟨Int.emod_nonneg _ (by omega), Int.emod_lt_of_pos _ hT⟩
theorem lft_b {s : Int} {w : Nat → Int} {n : Nat} (hT : 0 < sumI w n) : 0 ≤ lft s w n ∧ lft s w n < (n : Int) := by
  have e := lft_T (s := s) (w := w) (n := n)
  have h1 := sumI_nn (f := rst s (sumI w n) w) n (fun j _ => (rst_b hT).1)
  have h2 : sumI (rst s (sumI w n) w) n ≤ sumI (fun _ => sumI w n - 1) n := sumI_le n (fun j _ => by have := (rst_b (s := s) (w := w) (j := j) hT).2; omega)
  have h3 : ∀ (c : Int) (n : Nat), sumI (fun _ => c) n = (n : Int) * c := fun c n => by
    induction n with
    | zero => exact (Int.zero_mul c).symm
    | succ n ih =>
      show sumI (fun _ => c) n + c = _
      rw [ih, Int.natCast_succ, Int.add_mul, Int.one_mul]
  rw [h3, ← e] at h2
  rw [← e] at h1
  constructor
  · by_cases z : 0 ≤ lft s w n
    · exact z
    · exact absurd h1 (Int.not_le.mpr (Int.mul_neg_of_pos_of_neg hT (by omega)))
  · by_cases z : lft s w n < (n : Int)
    · exact z
    · have g : sumI w n * (n : Int) ≤ sumI w n * lft s w n := Int.mul_le_mul_of_nonneg_left (by omega) (by omega)
      have g2 : (n : Int) * (sumI w n - 1) = sumI w n * (n : Int) - (n : Int) := by rw [Int.mul_sub, Int.mul_one, Int.mul_comm]
      by_cases y : n = 0
      · rw [y] at hT
        exact absurd hT (by show ¬ (0 : Int) < 0; omega)
      · omega
theorem prt1_sum {s : Int} {w : Nat → Int} {n : Nat} (hT : 0 < sumI w n) : sumI (prt1 s w n) n = s := by
  have hl := lft_b (s := s) hT
  have e : sumI (prt1 s w n) n = sumI (bas s (sumI w n) w) n + sumI (cnC (rst s (sumI w n) w) n (lft s w n).toNat) n := sumI_add n
  rw [e, cnC_sum (by omega)]
  have e2 : lft s w n = s - sumI (bas s (sumI w n) w) n := rfl
  omega
theorem prt1_nn {s : Int} {w : Nat → Int} {n j : Nat} (hs : 0 ≤ s) (hw : 0 ≤ w j) (hT : 0 < sumI w n) : 0 ≤ prt1 s w n j := by
  unfold prt1 cnC
  have h1 : 0 ≤ bas s (sumI w n) w j := Int.ediv_nonneg (Int.mul_nonneg hs hw) (by omega)
  by_cases z : rnk (rst s (sumI w n) w) n j < (lft s w n).toNat
  · rw [if_pos z]
    omega
  · rw [if_neg z]
    omega
/-- those that are so, one behind the other: the q-th of all is the cntB V q-th of them -/
theorem ls_sum {V : Nat → Prop} {f g : Nat → Int} : ∀ n, (∀ q, q < n → V q → g (cntB V q) = f q) → (∀ q, q < n → ¬ V q → f q = 0) → sumI g (cntB V n) = sumI f n := by
  intro n
  induction n with
  | zero => intro _ _; rfl
  | succ n ih =>
    intro h1 h2
    have h0 := ih (fun q hq => h1 q (Nat.lt_succ_of_lt hq)) (fun q hq => h2 q (Nat.lt_succ_of_lt hq))
    by_cases z : V n
    · rw [cntB_y z]
      show sumI g (cntB V n) + g (cntB V n) = sumI f n + f n
      rw [h0, h1 n (Nat.lt_succ_self n) z]
    · rw [cntB_n z, h0]
      show sumI f n = sumI f n + f n
      rw [h2 n (Nat.lt_succ_self n) z, Int.add_zero]
theorem ls_cnt {V P P' : Nat → Prop} : ∀ n, (∀ q, q < n → V q → (P' (cntB V q) ↔ P q)) → (∀ q, q < n → ¬ V q → ¬ P q) → cntB P' (cntB V n) = cntB P n := by
  intro n
  induction n with
  | zero => intro _ _; rfl
  | succ n ih =>
    intro h1 h2
    have h0 := ih (fun q hq => h1 q (Nat.lt_succ_of_lt hq)) (fun q hq => h2 q (Nat.lt_succ_of_lt hq))
    by_cases z : V n
    · have e := h1 n (Nat.lt_succ_self n) z
      rw [cntB_y z]
      by_cases y : P n
      · rw [cntB_y y, cntB_y (e.mpr y), h0]
      · rw [cntB_n y, cntB_n (fun w => y (e.mp w)), h0]
    · rw [cntB_n z, cntB_n (h2 n (Nat.lt_succ_self n) z), h0]
theorem ls_mo {V : Nat → Prop} {i j : Nat} (hi : V i) (h : i < j) : cntB V i < cntB V j := by
  induction j with
  | zero => exact absurd h (Nat.not_lt_zero _)
  | succ j ih =>
    by_cases z : i = j
    · rw [← z, cntB_y hi]
      omega
    · have h1 := ih (by omega)
      by_cases y : V j
      · rw [cntB_y y]
        omega
      · rw [cntB_n y]
        exact h1
/-- where nothing rests there is no coin -/
theorem nocoin {s : Int} {w : Nat → Int} {n j : Nat} (hT : 0 < sumI w n) (h : rst s (sumI w n) w j = 0) : (lft s w n).toNat ≤ rnk (rst s (sumI w n) w) n j := by
  have hl := lft_b (s := s) hT
  have e := lft_T (s := s) (w := w) (n := n)
  have h1 : cntB (fun i => 0 < rst s (sumI w n) w i) n ≤ rnk (rst s (sumI w n) w) n j := cntB_mo n (fun i _ (g : 0 < rst s (sumI w n) w i) => Or.inl (by rw [h]; exact g))
  have h2 : sumI (rst s (sumI w n) w) n ≤ sumI (fun i => (sumI w n - 1) * @ite Int (0 < rst s (sumI w n) w i) (Classical.propDecidable _) 1 0) n := sumI_le n (fun i _ => by
    have g := rst_b (s := s) (w := w) (j := i) hT
    by_cases z : 0 < rst s (sumI w n) w i
    · rw [if_pos z, Int.mul_one]
      omega
    · rw [if_neg z, Int.mul_zero]
      omega)
  rw [sumI_mul, cnC_s (P := fun i => 0 < rst s (sumI w n) w i), ← e] at h2
  by_cases z : (lft s w n).toNat ≤ cntB (fun i => 0 < rst s (sumI w n) w i) n
  · omega
  · exfalso
    have g1 : ((cntB (fun i => 0 < rst s (sumI w n) w i) n : Nat) : Int) + 1 ≤ lft s w n := by omega
    have g2 : sumI w n * (((cntB (fun i => 0 < rst s (sumI w n) w i) n : Nat) : Int) + 1) ≤ sumI w n * lft s w n := Int.mul_le_mul_of_nonneg_left g1 (by omega)
    rw [Int.mul_add, Int.mul_one] at g2
    rw [Int.sub_mul, Int.one_mul] at h2
    omega
/-- a cut by the weights of those alone who are there is the cut by all -/
theorem ls_prt {V : Nat → Prop} {s : Int} {w g : Nat → Int} {n : Nat} (hT : 0 < sumI w n) (h1 : ∀ q, q < n → V q → g (cntB V q) = w q) (h2 : ∀ q, q < n → ¬ V q → w q = 0) (q : Nat) (hq : q < n) (hv : V q) : prt1 s g (cntB V n) (cntB V q) = prt1 s w n q := by
  have eT : sumI g (cntB V n) = sumI w n := ls_sum n h1 h2
  have eb : ∀ i, i < n → V i → bas s (sumI w n) g (cntB V i) = bas s (sumI w n) w i := fun i hi vi => by
    unfold bas
    rw [h1 i hi vi]
  have er : ∀ i, i < n → V i → rst s (sumI w n) g (cntB V i) = rst s (sumI w n) w i := fun i hi vi => by
    unfold rst
    rw [h1 i hi vi]
  have el : lft s g (cntB V n) = lft s w n := by
    unfold lft
    rw [eT, ls_sum n eb (fun i hi vi => by
      unfold bas
      rw [h2 i hi vi, Int.mul_zero, Int.zero_ediv])]
  unfold prt1
  rw [eT, el, eb q hq hv]
  refine congrArg (fun x => bas s (sumI w n) w q + x) ?_
  by_cases z : rst s (sumI w n) w q = 0
  · have n1 := nocoin (s := s) hT z
    have n2 : (lft s w n).toNat ≤ rnk (rst s (sumI w n) g) (cntB V n) (cntB V q) := by
      have g0 := nocoin (s := s) (w := g) (n := cntB V n) (j := cntB V q) (by rw [eT]; exact hT) (by rw [eT, er q hq hv]; exact z)
      rw [eT, el] at g0
      exact g0
    unfold cnC
    rw [if_neg (by omega), if_neg (by omega)]
  · have hz := rst_b (s := s) (w := w) (j := q) hT
    have ek : rnk (rst s (sumI w n) g) (cntB V n) (cntB V q) = rnk (rst s (sumI w n) w) n q := ls_cnt n (fun i hi vi => by
      show btr (rst s (sumI w n) g) (cntB V i) (cntB V q) ↔ btr (rst s (sumI w n) w) i q
      unfold btr
      rw [er i hi vi, er q hq hv]
      constructor
      · intro g0
        rcases g0 with g0 | ⟨g0, g1⟩
        · exact Or.inl g0
        · refine Or.inr ⟨g0, ?_⟩
          by_cases y : i < q
          · exact y
          · by_cases y2 : i = q
            · rw [y2] at g1
              exact absurd g1 (Nat.lt_irrefl _)
            · exact absurd (ls_mo hv (show q < i by omega)) (by omega)
      · intro g0
        rcases g0 with g0 | ⟨g0, g1⟩
        · exact Or.inl g0
        · exact Or.inr ⟨g0, ls_mo vi g1⟩) (fun i hi vi g0 => by
      have g0 : btr (rst s (sumI w n) w) i q := g0
      have e0 : rst s (sumI w n) w i = 0 := by
        unfold rst
        rw [h2 i hi vi, Int.mul_zero, Int.zero_emod]
      unfold btr at g0
      rw [e0] at g0
      omega)
    unfold cnC
    rw [ek]
theorem lA {f a b : Int64} (e : f = a + b) (h1 : -9223372036854775808 ≤ a.toInt + b.toInt) (h2 : a.toInt + b.toInt < 9223372036854775808) : f.toInt = a.toInt + b.toInt := by
  rw [e, Int64.toInt_add]
  apply Int.bmod_eq_of_le <;> omega
theorem lS {f a b : Int64} (e : f = a - b) (h1 : -9223372036854775808 ≤ a.toInt - b.toInt) (h2 : a.toInt - b.toInt < 9223372036854775808) : f.toInt = a.toInt - b.toInt := by
  rw [e, Int64.toInt_sub]
  apply Int.bmod_eq_of_le <;> omega
theorem lM {f a b : Int64} (e : f = a * b) (h1 : -9223372036854775808 ≤ a.toInt * b.toInt) (h2 : a.toInt * b.toInt < 9223372036854775808) : f.toInt = a.toInt * b.toInt := by
  rw [e, Int64.toInt_mul]
  apply Int.bmod_eq_of_le <;> omega
theorem lNg {f a : Int64} (e : f = -a) (h1 : -9223372036854775808 < a.toInt) : f.toInt = -a.toInt := by
  have h2 := Int64.toInt_lt a
  rw [e, Int64.toInt_neg]
  apply Int.bmod_eq_of_le <;> omega
theorem lD {f a b : Int64} (e : f = a / b) (ha : 0 ≤ a.toInt) (hb : 0 < b.toInt) : f.toInt = a.toInt / b.toInt := by
  have h1 : 0 ≤ a.toInt / b.toInt := Int.ediv_nonneg ha (by omega)
  have h2 : a.toInt / b.toInt ≤ a.toInt := Int.ediv_le_self _ ha
  have h3 := Int64.toInt_lt a
  rw [e, Int64.toInt_div, Int.tdiv_eq_ediv_of_nonneg ha]
  apply Int.bmod_eq_of_le <;> omega
theorem lR {f a b : Int64} (e : f = a - a / b * b) (ha : 0 ≤ a.toInt) (hb : 0 < b.toInt) : f.toInt = a.toInt % b.toInt := by
  have h1 := lD (f := a / b) rfl ha hb
  have h2 := Int.mul_ediv_add_emod a.toInt b.toInt
  have h3 := Int.emod_nonneg a.toInt (show b.toInt ≠ 0 by omega)
  have h4 := Int.emod_lt_of_pos a.toInt hb
  have h5 := Int64.toInt_lt a
  have h6 : 0 ≤ a.toInt / b.toInt := Int.ediv_nonneg ha (by omega)
  have h7 : (a.toInt / b.toInt) * b.toInt = b.toInt * (a.toInt / b.toInt) := Int.mul_comm _ _
  have h8 : 0 ≤ b.toInt * (a.toInt / b.toInt) := Int.mul_nonneg (by omega) h6
  have m := lM (f := a / b * b) rfl (by rw [h1, h7]; omega) (by rw [h1, h7]; omega)
  rw [h1, h7] at m
  have r := lS e (by rw [m]; omega) (by rw [m]; omega)
  rw [m] at r
  omega
/-- the first of the greatest among the first n; none among none -/
def FBM (R : Nat → Int) (v : Int32) (n : Nat) : Prop := (v = -1 ∧ n = 0) ∨ ∃ b : Nat, b < 100 ∧ v = nI b ∧ b < n ∧ ∀ j : Nat, j < n → j ≠ b → btr R b j
theorem FBM.fst {R : Nat → Int} : FBM R (-1) 0 := Or.inl ⟨rfl, rfl⟩
theorem FBM.no0 {R : Nat → Int} {n : Nat} (h : FBM R (-1) n) : n = 0 := by
  rcases h with h | ⟨b, h0, h1, _⟩
  · exact h.2
  · have h2 := congrArg Int32.toInt h1
    rw [nI_toInt (by omega), show (-1 : Int32).toInt = -1 from rfl] at h2
    omega
theorem FBM.one {R : Nat → Int} {n : Nat} (h : FBM R (-1) n) : FBM R (nI n) (n + 1) := by
  have h0 := h.no0
  exact Or.inr ⟨n, by omega, rfl, Nat.lt_succ_self n, fun j hj hne => absurd hne (by omega)⟩
theorem FBM.at {R : Nat → Int} {n b : Nat} (hb : b < 100) (h : FBM R (nI b) n) : b < n ∧ ∀ j : Nat, j < n → j ≠ b → btr R b j := by
  rcases h with ⟨h, _⟩ | ⟨c, h0, h1, h2, h3⟩
  · have h2 := congrArg Int32.toInt h
    rw [nI_toInt (by omega), show (-1 : Int32).toInt = -1 from rfl] at h2
    omega
  · have e := congrArg Int32.toInt h1
    rw [nI_toInt (by omega), nI_toInt (by omega)] at e
    have e2 : b = c := by omega
    rw [e2]
    exact ⟨h2, h3⟩
theorem FBM.up {R : Nat → Int} {n b : Nat} (hb : b < 100) (h : FBM R (nI b) n) (hn : n < 100) (g : R b < R n) : FBM R (nI n) (n + 1) := by
  have h0 := h.at hb
  refine Or.inr ⟨n, hn, rfl, Nat.lt_succ_self n, fun j hj hne => Or.inl ?_⟩
  by_cases z : j = b
  · rw [z]
    exact g
  · have h1 := h0.2 j (by omega) z
    unfold btr at h1
    omega
theorem FBM.st {R : Nat → Int} {n b : Nat} (hb : b < 100) (h : FBM R (nI b) n) (g : R n ≤ R b) : FBM R (nI b) (n + 1) := by
  have h0 := h.at hb
  refine Or.inr ⟨b, hb, rfl, by omega, fun j hj hne => ?_⟩
  by_cases z : j = n
  · rw [z]
    unfold btr
    omega
  · exact h0.2 j (by omega) hne
def wI (f : Nat → Int64) (j : Nat) : Int := (f j).toInt
def abI (k : Int) : Int := if 0 < k then k else -k
def sgI (k p : Int) : Int := if k < 0 then -p else p
theorem abI_nn (k : Int) : 0 ≤ abI k := by
  unfold abI
  by_cases z : 0 < k
  · rw [if_pos z]
    omega
  · rw [if_neg z]
    omega
theorem labs {f k : Int64} (e : f = if 0 < k then k else -k) (h : -9223372036854775808 < k.toInt) : f.toInt = abI k.toInt := by
  unfold abI
  by_cases z : 0 < k
  · have h1 := Int64.lt_iff_toInt_lt.mp z
    rw [show (0 : Int64).toInt = 0 from rfl] at h1
    rw [if_pos z] at e
    rw [if_pos h1, e]
  · have h1 := Int64.le_iff_toInt_le.mp (Int64.not_lt.mp z)
    rw [show (0 : Int64).toInt = 0 from rfl] at h1
    rw [if_neg z] at e
    rw [if_neg (by omega)]
    exact lNg e h
theorem sumL_I {f : Nat → Int64} : ∀ n, n ≤ 100 → (∀ j, j < n → 0 ≤ wI f j ∧ wI f j ≤ 1000000000) → (sumL f n).toInt = sumI (wI f) n ∧ 0 ≤ sumI (wI f) n ∧ sumI (wI f) n ≤ 1000000000 * (n : Int) := by
  intro n
  induction n with
  | zero => intro _ _; exact ⟨rfl, Int.le_refl 0, Int.le_refl 0⟩
  | succ n ih =>
    intro hn h
    obtain ⟨h1, h2, h3⟩ := ih (by omega) (fun j hj => h j (Nat.lt_succ_of_lt hj))
    have h4 := h n (Nat.lt_succ_self n)
    have e : (sumL f (n + 1)).toInt = (sumL f n).toInt + wI f n := lA (show sumL f (n + 1) = sumL f n + f n from rfl) (by show _ ≤ (sumL f n).toInt + wI f n; omega) (by show (sumL f n).toInt + wI f n < _; omega)
    have e2 : sumI (wI f) (n + 1) = sumI (wI f) n + wI f n := rfl
    rw [e, e2]
    refine ⟨by omega, by omega, by omega⟩
theorem mulb {a w : Int} (h0 : 0 ≤ a) (h1 : a ≤ 1000000000000000) (w0 : 0 ≤ w) (w1 : w ≤ 1000) : 0 ≤ a * w ∧ a * w ≤ 1000000000000000000 := by
  refine ⟨Int.mul_nonneg h0 w0, ?_⟩
  have g1 : a * w ≤ a * 1000 := Int.mul_le_mul_of_nonneg_left w1 h0
  omega
/-- parts of a sum by the weights w of n -/
def CUTP (w : Nat → Int) (n : Nat) (k : Int) (p : Nat → Int) : Prop := (sumI w n = 0 → ∀ j : Nat, j < n → p j = 0) ∧ (0 < sumI w n → ∀ j : Nat, j < n → p j = sgI k (prt1 (abI k) w n j))
theorem bas_b {s T : Int} {w : Nat → Int} {j : Nat} (hs : 0 ≤ s) (hT : 0 < T) (w0 : 0 ≤ w j) (w1 : w j ≤ T) : 0 ≤ bas s T w j ∧ bas s T w j ≤ s := ⟨Int.ediv_nonneg (Int.mul_nonneg hs w0) (by omega), Int.ediv_le_of_le_mul hT (Int.mul_le_mul_of_nonneg_left w1 hs)⟩
theorem sumI_bd {f : Nat → Int} {b : Int} : ∀ n, (∀ j, j < n → 0 ≤ f j ∧ f j ≤ b) → 0 ≤ sumI f n ∧ sumI f n ≤ b * (n : Int) := by
  intro n
  induction n with
  | zero => intro _; exact ⟨Int.le_refl 0, by rw [show ((0 : Nat) : Int) = 0 from rfl, Int.mul_zero]; exact Int.le_refl 0⟩
  | succ n ih =>
    intro h
    obtain ⟨h1, h2⟩ := ih (fun j hj => h j (Nat.lt_succ_of_lt hj))
    have h3 := h n (Nat.lt_succ_self n)
    have e : b * ((n + 1 : Nat) : Int) = b * (n : Int) + b := by rw [Int.natCast_succ, Int.mul_add, Int.mul_one]
    rw [e]
    show 0 ≤ sumI f n + f n ∧ sumI f n + f n ≤ b * (n : Int) + b
    omega
theorem prt1_b {s : Int} {w : Nat → Int} {n j : Nat} (hs : 0 ≤ s) (hT : 0 < sumI w n) (hw : ∀ i, i < n → 0 ≤ w i) (hj : j < n) : 0 ≤ prt1 s w n j ∧ prt1 s w n j ≤ s := by
  have h1 := prt1_sum (s := s) hT
  have h2 := sumI_one (f := prt1 s w n) n hj (fun i hi => prt1_nn hs (hw i hi) hT)
  exact ⟨prt1_nn hs (hw j hj) hT, by omega⟩
theorem lc_ltt {x y : Int64} (h : lg_cmp x y < 0) : x < y := (lg_cmp_lt x y).mp h
theorem lc_ltf {x y : Int64} (h : ¬ lg_cmp x y < 0) : ¬ x < y := fun q => h ((lg_cmp_lt x y).mpr q)
theorem lc_get {x y : Int64} (h : 0 ≤ lg_cmp x y) : y ≤ x := (lg_cmp_ge x y).mp h
theorem lc_gef {x y : Int64} (h : ¬ 0 ≤ lg_cmp x y) : ¬ y ≤ x := fun q => h ((lg_cmp_ge x y).mpr q)
/-- parts of s by the weights w of n, none where nobody weighs -/
noncomputable def cutQ (s : Int) (w : Nat → Int) (n j : Nat) : Int := if sumI w n = 0 then 0 else prt1 s w n j
theorem CUTP.q {w : Nat → Int} {n : Nat} {k : Int} {p : Nat → Int} (h : CUTP w n k p) (hk : 0 ≤ k) (hw : 0 ≤ sumI w n) (j : Nat) (hj : j < n) : p j = cutQ k w n j := by
  unfold cutQ
  by_cases z : sumI w n = 0
  · rw [if_pos z]
    exact h.1 z j hj
  · rw [if_neg z, h.2 (by omega) j hj]
    unfold sgI
    rw [if_neg (by omega)]
    have e : abI k = k := by
      unfold abI
      by_cases y : 0 < k
      · exact if_pos y
      · rw [if_neg y]
        omega
    rw [e]
theorem cutQ_b {s : Int} {w : Nat → Int} {n j : Nat} (hs : 0 ≤ s) (hw : ∀ i, i < n → 0 ≤ w i) (hj : j < n) : 0 ≤ cutQ s w n j ∧ cutQ s w n j ≤ s := by
  unfold cutQ
  by_cases z : sumI w n = 0
  · rw [if_pos z]
    exact ⟨Int.le_refl 0, hs⟩
  · rw [if_neg z]
    have h0 := sumI_nn n hw
    exact prt1_b hs (by omega) hw hj
theorem cutQ_sum {s : Int} {w : Nat → Int} {n : Nat} (hw : ∀ i, i < n → 0 ≤ w i) : sumI (cutQ s w n) n = if sumI w n = 0 then 0 else s := by
  by_cases z : sumI w n = 0
  · rw [if_pos z]
    have e : ∀ m, m ≤ n → sumI (cutQ s w n) m = 0 := fun m => by
      induction m with
      | zero => intro _; rfl
      | succ m ih =>
        intro hm
        show sumI (cutQ s w n) m + cutQ s w n m = 0
        rw [ih (by omega)]
        unfold cutQ
        rw [if_pos z]
        rfl
    exact e n (Nat.le_refl n)
  · have h0 := sumI_nn n hw
    rw [if_neg z]
    exact (sumI_cg n (fun j _ => (if_neg z : cutQ s w n j = prt1 s w n j))).trans (prt1_sum (by omega))
/-- what one keeps of a loss: those of limits up to their room -/
noncomputable def kpt (L : Int) (w : Nat → Int) (lim : Nat → Prop) (room : Nat → Int) (n j : Nat) : Int := @ite Int (lim j) (Classical.propDecidable _) (if cutQ L w n j < room j then cutQ L w n j else room j) (cutQ L w n j)
/-- the weights of those without limits -/
noncomputable def wAl (w : Nat → Int) (lim : Nat → Prop) (j : Nat) : Int := @ite Int (lim j) (Classical.propDecidable _) 0 (w j)
noncomputable def offQ (L : Int) (w : Nat → Int) (lim : Nat → Prop) (room : Nat → Int) (n m : Nat) : Int := sumI (fun j => cutQ L w n j - kpt L w lim room n j) m
/-- what one bears of a loss in the end -/
noncomputable def brQ (L : Int) (w : Nat → Int) (lim : Nat → Prop) (room : Nat → Int) (n j : Nat) : Int := kpt L w lim room n j + cutQ (offQ L w lim room n n) (wAl w lim) n j
theorem kpt_b {L : Int} {w : Nat → Int} {lim : Nat → Prop} {room : Nat → Int} {n j : Nat} (hL : 0 ≤ L) (hw : ∀ i, i < n → 0 ≤ w i) (hr : lim j → 0 ≤ room j) (hj : j < n) : 0 ≤ kpt L w lim room n j ∧ kpt L w lim room n j ≤ cutQ L w n j := by
  have h := cutQ_b (s := L) hL hw hj
  unfold kpt
  by_cases z : lim j
  · rw [if_pos z]
    have h2 := hr z
    by_cases y : cutQ L w n j < room j
    · rw [if_pos y]
      omega
    · rw [if_neg y]
      omega
  · rw [if_neg z]
    omega
theorem offQ_b {L : Int} {w : Nat → Int} {lim : Nat → Prop} {room : Nat → Int} {n : Nat} (hL : 0 ≤ L) (hw : ∀ i, i < n → 0 ≤ w i) (hr : ∀ j, j < n → lim j → 0 ≤ room j) : ∀ m, m ≤ n → 0 ≤ offQ L w lim room n m ∧ offQ L w lim room n m ≤ L * (m : Int) := fun m hm => sumI_bd m (fun j hj => by
  have h1 := cutQ_b (s := L) hL hw (show j < n by omega)
  have h2 := kpt_b (room := room) hL hw (hr j (by omega)) (show j < n by omega)
  show 0 ≤ cutQ L w n j - kpt L w lim room n j ∧ cutQ L w n j - kpt L w lim room n j ≤ L
  omega)
theorem offQ_c {L : Int} {w : Nat → Int} {lim : Nat → Prop} {room : Nat → Int} {n : Nat} (hL : 0 ≤ L) (hL2 : L ≤ 1000000000000000) (hw : ∀ i, i < n → 0 ≤ w i) (hr : ∀ j, j < n → lim j → 0 ≤ room j) : ∀ m, m ≤ n → 0 ≤ offQ L w lim room n m ∧ offQ L w lim room n m ≤ 1000000000000000 * (m : Int) := fun m hm => sumI_bd m (fun j hj => by
  have h1 := cutQ_b (s := L) hL hw (show j < n by omega)
  have h2 := kpt_b (room := room) hL hw (hr j (by omega)) (show j < n by omega)
  show 0 ≤ cutQ L w n j - kpt L w lim room n j ∧ cutQ L w n j - kpt L w lim room n j ≤ 1000000000000000
  omega)
theorem offQ_L {L : Int} {w : Nat → Int} {lim : Nat → Prop} {room : Nat → Int} {n : Nat} (hL : 0 ≤ L) (hw : ∀ i, i < n → 0 ≤ w i) (hr : ∀ j, j < n → lim j → 0 ≤ room j) : 0 ≤ offQ L w lim room n n ∧ offQ L w lim room n n ≤ L := by
  have h0 := offQ_b (w := w) hL hw hr n (Nat.le_refl n)
  have h1 : offQ L w lim room n n ≤ sumI (cutQ L w n) n := sumI_le n (fun j hj => by
    have h2 := kpt_b (room := room) hL hw (hr j hj) hj
    show cutQ L w n j - kpt L w lim room n j ≤ cutQ L w n j
    omega)
  rw [cutQ_sum hw] at h1
  by_cases z : sumI w n = 0
  · rw [if_pos z] at h1
    omega
  · rw [if_neg z] at h1
    omega
theorem wAl_b {w : Nat → Int} {lim : Nat → Prop} {j : Nat} (h : 0 ≤ w j ∧ w j ≤ 1000) : 0 ≤ wAl w lim j ∧ wAl w lim j ≤ 1000 := by
  unfold wAl
  by_cases z : lim j
  · rw [if_pos z]
    omega
  · rw [if_neg z]
    exact h
def LKD (k : Int32) : Prop := k.toInt = 1 ∨ k.toInt = 2 ∨ k.toInt = 4
def rmI (l b : Int) : Int := if l - b < 0 then 0 else l - b
theorem rmI_nn {l b : Int} : 0 ≤ rmI l b := by
  unfold rmI
  by_cases z : l - b < 0
  · rw [if_pos z]
    exact Int.le_refl 0
  · rw [if_neg z]
    omega
/-- entry j of the rows: whether there is a limit, and the room up to it -/
def LMR (M : Hp) (a : Nat) (lim : Nat → Prop) (room : Nat → Int) (j : Nat) : Prop := (RFc (M a) j = none → ¬ lim j) ∧ ∀ t, RFc (M a) j = some t → (lim j ↔ LKD (cV 4 M (rA 9 M t 1) 1)) ∧ (-1000000000000000 ≤ (cL 9 M t 11).toInt ∧ (cL 9 M t 11).toInt ≤ 1000000000000000) ∧ (lim j → room j = rmI (cV 4 M (rA 9 M t 1) 2).toInt (cL 9 M t 11).toInt)
theorem cL_e {M M1 : Hp} {t a j : Nat} (h : M1 a = M a) : cL t M1 a j = cL t M a j := by
  unfold cL cVt
  rw [h]
theorem rnk_cg {r r' : Nat → Int} {n j : Nat} (h : ∀ i, i < n → r i = r' i) (hj : j < n) : rnk r n j = rnk r' n j := cntB_cg n (fun i hi => by
  show btr r i j ↔ btr r' i j
  unfold btr
  rw [h i hi, h j hj])
theorem prt1_cg {s : Int} {w w' : Nat → Int} {n j : Nat} (h : ∀ i, i < n → w i = w' i) (hj : j < n) : prt1 s w n j = prt1 s w' n j := by
  have eT : sumI w n = sumI w' n := sumI_cg n h
  have eb : ∀ i, i < n → bas s (sumI w' n) w i = bas s (sumI w' n) w' i := fun i hi => by
    unfold bas
    rw [h i hi]
  have er : ∀ i, i < n → rst s (sumI w' n) w i = rst s (sumI w' n) w' i := fun i hi => by
    unfold rst
    rw [h i hi]
  have el : lft s w n = lft s w' n := by
    unfold lft
    rw [eT, sumI_cg n eb]
  unfold prt1 cnC
  rw [eT, el, eb j hj, rnk_cg er hj]
theorem cutQ_cg {s : Int} {w w' : Nat → Int} {n j : Nat} (h : ∀ i, i < n → w i = w' i) (hj : j < n) : cutQ s w n j = cutQ s w' n j := by
  unfold cutQ
  rw [sumI_cg n h, prt1_cg h hj]
theorem lmin {f x y : Int64} (e : f = if y < x then y else x) : f.toInt = if y.toInt < x.toInt then y.toInt else x.toInt := by
  by_cases z : y < x
  · rw [if_pos z] at e
    rw [if_pos (Int64.lt_iff_toInt_lt.mp z), e]
  · rw [if_neg z] at e
    rw [if_neg (fun w => z (Int64.lt_iff_toInt_lt.mpr w)), e]
theorem lmax {f x y : Int64} (e : f = if y < x then x else y) : f.toInt = if y.toInt < x.toInt then x.toInt else y.toInt := by
  by_cases z : y < x
  · rw [if_pos z] at e
    rw [if_pos (Int64.lt_iff_toInt_lt.mp z), e]
  · rw [if_neg z] at e
    rw [if_neg (fun w => z (Int64.lt_iff_toInt_lt.mpr w)), e]
theorem brQ_b {L : Int} {w : Nat → Int} {lim : Nat → Prop} {room : Nat → Int} {n j : Nat} (hL : 0 ≤ L ∧ L ≤ 1000000000000000) (hw : ∀ i, i < n → 0 ≤ w i) (hr : ∀ j, j < n → lim j → 0 ≤ room j) (ha : ∀ i, i < n → 0 ≤ wAl w lim i) (hj : j < n) : 0 ≤ brQ L w lim room n j ∧ brQ L w lim room n j ≤ 2000000000000000 := by
  have h1 := kpt_b (room := room) hL.1 hw (hr j hj) hj
  have h2 := cutQ_b (s := L) hL.1 hw hj
  have h3 := offQ_L hL.1 hw hr
  have h4 := cutQ_b (s := offQ L w lim room n n) h3.1 ha hj
  show 0 ≤ kpt L w lim room n j + cutQ (offQ L w lim room n n) (wAl w lim) n j ∧ kpt L w lim room n j + cutQ (offQ L w lim room n n) (wAl w lim) n j ≤ _
  omega
def wJ (f : Nat → Int32) (j : Nat) : Int := (f j).toInt
/-- whether the j-th of those in who is one of limits -/
def LMZ (kd who : Nat → Int32) (Y : Nat → Nat → Int32) (j : Nat) : Prop := LKD (kd (Y 19 (who j).toNatClampNeg).toNatClampNeg)
theorem wZ_b {w : Nat → Int} {lim : Nat → Prop} {n : Nat} (h : ∀ j, j < n → 0 ≤ w j ∧ w j ≤ 1000) : ∀ j, j < n → 0 ≤ wAl w lim j ∧ wAl w lim j ≤ 1000 := fun j hj => wAl_b (h j hj)
/-- the first of the greatest among the first k -/
def BST (R : Nat → Int) (b k : Nat) : Prop := b < k ∧ ∀ j : Nat, j < k → j ≠ b → btr R b j
theorem BST.fst {R : Nat → Int} : BST R 0 1 := ⟨by decide, fun j hj hne => absurd hne (by omega)⟩
theorem BST.up {R : Nat → Int} {b k : Nat} (h : BST R b k) (g : R b < R k) : BST R k (k + 1) := by
  refine ⟨Nat.lt_succ_self k, fun j hj hne => Or.inl ?_⟩
  by_cases z : j = b
  · rw [z]
    exact g
  · have h1 := h.2 j (by omega) z
    unfold btr at h1
    omega
theorem BST.st {R : Nat → Int} {b k : Nat} (h : BST R b k) (g : R k ≤ R b) : BST R b (k + 1) := by
  have h0 := h.1
  refine ⟨by omega, fun j hj hne => ?_⟩
  by_cases z : j = k
  · rw [z]
    unfold btr
    omega
  · exact h.2 j (by omega) hne
theorem cutQ_0 {w : Nat → Int} {n j : Nat} (hw : ∀ i, i < n → 0 ≤ w i) (hj : j < n) : cutQ 0 w n j = 0 := by
  have h := cutQ_b (s := 0) (Int.le_refl 0) hw hj
  omega
theorem nbQ_0 {L : Int} {w : Nat → Int} {lim : Nat → Prop} {room : Nat → Int} {n : Nat} : L - sumI (brQ L w lim room n) n = L - sumI (cutQ L w n) n + (offQ L w lim room n n - sumI (cutQ (offQ L w lim room n n) (wAl w lim) n) n) := by
  have e1 : sumI (brQ L w lim room n) n = sumI (kpt L w lim room n) n + sumI (cutQ (offQ L w lim room n n) (wAl w lim) n) n := sumI_add n
  have e2 : sumI (cutQ L w n) n = sumI (kpt L w lim room n) n + offQ L w lim room n n := by
    have e3 := sumI_add (f := kpt L w lim room n) (g := fun j => cutQ L w n j - kpt L w lim room n j) n
    rw [show offQ L w lim room n n = sumI (fun j => cutQ L w n j - kpt L w lim room n j) n from rfl, ← e3]
    exact sumI_cg n (fun j _ => by
      show cutQ L w n j = kpt L w lim room n j + (cutQ L w n j - kpt L w lim room n j)
      omega)
  omega
/-- place i of the long array in field j of House a of the reference -/
def mz (M : Hp) (a j i : Nat) : Int := vL M (hF12 (M a))[j]? i
theorem mz_of {M : Hp} {a j q n i : Nat} {cA : ClassId} {fs : List Value} {f : Nat → Int64} (hM : M a = .inr (12, fs)) (h : fs[j]? = some (.ref q)) (hq : M q = .inl (cA, n, .inr (.inl f))) : mz M a j i = (f i).toInt := by
  unfold mz
  rw [show hF12 (M a) = fs by rw [hM]; rfl, h]
  show (LFc (M q) i).toInt = _
  rw [LFc_of hq]
theorem lc_eqt {x y : Int64} (h : lg_cmp x y = 0) : x = y := (lg_cmp_eq x y).mp h
theorem lc_eqf {x y : Int64} (h : ¬ lg_cmp x y = 0) : ¬ x = y := fun q => h ((lg_cmp_eq x y).mpr q)
theorem mz_e {cy : Nat → ClassId} {K : Kp} {L ts js : List Nat} {M M1 : Hp} {a j t n i : Nat} (hW : WOM cy K L M) (hW1 : WOM cy K L M1) (hF : fr K L ts M M1) (hG : fG K L js M M1) (ha : isk K L a 12 0) (h51 : j < 51) (hj : j ∉ js) (ht : t ∉ ts) (hfl : ∀ fs, fld12 K L j fs → ∃ v, fs[j]? = some (.ref v) ∧ isk K L v t n) : mz M1 a j i = mz M a j i := by
  obtain ⟨fs, h1, _, hf1⟩ := hW.open_12 ha
  obtain ⟨fs', h2, _, _⟩ := hW1.open_12 ha
  obtain ⟨v, g1, g2⟩ := hfl fs (hf1 j h51)
  have e : fs'[j]? = fs[j]? := hG a ha fs fs' h1 h2 j hj
  unfold mz
  rw [show hF12 (M1 a) = fs' by rw [h2]; rfl, show hF12 (M a) = fs by rw [h1]; rfl, e, g1]
  show (LFc (M1 v) i).toInt = (LFc (M v) i).toInt
  rw [hF.at g2 ht]
set_option maxHeartbeats 4000000 in
set_option maxRecDepth 100000 in
theorem e_coin (l : Launch) (D : va_G) (cy : Nat → ClassId) (K : Kp) (L : List Nat) (M : Hp) (sz : Nat) (oa : Nat) (rS : Nat → Int) (pS : Nat → Int) (cc : Nat) (y0 : Nat) (y1 : Nat) (y2 : Nat) (y3 : Nat) (y4 : Nat) (y5 : Nat) (hW : WOK cy K L M) (ia : isk K L oa 7 0) (hr0 : (∀ j : Nat, j < y5 → 0 ≤ rS j)) (hp0 : (∀ j : Nat, j < y5 → 0 ≤ pS j ∧ pS j ≤ 1000000000000000)) (hRS : (∀ j : Nat, j < y5 → (LFc (M y3) j).toInt = rsC rS y5 cc j)) (hPS : (∀ j : Nat, j < y5 → (LFc (M y2) j).toInt = pS j + cnC rS y5 cc j)) (hcc : cc < y5) (hMy : M oa = .inr (7, [.ref y0, .ref y1, .ref y2, .ref y3, .ref y4, .int (nI y5)])) (hy0 : isk K L y0 64 100) (hy1 : isk K L y1 68 100) (hy2 : isk K L y2 69 100) (hy3 : isk K L y3 70 100) (hy4 : isk K L y4 71 100) (hy5 : y5 ≤ 100) : Met l yX7_giveCoin (wsM yX7_giveCoin cX7_giveCoin 3 none) ({ frames := 0, cells := 0, slots := 0, locals := 0 }) (va_Pc [.ref oa] (PG D cy [] L M sz)) (va_Qv (fun (M9 : Hp) => WOK cy K L M9 ∧ fr K L [69, 70] M M9 ∧ ((∀ j : Nat, j < y5 → (LFc (M9 y3) j).toInt = rsC rS y5 (cc + 1) j) ∧ (∀ j : Nat, j < y5 → (LFc (M9 y2) j).toInt = pS j + cnC rS y5 (cc + 1) j)) ∧ (True)) (fun M9 t => PQ D [] L M9 (va_A ([] ++ va_pl L M) sz) t) (va_A ([] ++ va_pl L M) sz)) 0 0 (va_A ([] ++ va_pl L M) sz) := by
  refine Met.ofW (cc := cX7_giveCoin) (maxL := 3) (ret := none) (by decide) rfl ?_
  intro p e s m args below meth c s₁ B hml hv
  obtain ⟨rfl, hsz, hP, hK, hD0, hN⟩ := hv
  have hx := B.exec
  have hb := B.bytes
  have hr := B.returns
  have hts := atoms_spec (ws := (wsM yX7_giveCoin cX7_giveCoin 3 none)) B.pre
  have hg : ∀ w ∈ lw_good, w.before _ s = true := fun w h => hts w (List.mem_cons_of_mem _ h)
  have hown : s.vm.findClass RX7 = some m.cls := findClass_of_methodNamed B.named
  have hlocks := B.notSynchronized
  subst hsz
  have hD := hD0.self (sz := s.heap.size)
  generalize hAe : va_A ([] ++ va_pl L M) s.heap.size = A at hD ⊢
  have hA : ∀ q : Nat, s.heap.size ≤ q → A q := fun q h => by rw [← hAe]; exact Or.inr h
  have hS : va_S A s.heap s.heap [] := va_S.rf
  have hl := lv_entry ([.ref oa]) (n := 3) (Nat.le_of_ble_eq_true rfl)
  rw [lg_entry_eq]
  generalize (lg_sl ([.ref oa]) ++ List.replicate (3 - (lg_sl ([.ref oa])).length) Slot.unset).toArray = ls at hl ⊢
  refine W.nameQ (fun Q hQ => ?_)
  refine W.nameR (fun R hR => ?_)
  have hRf : 0 ≤ R.frames := by rw [hR]; exact Nat.le_of_ble_eq_true rfl
  have hRl : 0 ≤ R.locals := by rw [hR]; exact Nat.le_of_ble_eq_true rfl
  have hRc : 0 ≤ R.cells := by rw [hR]; exact Nat.le_of_ble_eq_true rfl
  have hRs : 0 ≤ R.slots := by rw [hR]; exact Nat.le_of_ble_eq_true rfl
  have hF : fr K L [69, 70] M M := fr.rf
  have hl : lv_has ls 3 [(0, .ref oa)] := hl
  obtain ⟨f1, hM1⟩ := hW.open_70 hy3
  obtain ⟨f2, hM2⟩ := hW.open_69 hy2
  have hR3 : ∀ j : Nat, j < y5 → (f1 j).toInt = rsC rS y5 cc j := fun j hj => by have h9 := hRS j hj; rw [LFc_of hM1] at h9; exact h9
  have hP2 : ∀ j : Nat, j < y5 → (f2 j).toInt = pS j + cnC rS y5 cc j := fun j hj => by have h9 := hPS j hj; rw [LFc_of hM2] at h9; exact h9
  refine lv_iconst (v := (-1)) hx hb dX7_giveCoin_0 (by decide) ?_
  refine lv_istore_n (lv' := [(1, .int (-1)), (0, .ref oa)]) hx hb dX7_giveCoin_1 rfl hl (by decide) rfl (fun ls hl => ?_)
  refine lv_iconst (v := 0) hx hb dX7_giveCoin_2 (by decide) ?_
  refine lv_istore_n (lv' := [(2, .int 0), (1, .int (-1)), (0, .ref oa)]) hx hb dX7_giveCoin_3 rfl hl (by decide) rfl (fun ls hl => ?_)
  have key_3 : ∀ (fu_5 : Nat) (v1w6 : Int32) (v2w6 : Nat) (gRw6 : Nat → Int64) (gPw6 : Nat → Int64) (M_13 : Hp) (H_14 : Heap) (locs : List Loc) (ls : Array Slot), 100 - v2w6 < fu_5 → (v1w6 = (-1) ∨ ∃ j : Nat, j < 100 ∧ v1w6 = nI j) → M_13 oa = .inr (7, [.ref y0, .ref y1, .ref y2, .ref y3, .ref y4, .int (nI y5)]) → M_13 y3 = .inl (cy 15, 100, .inr (.inl (gRw6))) → M_13 y2 = .inl (cy 15, 100, .inr (.inl (gPw6))) → v2w6 ≤ 100 → v2w6 ≤ y5 → FBM (rsC rS y5 cc) v1w6 v2w6 → (∀ j : Nat, j < y5 → (gRw6 j).toInt = rsC rS y5 cc j) → (∀ j : Nat, j < y5 → (gPw6 j).toInt = pS j + cnC rS y5 cc j) → WOK cy K L M_13 → fr K L [69, 70] M M_13 → va_P D vwCl ([] ++ va_pl L M_13) H_14 → va_D A ([] ++ va_pl L M_13) → va_S A s.heap H_14 locs → lv_has ls 3 [(2, .int (nI v2w6)), (1, .int v1w6), (0, .ref oa)] → W p l e R s m ([.ref oa] : List Value).toArray below meth c H_14 locs 0 0 Q (F0 m 4 ls []) := by
    intro fu_5
    induction fu_5 with
    | zero => intro v1w6 v2w6 gRw6 gPw6 M_13 H_14 locs ls h; exact absurd h (Nat.not_lt_zero _)
    | succ fu_5 ih_4 =>
      intro v1w6 v2w6 gRw6 gPw6 M_13 H_14 locs ls hfu hq_7 hM_15 hM_16 hM_17 hx_8 hx_9 hx_10 hx_11 hx_12 hW hF hP hD hS hl
      rcases hq_7 with rfl | ⟨j_18, hj_19, rfl⟩
      · have hz := rfl (a := 0)
        have hR3 := hx_11
        have hP2 := hx_12
        refine lv_iload_n hx hb dX7_giveCoin_4 rfl (lv_at hl 0 rfl) ?_
        refine lv_aload_n hx hb dX7_giveCoin_5 rfl (lv_at hl 2 rfl) ?_
        refine pg_get (D := D) (ci := 7) (v := .int (nI y5)) (C := RX7) (T := TX7) (N := 6) hx hb hg inG7 hown hK hP ia.1 hM_15 rfl 5 (by decide) (hg _ wd_139) (fun _ h9 => h9) rfl dX7_giveCoin_6 ?_
        refine lv_icmp_ge (tgt := 41) hx hb dX7_giveCoin_9 (by decide) (fun c_20 => ?_) (fun c_20 => ?_)
        · have hz := rfl (a := 0)
          have n_21 : y5 ≤ v2w6 := (iLE (a := y5) (b := v2w6) (by omega) (by omega)).mp c_20
          exfalso
          have h9 := FBM.no0 hx_10
          omega
        · have hz := rfl (a := 0)
          have n_22 : ¬ (y5 ≤ v2w6) := fun q => c_20 ((iLE (a := y5) (b := v2w6) (by omega) (by omega)).mpr q)
          refine lv_iload_n hx hb dX7_giveCoin_12 rfl (lv_at hl 1 rfl) ?_
          refine lv_iconst (v := (-1)) hx hb dX7_giveCoin_13 (by decide) ?_
          refine lv_icmp_eq (tgt := 33) hx hb dX7_giveCoin_14 (by decide) (fun _ => ?_) (fun c_23 => absurd c_23 (by decide))
          refine lv_iload_n hx hb dX7_giveCoin_33 rfl (lv_at hl 0 rfl) ?_
          refine lv_istore_n (lv' := [(1, .int (nI v2w6)), (2, .int (nI v2w6)), (0, .ref oa)]) hx hb dX7_giveCoin_34 rfl hl (by decide) rfl (fun ls hl => ?_)
          refine lv_iinc (v := (nI (v2w6 + 1))) (lv' := [(2, .int (nI (v2w6 + 1))), (1, .int (nI v2w6)), (0, .ref oa)]) hx hb dX7_giveCoin_35 hl (k := 1) rfl (nI_1 v2w6) (by decide) rfl (fun ls hl => ?_)
          refine lv_goto (tgt := 4) hx hb dX7_giveCoin_38 (by decide) ?_
          exact ih_4 (nI v2w6) (v2w6 + 1) gRw6 gPw6 M_13 H_14 _ _ (by omega) (Or.inr ⟨v2w6, by omega, rfl⟩) hM_15 hM_16 hM_17 (by omega) (by omega) (FBM.one hx_10) hR3 hP2 hW hF hP hD hS (lv_sub hl [0, 1, 2] rfl)
      · have hz := rfl (a := 0)
        have hR3 := hx_11
        have hP2 := hx_12
        refine lv_iload_n hx hb dX7_giveCoin_4 rfl (lv_at hl 0 rfl) ?_
        refine lv_aload_n hx hb dX7_giveCoin_5 rfl (lv_at hl 2 rfl) ?_
        refine pg_get (D := D) (ci := 7) (v := .int (nI y5)) (C := RX7) (T := TX7) (N := 6) hx hb hg inG7 hown hK hP ia.1 hM_15 rfl 5 (by decide) (hg _ wd_139) (fun _ h9 => h9) rfl dX7_giveCoin_6 ?_
        refine lv_icmp_ge (tgt := 41) hx hb dX7_giveCoin_9 (by decide) (fun c_24 => ?_) (fun c_24 => ?_)
        · have hz := rfl (a := 0)
          have n_25 : y5 ≤ v2w6 := (iLE (a := y5) (b := v2w6) (by omega) (by omega)).mp c_24
          have hbm := FBM.at (by omega) hx_10
          rw [show v2w6 = y5 by omega] at hbm
          have hbr : rnk rS y5 j_18 = cc := coin hr0 hcc hbm.1 hbm.2
          refine lv_iload_n hx hb dX7_giveCoin_41 rfl (lv_at hl 1 rfl) ?_
          refine lv_iconst (v := (-1)) hx hb dX7_giveCoin_42 (by decide) ?_
          refine lv_icmp_eq (tgt := 65) hx hb dX7_giveCoin_43 (by decide) (fun c_26 => absurd c_26 (nI_ne_m1 (by omega))) (fun _ => ?_)
          refine lv_aload_n hx hb dX7_giveCoin_46 rfl (lv_at hl 2 rfl) ?_
          refine pg_get (D := D) (ci := 7) (v := .ref y2) (C := RX7) (T := TX7) (N := 6) hx hb hg inG7 hown hK hP ia.1 hM_15 rfl 2 (by decide) (hg _ wd_142) (fun _ h9 => h9) rfl dX7_giveCoin_47 ?_
          refine lv_iload_n hx hb dX7_giveCoin_50 rfl (lv_at hl 1 rfl) ?_
          refine lv_dup2_11 hx hb dX7_giveCoin_51 rfl rfl ?_
          refine pg_lald hx hb hK hP hy2.1 1 hM_17 rfl (inbN j_18 100 (by omega) (by omega)) dX7_giveCoin_52 ?_
          refine lv_topl (fun f_27 ef_27 => ?_)
          refine lv_lconst (v := 1) hx hb dX7_giveCoin_53 (by decide) ?_
          refine lv_ladd hx hb dX7_giveCoin_54 ?_
          refine lv_topl (fun f_28 ef_28 => ?_)
          have hcb : 0 ≤ cnC rS y5 cc j_18 ∧ cnC rS y5 cc j_18 ≤ 1 := by unfold cnC; by_cases z9 : rnk rS y5 j_18 < cc; rw [if_pos z9]; decide; rw [if_neg z9]; decide
          have hp9 := hp0 j_18 hbm.1
          have hq9 := hP2 j_18 hbm.1
          have hg9 : (f_27 : Int64).toInt = pS j_18 + cnC rS y5 cc j_18 := by rw [ef_27, nI_cl (by omega)]; exact hq9
          have hinc : (f_28 : Int64).toInt = (gPw6 j_18).toInt + 1 := by rw [hq9, ← hg9]; exact lA ef_28 (by rw [show (1 : Int64).toInt = 1 from rfl]; omega) (by rw [show (1 : Int64).toInt = 1 from rfl]; omega)
          refine pg_last hx hb hK hP hD hS hy2.1 1 hM_17 rfl (inbN j_18 100 (by omega) (by omega)) dX7_giveCoin_55 (fun H_29 locs hP hD hS => ?_)
          obtain ⟨M_30, eM_30⟩ : ∃ M1 : Hp, M1 = va_up M_13 y2 (.inl (cy 15, 100, .inr (.inl (vp_updL gPw6 ((nI j_18) : Int32).toNatClampNeg f_28)))) := ⟨_, rfl⟩
          have hP : va_P D vwCl ([] ++ va_pl L M_30) H_29 := by rw [eM_30]; exact hP
          have hD : va_D A ([] ++ va_pl L M_30) := by rw [eM_30]; exact hD
          have hW : WOK cy K L M_30 := by rw [eM_30]; exact hW.up_69 hy2 ⟨_, rfl⟩
          have hF : fr K L [69, 70] M M_30 := by rw [eM_30]; exact hF.up hy2 (by decide)
          have hM_31 : M_30 y2 = .inl (cy 15, 100, .inr (.inl (vp_updL gPw6 ((nI j_18) : Int32).toNatClampNeg f_28))) := by rw [eM_30]; exact va_up_self _ _ _
          have hM_32 : M_30 oa = .inr (7, [.ref y0, .ref y1, .ref y2, .ref y3, .ref y4, .int (nI y5)]) := by rw [eM_30, va_up_ne _ _ (ia.neT hy2 (by decide))]; exact hM_15
          have hM_33 : M_30 y3 = .inl (cy 15, 100, .inr (.inl (gRw6))) := by rw [eM_30, va_up_ne _ _ (hy3.neT hy2 (by decide))]; exact hM_16
          obtain ⟨f_34, ef_34⟩ : ∃ f : Nat → Int64, f = vp_updL gPw6 ((nI j_18) : Int32).toNatClampNeg f_28 := ⟨_, rfl⟩
          rw [← ef_34] at hM_31
          refine lv_aload_n hx hb dX7_giveCoin_56 rfl (lv_at hl 2 rfl) ?_
          refine pg_get (D := D) (ci := 7) (v := .ref y3) (C := RX7) (T := TX7) (N := 6) hx hb hg inG7 hown hK hP ia.1 hM_32 rfl 3 (by decide) (hg _ wd_143) (fun _ h9 => h9) rfl dX7_giveCoin_57 ?_
          refine lv_iload_n hx hb dX7_giveCoin_60 rfl (lv_at hl 1 rfl) ?_
          refine lv_ldc2 (v := (-1)) hx hb hown (hg _ wd_144) dX7_giveCoin_61 ?_
          refine pg_last hx hb hK hP hD hS hy3.1 1 hM_33 rfl (inbN j_18 100 (by omega) (by omega)) dX7_giveCoin_64 (fun H_35 locs hP hD hS => ?_)
          obtain ⟨M_36, eM_36⟩ : ∃ M1 : Hp, M1 = va_up M_30 y3 (.inl (cy 15, 100, .inr (.inl (vp_updL gRw6 ((nI j_18) : Int32).toNatClampNeg (-1))))) := ⟨_, rfl⟩
          have hP : va_P D vwCl ([] ++ va_pl L M_36) H_35 := by rw [eM_36]; exact hP
          have hD : va_D A ([] ++ va_pl L M_36) := by rw [eM_36]; exact hD
          have hW : WOK cy K L M_36 := by rw [eM_36]; exact hW.up_70 hy3 ⟨_, rfl⟩
          have hF : fr K L [69, 70] M M_36 := by rw [eM_36]; exact hF.up hy3 (by decide)
          have hM_37 : M_36 y3 = .inl (cy 15, 100, .inr (.inl (vp_updL gRw6 ((nI j_18) : Int32).toNatClampNeg (-1)))) := by rw [eM_36]; exact va_up_self _ _ _
          have hM_38 : M_36 y2 = .inl (cy 15, 100, .inr (.inl (f_34))) := by rw [eM_36, va_up_ne _ _ (hy2.neT hy3 (by decide))]; exact hM_31
          have hM_39 : M_36 oa = .inr (7, [.ref y0, .ref y1, .ref y2, .ref y3, .ref y4, .int (nI y5)]) := by rw [eM_36, va_up_ne _ _ (ia.neT hy3 (by decide))]; exact hM_32
          obtain ⟨f_40, ef_40⟩ : ∃ f : Nat → Int64, f = vp_updL gRw6 ((nI j_18) : Int32).toNatClampNeg (-1) := ⟨_, rfl⟩
          rw [← ef_40] at hM_37
          rw [hQ]
          exact W.vret hx hb hr (fun t ht hW9 => ⟨⟨M_36, rfl, ⟨hW, hF, ⟨fun j hj => by rw [LFc_of hM_37, ef_40, coin_r hbm.1 hbr j hj, nI_cl (by omega)]; by_cases z9 : j = j_18; rw [z9, vp_updL_self, if_pos rfl]; (first | done | rfl); rw [vp_updL_ne _ _ z9, if_neg z9]; exact hR3 j hj, fun j hj => by rw [LFc_of hM_38, ef_34, coin_p hbm.1 hbr j hj, nI_cl (by omega)]; by_cases z9 : j = j_18; rw [z9, vp_updL_self, if_pos rfl, ← Int.add_assoc, ← hP2 _ hbm.1]; exact hinc; rw [vp_updL_ne _ _ z9, if_neg z9]; exact hP2 j hj⟩, trivial⟩, ⟨by rw [ht]; exact hP, hD⟩⟩, hS.F ht⟩) hS.2.2 dX7_giveCoin_65
        · have hz := rfl (a := 0)
          have n_41 : ¬ (y5 ≤ v2w6) := fun q => c_24 ((iLE (a := y5) (b := v2w6) (by omega) (by omega)).mpr q)
          refine lv_iload_n hx hb dX7_giveCoin_12 rfl (lv_at hl 1 rfl) ?_
          refine lv_iconst (v := (-1)) hx hb dX7_giveCoin_13 (by decide) ?_
          refine lv_icmp_eq (tgt := 33) hx hb dX7_giveCoin_14 (by decide) (fun c_42 => absurd c_42 (nI_ne_m1 (by omega))) (fun _ => ?_)
          refine lv_aload_n hx hb dX7_giveCoin_17 rfl (lv_at hl 2 rfl) ?_
          refine pg_get (D := D) (ci := 7) (v := .ref y3) (C := RX7) (T := TX7) (N := 6) hx hb hg inG7 hown hK hP ia.1 hM_15 rfl 3 (by decide) (hg _ wd_143) (fun _ h9 => h9) rfl dX7_giveCoin_18 ?_
          refine lv_iload_n hx hb dX7_giveCoin_21 rfl (lv_at hl 0 rfl) ?_
          refine pg_lald hx hb hK hP hy3.1 1 hM_16 rfl (inbN v2w6 100 (by omega) (by omega)) dX7_giveCoin_22 ?_
          refine lv_topl (fun f_43 ef_43 => ?_)
          refine lv_aload_n hx hb dX7_giveCoin_23 rfl (lv_at hl 2 rfl) ?_
          refine pg_get (D := D) (ci := 7) (v := .ref y3) (C := RX7) (T := TX7) (N := 6) hx hb hg inG7 hown hK hP ia.1 hM_15 rfl 3 (by decide) (hg _ wd_143) (fun _ h9 => h9) rfl dX7_giveCoin_24 ?_
          refine lv_iload_n hx hb dX7_giveCoin_27 rfl (lv_at hl 1 rfl) ?_
          refine pg_lald hx hb hK hP hy3.1 1 hM_16 rfl (inbN j_18 100 (by omega) (by omega)) dX7_giveCoin_28 ?_
          refine lv_topl (fun f_44 ef_44 => ?_)
          refine W.lcmp hx hb dX7_giveCoin_29 ?_
          refine lv_if_le (tgt := 35) hx hb dX7_giveCoin_30 (by decide) (fun c_45 => ?_) (fun c_45 => ?_)
          · have hz := rfl (a := 0)
            have d_46 : f_43 ≤ f_44 := lc_let c_45
            refine lv_iinc (v := (nI (v2w6 + 1))) (lv' := [(2, .int (nI (v2w6 + 1))), (1, .int (nI j_18)), (0, .ref oa)]) hx hb dX7_giveCoin_35 hl (k := 0) rfl (nI_1 v2w6) (by decide) rfl (fun ls hl => ?_)
            refine lv_goto (tgt := 4) hx hb dX7_giveCoin_38 (by decide) ?_
            have hbn9 := (FBM.at (by omega) hx_10).1
            have ha9 : (f_43 : Int64).toInt = rsC rS y5 cc v2w6 := by rw [ef_43, nI_cl (by omega)]; exact hR3 _ (by omega)
            have hb9 : (f_44 : Int64).toInt = rsC rS y5 cc j_18 := by rw [ef_44, nI_cl (by omega)]; exact hR3 _ (by omega)
            exact ih_4 (nI j_18) (v2w6 + 1) gRw6 gPw6 M_13 H_14 _ _ (by omega) (Or.inr ⟨j_18, by omega, rfl⟩) hM_15 hM_16 hM_17 (by omega) (by omega) (FBM.st (by omega) hx_10 (by rw [← ha9, ← hb9]; exact Int64.le_iff_toInt_le.mp d_46)) hR3 hP2 hW hF hP hD hS (lv_sub hl [0, 1, 2] rfl)
          · have hz := rfl (a := 0)
            have d_46 : ¬ f_43 ≤ f_44 := lc_lef c_45
            refine lv_iload_n hx hb dX7_giveCoin_33 rfl (lv_at hl 0 rfl) ?_
            refine lv_istore_n (lv' := [(1, .int (nI v2w6)), (2, .int (nI v2w6)), (0, .ref oa)]) hx hb dX7_giveCoin_34 rfl hl (by decide) rfl (fun ls hl => ?_)
            refine lv_iinc (v := (nI (v2w6 + 1))) (lv' := [(2, .int (nI (v2w6 + 1))), (1, .int (nI v2w6)), (0, .ref oa)]) hx hb dX7_giveCoin_35 hl (k := 1) rfl (nI_1 v2w6) (by decide) rfl (fun ls hl => ?_)
            refine lv_goto (tgt := 4) hx hb dX7_giveCoin_38 (by decide) ?_
            have hbn9 := (FBM.at (by omega) hx_10).1
            have ha9 : (f_43 : Int64).toInt = rsC rS y5 cc v2w6 := by rw [ef_43, nI_cl (by omega)]; exact hR3 _ (by omega)
            have hb9 : (f_44 : Int64).toInt = rsC rS y5 cc j_18 := by rw [ef_44, nI_cl (by omega)]; exact hR3 _ (by omega)
            exact ih_4 (nI v2w6) (v2w6 + 1) gRw6 gPw6 M_13 H_14 _ _ (by omega) (Or.inr ⟨v2w6, by omega, rfl⟩) hM_15 hM_16 hM_17 (by omega) (by omega) (FBM.up (by omega) hx_10 (by omega) (by rw [← ha9, ← hb9]; exact Int64.lt_iff_toInt_lt.mp (Int64.not_le.mp d_46))) hR3 hP2 hW hF hP hD hS (lv_sub hl [0, 1, 2] rfl)
  exact key_3 (100 - 0 + 1) (-1) 0 f1 f2 M s.heap _ _ (by omega) (Or.inl rfl) hMy hM1 hM2 (by omega) (by omega) FBM.fst hR3 hP2 hW hF hP hD hS (lv_sub hl [0, 1, 2] rfl)
set_option maxHeartbeats 4000000 in
set_option maxRecDepth 100000 in
theorem e_fill69 (l : Launch) (D : va_G) (cy : Nat → ClassId) (K : Kp) (L : List Nat) (M : Hp) (sz : Nat) (k1 : Nat) (k2 : Int64) (hW : WOK cy K L M) (ik1 : isk K L k1 69 100) : Met l yJ7_fill_d0a16 (wsM yJ7_fill_d0a16 cJ7_fill_d0a16 5 none) ({ frames := 0, cells := 0, slots := 0, locals := 0 }) (va_Pc [.ref k1, .long k2] (PG D cy [] L M sz)) (va_Qv (fun (M9 : Hp) => WOK cy K L M9 ∧ fr K L [69] M M9 ∧ ((∀ i : Nat, i < 100 → LFc (M9 k1) i = k2)) ∧ (True)) (fun M9 t => PQ D [] L M9 (va_A ([] ++ va_pl L M) sz) t) (va_A ([] ++ va_pl L M) sz)) 0 0 (va_A ([] ++ va_pl L M) sz) := by
  refine Met.ofW (cc := cJ7_fill_d0a16) (maxL := 5) (ret := none) (by decide) rfl ?_
  intro p e s m args below meth c s₁ B hml hv
  obtain ⟨rfl, hsz, hP, hK, hD0, hN⟩ := hv
  have hx := B.exec
  have hb := B.bytes
  have hr := B.returns
  have hts := atoms_spec (ws := (wsM yJ7_fill_d0a16 cJ7_fill_d0a16 5 none)) B.pre
  have hg : ∀ w ∈ lw_good, w.before _ s = true := fun w h => hts w (List.mem_cons_of_mem _ h)
  have hown : s.vm.findClass RJ7 = some m.cls := findClass_of_methodNamed B.named
  have hlocks := B.notSynchronized
  subst hsz
  have hD := hD0.self (sz := s.heap.size)
  generalize hAe : va_A ([] ++ va_pl L M) s.heap.size = A at hD ⊢
  have hA : ∀ q : Nat, s.heap.size ≤ q → A q := fun q h => by rw [← hAe]; exact Or.inr h
  have hS : va_S A s.heap s.heap [] := va_S.rf
  have hl := lv_entry ([.ref k1, .long k2]) (n := 5) (Nat.le_of_ble_eq_true rfl)
  rw [lg_entry_eq]
  generalize (lg_sl ([.ref k1, .long k2]) ++ List.replicate (5 - (lg_sl ([.ref k1, .long k2])).length) Slot.unset).toArray = ls at hl ⊢
  refine W.nameQ (fun Q hQ => ?_)
  refine W.nameR (fun R hR => ?_)
  have hRf : 0 ≤ R.frames := by rw [hR]; exact Nat.le_of_ble_eq_true rfl
  have hRl : 0 ≤ R.locals := by rw [hR]; exact Nat.le_of_ble_eq_true rfl
  have hRc : 0 ≤ R.cells := by rw [hR]; exact Nat.le_of_ble_eq_true rfl
  have hRs : 0 ≤ R.slots := by rw [hR]; exact Nat.le_of_ble_eq_true rfl
  have hF : fr K L [69] M M := fr.rf
  have hl : lv_has ls 5 [(0, .ref k1), (1, .long k2)] := hl
  refine lv_iconst (v := 0) hx hb dJ7_fill_d0a16_0 (by decide) ?_
  refine lv_istore_n (lv' := [(3, .int 0), (0, .ref k1), (1, .long k2)]) hx hb dJ7_fill_d0a16_1 rfl hl (by decide) rfl (fun ls hl => ?_)
  refine lv_aload_n hx hb dJ7_fill_d0a16_2 rfl (lv_at hl 1 rfl) ?_
  obtain ⟨f1, hM1⟩ := hW.open_69 ik1
  refine pg_alen (v := 100) hx hb hK hP ik1.1 1 hM1 rfl (by rfl) dJ7_fill_d0a16_3 ?_
  refine lv_istore (lv' := [(4, .int 100), (3, .int 0), (0, .ref k1), (1, .long k2)]) hx hb dJ7_fill_d0a16_4 hl (by decide) rfl (fun ls hl => ?_)
  have key_2 : ∀ (fu_4 : Nat) (v3w5 : Nat) (gFw5 : Nat → Int64) (M_8 : Hp) (H_9 : Heap) (locs : List Loc) (ls : Array Slot), 100 - v3w5 < fu_4 → M_8 k1 = .inl (cy 15, 100, .inr (.inl (gFw5))) → v3w5 ≤ 100 → (∀ i : Nat, i < v3w5 → gFw5 i = k2) → WOK cy K L M_8 → fr K L [69] M M_8 → va_P D vwCl ([] ++ va_pl L M_8) H_9 → va_D A ([] ++ va_pl L M_8) → va_S A s.heap H_9 locs → lv_has ls 5 [(4, .int 100), (3, .int (nI v3w5)), (0, .ref k1), (1, .long k2)] → W p l e R s m ([.ref k1, .long k2] : List Value).toArray below meth c H_9 locs 0 0 Q (F0 m 6 ls []) := by
    intro fu_4
    induction fu_4 with
    | zero => intro v3w5 gFw5 M_8 H_9 locs ls h; exact absurd h (Nat.not_lt_zero _)
    | succ fu_4 ih_3 =>
      intro v3w5 gFw5 M_8 H_9 locs ls hfu hM_10 hx_6 hx_7 hW hF hP hD hS hl
      refine lv_iload_n hx hb dJ7_fill_d0a16_6 rfl (lv_at hl 1 rfl) ?_
      refine lv_iload hx hb dJ7_fill_d0a16_7 (lv_at hl 0 rfl) ?_
      refine lv_icmp_ge (tgt := 22) hx hb dJ7_fill_d0a16_9 (by decide) (fun c_11 => ?_) (fun c_11 => ?_)
      · have hz := rfl (a := 0)
        have n_12 : 100 ≤ v3w5 := (iLE (a := 100) (b := v3w5) (by omega) (by omega)).mp c_11
        rw [hQ]
        exact W.vret hx hb hr (fun t ht hW9 => ⟨⟨M_8, rfl, ⟨hW, hF, (fun i hi => by rw [LFc_of hM_10]; exact hx_7 i (by omega)), trivial⟩, ⟨by rw [ht]; exact hP, hD⟩⟩, hS.F ht⟩) hS.2.2 dJ7_fill_d0a16_22
      · have hz := rfl (a := 0)
        have n_13 : ¬ (100 ≤ v3w5) := fun q => c_11 ((iLE (a := 100) (b := v3w5) (by omega) (by omega)).mpr q)
        refine lv_aload_n hx hb dJ7_fill_d0a16_12 rfl (lv_at hl 2 rfl) ?_
        refine lv_iload_n hx hb dJ7_fill_d0a16_13 rfl (lv_at hl 1 rfl) ?_
        refine lv_lload_n hx hb dJ7_fill_d0a16_14 rfl (lv_at hl 3 rfl) ?_
        refine pg_last hx hb hK hP hD hS ik1.1 1 hM_10 rfl (inbN v3w5 100 (by omega) (by omega)) dJ7_fill_d0a16_15 (fun H_14 locs hP hD hS => ?_)
        obtain ⟨M_15, eM_15⟩ : ∃ M1 : Hp, M1 = va_up M_8 k1 (.inl (cy 15, 100, .inr (.inl (vp_updL gFw5 ((nI v3w5) : Int32).toNatClampNeg k2)))) := ⟨_, rfl⟩
        have hP : va_P D vwCl ([] ++ va_pl L M_15) H_14 := by rw [eM_15]; exact hP
        have hD : va_D A ([] ++ va_pl L M_15) := by rw [eM_15]; exact hD
        have hW : WOK cy K L M_15 := by rw [eM_15]; exact hW.up_69 ik1 ⟨_, rfl⟩
        have hF : fr K L [69] M M_15 := by rw [eM_15]; exact hF.up ik1 (by decide)
        have hM_16 : M_15 k1 = .inl (cy 15, 100, .inr (.inl (vp_updL gFw5 ((nI v3w5) : Int32).toNatClampNeg k2))) := by rw [eM_15]; exact va_up_self _ _ _
        obtain ⟨f_17, ef_17⟩ : ∃ f : Nat → Int64, f = vp_updL gFw5 ((nI v3w5) : Int32).toNatClampNeg k2 := ⟨_, rfl⟩
        rw [← ef_17] at hM_16
        refine lv_iinc (v := (nI (v3w5 + 1))) (lv' := [(3, .int (nI (v3w5 + 1))), (4, .int 100), (0, .ref k1), (1, .long k2)]) hx hb dJ7_fill_d0a16_16 hl (k := 1) rfl (nI_1 v3w5) (by decide) rfl (fun ls hl => ?_)
        refine lv_goto (tgt := 6) hx hb dJ7_fill_d0a16_19 (by decide) ?_
        exact ih_3 (v3w5 + 1) f_17 M_15 H_14 _ _ (by omega) hM_16 (by omega) (by rw [ef_17, nI_cl (by omega)]; intro i hi; by_cases z9 : i = v3w5; rw [z9, vp_updL_self]; rw [vp_updL_ne _ _ z9]; exact hx_7 i (by omega)) hW hF hP hD hS (lv_sub hl [1, 0, 2, 3] rfl)
  exact key_2 (100 - 0 + 1) 0 f1 M s.heap _ _ (by omega) hM1 (by omega) (fun i h => absurd h (Nat.not_lt_zero _)) hW hF hP hD hS (lv_sub hl [0, 1, 2, 3] rfl)
set_option maxHeartbeats 4000000 in
set_option maxRecDepth 100000 in
theorem e_cutP (l : Launch) (D : va_G) (cy : Nat → ClassId) (K : Kp) (L : List Nat) (M : Hp) (sz : Nat) (oa : Nat) (k1 : Int64) (y0 : Nat) (y1 : Nat) (y2 : Nat) (y3 : Nat) (y4 : Nat) (y5 : Nat) (hW : WOK cy K L M) (ia : isk K L oa 7 0) (hWB : (∀ j : Nat, j < y5 → 0 ≤ wI (LFc (M y1)) j ∧ wI (LFc (M y1)) j ≤ 1000)) (hkB : (-1000000000000000 ≤ k1.toInt ∧ k1.toInt ≤ 1000000000000000)) (hMy : M oa = .inr (7, [.ref y0, .ref y1, .ref y2, .ref y3, .ref y4, .int (nI y5)])) (hy0 : isk K L y0 64 100) (hy1 : isk K L y1 68 100) (hy2 : isk K L y2 69 100) (hy3 : isk K L y3 70 100) (hy4 : isk K L y4 71 100) (hy5 : y5 ≤ 100) : Met l yX7_cut (wsM yX7_cut cX7_cut 12 (some .long)) ({ frames := 1, cells := 0, slots := 0, locals := 24 }) (va_Pc [.ref oa, .long k1] (PG D cy [] L M sz)) (va_Ql (fun (r : Int64) (M9 : Hp) => WOK cy K L M9 ∧ fr K L [69, 70] M M9 ∧ (CUTP (wI (LFc (M y1))) y5 k1.toInt (wI (LFc (M9 y2)))) ∧ ((∃ (vr : Int64), r = vr ∧ (vr = if (sumI (wI (LFc (M y1))) y5) = 0 then 0 else k1)))) (fun M9 t => PQ D [] L M9 (va_A ([] ++ va_pl L M) sz) t) (va_A ([] ++ va_pl L M) sz)) 0 0 (va_A ([] ++ va_pl L M) sz) := by
  refine Met.ofW (cc := cX7_cut) (maxL := 12) (ret := (some .long)) (by decide) rfl ?_
  intro p e s m args below meth c s₁ B hml hv
  obtain ⟨rfl, hsz, hP, hK, hD0, hN⟩ := hv
  have hx := B.exec
  have hb := B.bytes
  have hr := B.returns
  have hts := atoms_spec (ws := (wsM yX7_cut cX7_cut 12 (some .long))) B.pre
  have hg : ∀ w ∈ lw_good, w.before _ s = true := fun w h => hts w (List.mem_cons_of_mem _ h)
  have hown : s.vm.findClass RX7 = some m.cls := findClass_of_methodNamed B.named
  have hlocks := B.notSynchronized
  subst hsz
  have hD := hD0.self (sz := s.heap.size)
  generalize hAe : va_A ([] ++ va_pl L M) s.heap.size = A at hD ⊢
  have hA : ∀ q : Nat, s.heap.size ≤ q → A q := fun q h => by rw [← hAe]; exact Or.inr h
  have hS : va_S A s.heap s.heap [] := va_S.rf
  have hl := lv_entry ([.ref oa, .long k1]) (n := 12) (Nat.le_of_ble_eq_true rfl)
  rw [lg_entry_eq]
  generalize (lg_sl ([.ref oa, .long k1]) ++ List.replicate (12 - (lg_sl ([.ref oa, .long k1])).length) Slot.unset).toArray = ls at hl ⊢
  refine W.nameQ (fun Q hQ => ?_)
  refine W.nameR (fun R hR => ?_)
  have hRf : 1 ≤ R.frames := by rw [hR]; exact Nat.le_of_ble_eq_true rfl
  have hRl : 24 ≤ R.locals := by rw [hR]; exact Nat.le_of_ble_eq_true rfl
  have hRc : 0 ≤ R.cells := by rw [hR]; exact Nat.le_of_ble_eq_true rfl
  have hRs : 0 ≤ R.slots := by rw [hR]; exact Nat.le_of_ble_eq_true rfl
  have hF : fr K L [69, 70] M M := fr.rf
  have hl : lv_has ls 12 [(0, .ref oa), (1, .long k1)] := hl
  have hT9 := sumL_I (f := LFc (M y1)) y5 (by omega) (fun j hj => ⟨(hWB j hj).1, Int.le_trans (hWB j hj).2 (by decide)⟩)
  have hAn := abI_nn k1.toInt
  have hAb : (abI k1.toInt) ≤ 1000000000000000 := by unfold abI; by_cases z9 : 0 < k1.toInt; rw [if_pos z9]; omega; rw [if_neg z9]; omega
  refine lv_aload_n hx hb dX7_cut_0 rfl (lv_at hl 0 rfl) ?_
  have hPc : va_P D vwCl ([] ++ va_pl L M) s.heap := hP
  have hDc : va_D A ([] ++ va_pl L M) := hD
  have hFc : ∀ q, va_A ([] ++ va_pl L M) s.heap.size q → A q := pg_free hDc hS hA
  refine va_calll (va_runV (As := []) (rest := []) ⟨hx, hb, hml, hown, hg⟩ (e_total l D cy K L M s.heap.size oa y0 y1 y2 y3 y4 y5 hW ia hMy hy0 hy1 hy2 hy3 hy4 hy5) (cwV 0 hg (gV wd_145 wd_146 wd_147 wd_148 wd_149) rfl rfl rfl (by decide +kernel) ⟨(Nat.le_trans (Nat.le_of_ble_eq_true rfl) hRf), (Nat.le_trans (Nat.le_of_ble_eq_true rfl) hRl)⟩) ⟨PG.blind, pg_recv hK hP ia.1 hMy rfl, fun U hU hW => ⟨rfl, PG.at hPc hK hDc hN hU hW⟩⟩ rfl rfl hl.1 rfl (lv_room (Nat.le_of_ble_eq_true rfl)) dX7_cut_1 ⟨(Nat.le_trans (Nat.le_of_ble_eq_true rfl) hRc), (Nat.le_trans (Nat.le_of_ble_eq_true rfl) hRs)⟩) hS (fun q _ h => hFc q h) hFc (fun r_2 M_3 t H_1 locs ht hvm hw hB hz1 hk1 hS => ?_)
  have hp_4 := hw
  obtain ⟨hP1, hD1⟩ := hB
  rw [ht] at hP1
  have hP : va_P D vwCl ([] ++ va_pl L M) H_1 := hP1
  have hD : va_D A ([] ++ va_pl L M) := hD1.mono hFc
  obtain ⟨vr_5, hr_7, c_6⟩ := hp_4
  have hq := Eq.symm hr_7
  subst hq
  have htt : (vr_5 : Int64).toInt = (sumI (wI (LFc (M y1))) y5) := by rw [c_6]; exact hT9.1
  refine lv_lstore_n (lv' := [(3, .long vr_5), (0, .ref oa), (1, .long k1)]) hx hb dX7_cut_4 rfl hl (by decide) rfl (fun ls hl => ?_)
  refine lv_lload_n hx hb dX7_cut_5 rfl (lv_at hl 0 rfl) ?_
  refine lv_lconst (v := 0) hx hb dX7_cut_6 (by decide) ?_
  refine W.lcmp hx hb dX7_cut_7 ?_
  refine lv_if_gt (tgt := 21) hx hb dX7_cut_8 (by decide) (fun c_8 => ?_) (fun c_8 => ?_)
  · have hz := rfl (a := 0)
    have d_9 : 0 < vr_5 := lc_gtt c_8
    have htp : 0 < (sumI (wI (LFc (M y1))) y5) := by have h9 := Int64.lt_iff_toInt_lt.mp d_9; rw [htt, show (0 : Int64).toInt = 0 from rfl] at h9; exact h9
    have hlf := lft_b (s := (abI k1.toInt)) htp
    have hrb : ∀ j : Nat, 0 ≤ (rst (abI k1.toInt) (sumI (wI (LFc (M y1))) y5) (wI (LFc (M y1)))) j ∧ (rst (abI k1.toInt) (sumI (wI (LFc (M y1))) y5) (wI (LFc (M y1)))) j < (sumI (wI (LFc (M y1))) y5) := fun j => rst_b htp
    have hbb : ∀ j : Nat, j < y5 → 0 ≤ (bas (abI k1.toInt) (sumI (wI (LFc (M y1))) y5) (wI (LFc (M y1)))) j ∧ (bas (abI k1.toInt) (sumI (wI (LFc (M y1))) y5) (wI (LFc (M y1)))) j ≤ 1000000000000000 := fun j hj => have g9 := bas_b (j := j) hAn htp (hWB j hj).1 (sumI_one y5 hj (fun i hi => (hWB i hi).1)); ⟨g9.1, Int.le_trans g9.2 hAb⟩
    refine lv_lload_n hx hb dX7_cut_21 rfl (lv_at hl 2 rfl) ?_
    refine va_mabs_long hx hb (by rw [hml]; exact hl.1.symm) hown (hg _ wd_150) (hg _ wd_151) (hg _ wd_12) (hg _ wd_152) (Nat.le_trans (Nat.le_of_ble_eq_true rfl) hRf) (Nat.le_trans (Nat.le_of_ble_eq_true rfl) hRl) (Nat.le_trans (Nat.le_of_ble_eq_true rfl) hRc) (Nat.le_trans (Nat.le_of_ble_eq_true rfl) hRs) dX7_cut_22 ?_
    refine lv_topl (fun f_10 ef_10 => ?_)
    refine lv_lstore (lv' := [(5, .long f_10), (3, .long vr_5), (0, .ref oa), (1, .long k1)]) hx hb dX7_cut_25 hl (by decide) rfl (fun ls hl => ?_)
    refine lv_lload hx hb dX7_cut_27 (lv_at hl 0 rfl) ?_
    have hsz : (f_10 : Int64).toInt = (abI k1.toInt) := labs ef_10 (by omega)
    refine lv_lstore (lv' := [(7, .long f_10), (5, .long f_10), (3, .long vr_5), (0, .ref oa), (1, .long k1)]) hx hb dX7_cut_29 hl (by decide) rfl (fun ls hl => ?_)
    refine lv_iconst (v := 0) hx hb dX7_cut_31 (by decide) ?_
    refine lv_istore (lv' := [(9, .int 0), (7, .long f_10), (5, .long f_10), (3, .long vr_5), (0, .ref oa), (1, .long k1)]) hx hb dX7_cut_32 hl (by decide) rfl (fun ls hl => ?_)
    obtain ⟨f11, hM11⟩ := hW.open_69 hy2
    obtain ⟨f12, hM12⟩ := hW.open_70 hy3
    have key_13 : ∀ (fu_15 : Nat) (v7w16 : Int64) (v9w16 : Nat) (gPw16 : Nat → Int64) (gRw16 : Nat → Int64) (M_22 : Hp) (H_23 : Heap) (locs : List Loc) (ls : Array Slot), 100 - v9w16 < fu_15 → M_22 oa = .inr (7, [.ref y0, .ref y1, .ref y2, .ref y3, .ref y4, .int (nI y5)]) → M_22 y2 = .inl (cy 15, 100, .inr (.inl (gPw16))) → M_22 y3 = .inl (cy 15, 100, .inr (.inl (gRw16))) → v9w16 ≤ 100 → v9w16 ≤ y5 → (∀ j : Nat, j < v9w16 → (gPw16 j).toInt = (bas (abI k1.toInt) (sumI (wI (LFc (M y1))) y5) (wI (LFc (M y1)))) j) → (∀ j : Nat, j < v9w16 → (gRw16 j).toInt = (rst (abI k1.toInt) (sumI (wI (LFc (M y1))) y5) (wI (LFc (M y1)))) j) → v7w16.toInt = (abI k1.toInt) - sumI (bas (abI k1.toInt) (sumI (wI (LFc (M y1))) y5) (wI (LFc (M y1)))) v9w16 → WOK cy K L M_22 → fr K L [69, 70] M M_22 → va_P D vwCl ([] ++ va_pl L M_22) H_23 → va_D A ([] ++ va_pl L M_22) → va_S A s.heap H_23 locs → lv_has ls 12 [(9, .int (nI v9w16)), (7, .long v7w16), (5, .long f_10), (3, .long vr_5), (0, .ref oa), (1, .long k1)] → W p l e R s m ([.ref oa, .long k1] : List Value).toArray below meth c H_23 locs 0 0 Q (F0 m 34 ls []) := by
      intro fu_15
      induction fu_15 with
      | zero => intro v7w16 v9w16 gPw16 gRw16 M_22 H_23 locs ls h; exact absurd h (Nat.not_lt_zero _)
      | succ fu_15 ih_14 =>
        intro v7w16 v9w16 gPw16 gRw16 M_22 H_23 locs ls hfu hM_24 hM_25 hM_26 hx_17 hx_18 hx_19 hx_20 hx_21 hW hF hP hD hS hl
        refine lv_iload hx hb dX7_cut_34 (lv_at hl 0 rfl) ?_
        refine lv_aload_n hx hb dX7_cut_36 rfl (lv_at hl 4 rfl) ?_
        refine pg_get (D := D) (ci := 7) (v := .int (nI y5)) (C := RX7) (T := TX7) (N := 6) hx hb hg inG7 hown hK hP ia.1 hM_24 rfl 5 (by decide) (hg _ wd_139) (fun _ h9 => h9) rfl dX7_cut_37 ?_
        refine lv_icmp_ge (tgt := 95) hx hb dX7_cut_40 (by decide) (fun c_27 => ?_) (fun c_27 => ?_)
        · have hz := rfl (a := 0)
          have n_28 : y5 ≤ v9w16 := (iLE (a := y5) (b := v9w16) (by omega) (by omega)).mp c_27
          have hnn : v9w16 = y5 := by omega
          rw [hnn] at hx_19 hx_20 hx_21
          have hP0 := hx_19
          have hR0 := hx_20
          have hL0 : (v7w16 : Int64).toInt = lft (abI k1.toInt) (wI (LFc (M y1))) y5 := hx_21
          refine lv_iconst (v := 0) hx hb dX7_cut_95 (by decide) ?_
          refine lv_istore (lv' := [(9, .int 0), (7, .long v7w16), (5, .long f_10), (3, .long vr_5), (0, .ref oa), (1, .long k1)]) hx hb dX7_cut_96 hl (by decide) rfl (fun ls hl => ?_)
          have key_29 : ∀ (fu_31 : Nat) (v9w32 : Nat) (gPw32 : Nat → Int64) (gRw32 : Nat → Int64) (M_38 : Hp) (H_39 : Heap) (locs : List Loc) (ls : Array Slot), 100 - v9w32 < fu_31 → M_38 oa = .inr (7, [.ref y0, .ref y1, .ref y2, .ref y3, .ref y4, .int (nI y5)]) → M_38 y2 = .inl (cy 15, 100, .inr (.inl (gPw32))) → M_38 y3 = .inl (cy 15, 100, .inr (.inl (gRw32))) → v9w32 ≤ 100 → v9w32 ≤ y5 → ((v9w32 : Nat) : Int) ≤ (v7w16 : Int64).toInt → (∀ j : Nat, j < y5 → (gPw32 j).toInt = (bas (abI k1.toInt) (sumI (wI (LFc (M y1))) y5) (wI (LFc (M y1)))) j + cnC (rst (abI k1.toInt) (sumI (wI (LFc (M y1))) y5) (wI (LFc (M y1)))) y5 v9w32 j) → (∀ j : Nat, j < y5 → (gRw32 j).toInt = rsC (rst (abI k1.toInt) (sumI (wI (LFc (M y1))) y5) (wI (LFc (M y1)))) y5 v9w32 j) → WOK cy K L M_38 → fr K L [69, 70] M M_38 → va_P D vwCl ([] ++ va_pl L M_38) H_39 → va_D A ([] ++ va_pl L M_38) → va_S A s.heap H_39 locs → lv_has ls 12 [(9, .int (nI v9w32)), (7, .long v7w16), (5, .long f_10), (3, .long vr_5), (0, .ref oa), (1, .long k1)] → W p l e R s m ([.ref oa, .long k1] : List Value).toArray below meth c H_39 locs 0 0 Q (F0 m 98 ls []) := by
            intro fu_31
            induction fu_31 with
            | zero => intro v9w32 gPw32 gRw32 M_38 H_39 locs ls h; exact absurd h (Nat.not_lt_zero _)
            | succ fu_31 ih_30 =>
              intro v9w32 gPw32 gRw32 M_38 H_39 locs ls hfu hM_40 hM_41 hM_42 hx_33 hx_34 hx_35 hx_36 hx_37 hW hF hP hD hS hl
              refine lv_iload hx hb dX7_cut_98 (lv_at hl 0 rfl) ?_
              refine lv_aload_n hx hb dX7_cut_100 rfl (lv_at hl 4 rfl) ?_
              refine pg_get (D := D) (ci := 7) (v := .int (nI y5)) (C := RX7) (T := TX7) (N := 6) hx hb hg inG7 hown hK hP ia.1 hM_40 rfl 5 (by decide) (hg _ wd_139) (fun _ h9 => h9) rfl dX7_cut_101 ?_
              refine lv_icmp_ge (tgt := 126) hx hb dX7_cut_104 (by decide) (fun c_43 => ?_) (fun c_43 => ?_)
              · have hz := rfl (a := 0)
                have n_44 : y5 ≤ v9w32 := (iLE (a := y5) (b := v9w32) (by omega) (by omega)).mp c_43
                have hcn : v9w32 = (lft (abI k1.toInt) (wI (LFc (M y1))) y5).toNat := by omega
                have hPf : ∀ j : Nat, j < y5 → (gPw32 j).toInt = (prt1 (abI k1.toInt) (wI (LFc (M y1))) y5 j) := fun j hj => by rw [hx_36 j hj, hcn]; rfl
                refine lv_lload_n hx hb dX7_cut_126 rfl (lv_at hl 5 rfl) ?_
                refine lv_lconst (v := 0) hx hb dX7_cut_127 (by decide) ?_
                refine W.lcmp hx hb dX7_cut_128 ?_
                refine lv_if_ge (tgt := 165) hx hb dX7_cut_129 (by decide) (fun c_45 => ?_) (fun c_45 => ?_)
                · have hz := rfl (a := 0)
                  have d_46 : 0 ≤ k1 := lc_get c_45
                  have hsg : ¬ k1.toInt < 0 := by have h9 := Int64.le_iff_toInt_le.mp d_46; rw [show (0 : Int64).toInt = 0 from rfl] at h9; omega
                  have hfin : ∀ j : Nat, j < y5 → (gPw32 j).toInt = sgI k1.toInt (prt1 (abI k1.toInt) (wI (LFc (M y1))) y5 j) := fun j hj => by unfold sgI; rw [if_neg hsg]; exact hPf j hj
                  refine lv_lload_n hx hb dX7_cut_165 rfl (lv_at hl 5 rfl) ?_
                  rw [hQ]
                  exact W.lret (v := k1) hx hb hr (fun t ht hW9 => ⟨⟨k1, M_38, rfl, ⟨hW, hF, ⟨fun h9 => absurd h9 (by omega), fun _ j hj => by show (LFc (M_38 y2) j).toInt = _; rw [LFc_of hM_41]; exact hfin j hj⟩, ⟨_, rfl, (by rw [if_neg (by omega)])⟩⟩, ⟨by rw [ht]; exact hP, hD⟩⟩, hS.F ht⟩) hS.2.2 dX7_cut_166
                · have hz := rfl (a := 0)
                  have d_46 : ¬ 0 ≤ k1 := lc_gef c_45
                  refine lv_iconst (v := 0) hx hb dX7_cut_132 (by decide) ?_
                  refine lv_istore (lv' := [(9, .int 0), (7, .long v7w16), (5, .long f_10), (3, .long vr_5), (0, .ref oa), (1, .long k1)]) hx hb dX7_cut_133 hl (by decide) rfl (fun ls hl => ?_)
                  have key_47 : ∀ (fu_49 : Nat) (v9w50 : Nat) (gPw50 : Nat → Int64) (M_55 : Hp) (H_56 : Heap) (locs : List Loc) (ls : Array Slot), 100 - v9w50 < fu_49 → M_55 oa = .inr (7, [.ref y0, .ref y1, .ref y2, .ref y3, .ref y4, .int (nI y5)]) → M_55 y2 = .inl (cy 15, 100, .inr (.inl (gPw50))) → v9w50 ≤ 100 → v9w50 ≤ y5 → (∀ j : Nat, j < v9w50 → (gPw50 j).toInt = -(prt1 (abI k1.toInt) (wI (LFc (M y1))) y5 j)) → (∀ j : Nat, v9w50 ≤ j → j < y5 → (gPw50 j).toInt = (prt1 (abI k1.toInt) (wI (LFc (M y1))) y5 j)) → WOK cy K L M_55 → fr K L [69, 70] M M_55 → va_P D vwCl ([] ++ va_pl L M_55) H_56 → va_D A ([] ++ va_pl L M_55) → va_S A s.heap H_56 locs → lv_has ls 12 [(9, .int (nI v9w50)), (7, .long v7w16), (5, .long f_10), (3, .long vr_5), (0, .ref oa), (1, .long k1)] → W p l e R s m ([.ref oa, .long k1] : List Value).toArray below meth c H_56 locs 0 0 Q (F0 m 135 ls []) := by
                    intro fu_49
                    induction fu_49 with
                    | zero => intro v9w50 gPw50 M_55 H_56 locs ls h; exact absurd h (Nat.not_lt_zero _)
                    | succ fu_49 ih_48 =>
                      intro v9w50 gPw50 M_55 H_56 locs ls hfu hM_57 hM_58 hx_51 hx_52 hx_53 hx_54 hW hF hP hD hS hl
                      refine lv_iload hx hb dX7_cut_135 (lv_at hl 0 rfl) ?_
                      refine lv_aload_n hx hb dX7_cut_137 rfl (lv_at hl 4 rfl) ?_
                      refine pg_get (D := D) (ci := 7) (v := .int (nI y5)) (C := RX7) (T := TX7) (N := 6) hx hb hg inG7 hown hK hP ia.1 hM_57 rfl 5 (by decide) (hg _ wd_139) (fun _ h9 => h9) rfl dX7_cut_138 ?_
                      refine lv_icmp_ge (tgt := 165) hx hb dX7_cut_141 (by decide) (fun c_59 => ?_) (fun c_59 => ?_)
                      · have hz := rfl (a := 0)
                        have n_60 : y5 ≤ v9w50 := (iLE (a := y5) (b := v9w50) (by omega) (by omega)).mp c_59
                        have hsg : k1.toInt < 0 := by have h9 := Int64.lt_iff_toInt_lt.mp (Int64.not_le.mp d_46); rw [show (0 : Int64).toInt = 0 from rfl] at h9; exact h9
                        have hfin : ∀ j : Nat, j < y5 → (gPw50 j).toInt = sgI k1.toInt (prt1 (abI k1.toInt) (wI (LFc (M y1))) y5 j) := fun j hj => by unfold sgI; rw [if_pos hsg]; exact hx_53 j (by omega)
                        refine lv_lload_n hx hb dX7_cut_165 rfl (lv_at hl 5 rfl) ?_
                        rw [hQ]
                        exact W.lret (v := k1) hx hb hr (fun t ht hW9 => ⟨⟨k1, M_55, rfl, ⟨hW, hF, ⟨fun h9 => absurd h9 (by omega), fun _ j hj => by show (LFc (M_55 y2) j).toInt = _; rw [LFc_of hM_58]; exact hfin j hj⟩, ⟨_, rfl, (by rw [if_neg (by omega)])⟩⟩, ⟨by rw [ht]; exact hP, hD⟩⟩, hS.F ht⟩) hS.2.2 dX7_cut_166
                      · have hz := rfl (a := 0)
                        have n_61 : ¬ (y5 ≤ v9w50) := fun q => c_59 ((iLE (a := y5) (b := v9w50) (by omega) (by omega)).mpr q)
                        refine lv_aload_n hx hb dX7_cut_144 rfl (lv_at hl 4 rfl) ?_
                        refine pg_get (D := D) (ci := 7) (v := .ref y2) (C := RX7) (T := TX7) (N := 6) hx hb hg inG7 hown hK hP ia.1 hM_57 rfl 2 (by decide) (hg _ wd_142) (fun _ h9 => h9) rfl dX7_cut_145 ?_
                        refine lv_iload hx hb dX7_cut_148 (lv_at hl 0 rfl) ?_
                        refine lv_aload_n hx hb dX7_cut_150 rfl (lv_at hl 4 rfl) ?_
                        refine pg_get (D := D) (ci := 7) (v := .ref y2) (C := RX7) (T := TX7) (N := 6) hx hb hg inG7 hown hK hP ia.1 hM_57 rfl 2 (by decide) (hg _ wd_142) (fun _ h9 => h9) rfl dX7_cut_151 ?_
                        refine lv_iload hx hb dX7_cut_154 (lv_at hl 0 rfl) ?_
                        refine pg_lald hx hb hK hP hy2.1 1 hM_58 rfl (inbN v9w50 100 (by omega) (by omega)) dX7_cut_156 ?_
                        refine lv_topl (fun f_62 ef_62 => ?_)
                        refine lv_lneg hx hb dX7_cut_157 ?_
                        refine lv_topl (fun f_63 ef_63 => ?_)
                        have hgv : (f_62 : Int64).toInt = (prt1 (abI k1.toInt) (wI (LFc (M y1))) y5 v9w50) := by rw [ef_62, nI_cl (by omega)]; exact hx_54 v9w50 (by omega) (by omega)
                        have hpb := prt1_b hAn htp (fun i hi => (hWB i hi).1) (show v9w50 < y5 by omega)
                        have hng : (f_63 : Int64).toInt = -(prt1 (abI k1.toInt) (wI (LFc (M y1))) y5 v9w50) := by rw [← hgv]; exact lNg ef_63 (by rw [hgv]; omega)
                        refine pg_last hx hb hK hP hD hS hy2.1 1 hM_58 rfl (inbN v9w50 100 (by omega) (by omega)) dX7_cut_158 (fun H_64 locs hP hD hS => ?_)
                        obtain ⟨M_65, eM_65⟩ : ∃ M1 : Hp, M1 = va_up M_55 y2 (.inl (cy 15, 100, .inr (.inl (vp_updL gPw50 ((nI v9w50) : Int32).toNatClampNeg f_63)))) := ⟨_, rfl⟩
                        have hP : va_P D vwCl ([] ++ va_pl L M_65) H_64 := by rw [eM_65]; exact hP
                        have hD : va_D A ([] ++ va_pl L M_65) := by rw [eM_65]; exact hD
                        have hW : WOK cy K L M_65 := by rw [eM_65]; exact hW.up_69 hy2 ⟨_, rfl⟩
                        have hF : fr K L [69, 70] M M_65 := by rw [eM_65]; exact hF.up hy2 (by decide)
                        have hM_66 : M_65 y2 = .inl (cy 15, 100, .inr (.inl (vp_updL gPw50 ((nI v9w50) : Int32).toNatClampNeg f_63))) := by rw [eM_65]; exact va_up_self _ _ _
                        have hM_67 : M_65 oa = .inr (7, [.ref y0, .ref y1, .ref y2, .ref y3, .ref y4, .int (nI y5)]) := by rw [eM_65, va_up_ne _ _ (ia.neT hy2 (by decide))]; exact hM_57
                        obtain ⟨f_68, ef_68⟩ : ∃ f : Nat → Int64, f = vp_updL gPw50 ((nI v9w50) : Int32).toNatClampNeg f_63 := ⟨_, rfl⟩
                        rw [← ef_68] at hM_66
                        refine lv_iinc (v := (nI (v9w50 + 1))) (lv' := [(9, .int (nI (v9w50 + 1))), (7, .long v7w16), (5, .long f_10), (3, .long vr_5), (0, .ref oa), (1, .long k1)]) hx hb dX7_cut_159 hl (k := 0) rfl (nI_1 v9w50) (by decide) rfl (fun ls hl => ?_)
                        refine lv_goto (tgt := 135) hx hb dX7_cut_162 (by decide) ?_
                        exact ih_48 (v9w50 + 1) f_68 M_65 H_64 _ _ (by omega) hM_67 hM_66 (by omega) (by omega) (by rw [ef_68, nI_cl (by omega)]; intro j hj; by_cases z9 : j = v9w50; rw [z9, vp_updL_self]; exact hng; rw [vp_updL_ne _ _ z9]; exact hx_53 j (by omega)) (by rw [ef_68, nI_cl (by omega)]; intro j hj hj2; rw [vp_updL_ne _ _ (by omega)]; exact hx_54 j (by omega) hj2) hW hF hP hD hS (lv_sub hl [0, 1, 2, 3, 4, 5] rfl)
                  exact key_47 (100 - 0 + 1) 0 gPw32 M_38 H_39 _ _ (by omega) hM_40 hM_41 (by omega) (by omega) (fun j h => absurd h (Nat.not_lt_zero _)) (fun j _ hj => hPf j hj) hW hF hP hD hS (lv_sub hl [0, 1, 2, 3, 4, 5] rfl)
              · have hz := rfl (a := 0)
                have n_69 : ¬ (y5 ≤ v9w32) := fun q => c_43 ((iLE (a := y5) (b := v9w32) (by omega) (by omega)).mpr q)
                refine lv_iload hx hb dX7_cut_107 (lv_at hl 0 rfl) ?_
                refine lv_i2l hx hb dX7_cut_109 rfl ?_
                refine lv_topl (fun f_70 ef_70 => ?_)
                refine lv_lload hx hb dX7_cut_110 (lv_at hl 1 rfl) ?_
                have hcv : (f_70 : Int64).toInt = ((v9w32 : Nat) : Int) := by rw [ef_70, Int32.toInt_toInt64]; exact nI_toInt (by omega)
                refine W.lcmp hx hb dX7_cut_112 ?_
                refine lv_if_ge (tgt := 126) hx hb dX7_cut_113 (by decide) (fun c_71 => ?_) (fun c_71 => ?_)
                · have hz := rfl (a := 0)
                  have d_72 : v7w16 ≤ f_70 := lc_get c_71
                  have hcl := Int64.le_iff_toInt_le.mp d_72
                  have hcn : v9w32 = (lft (abI k1.toInt) (wI (LFc (M y1))) y5).toNat := by omega
                  have hPf : ∀ j : Nat, j < y5 → (gPw32 j).toInt = (prt1 (abI k1.toInt) (wI (LFc (M y1))) y5 j) := fun j hj => by rw [hx_36 j hj, hcn]; rfl
                  refine lv_lload_n hx hb dX7_cut_126 rfl (lv_at hl 5 rfl) ?_
                  refine lv_lconst (v := 0) hx hb dX7_cut_127 (by decide) ?_
                  refine W.lcmp hx hb dX7_cut_128 ?_
                  refine lv_if_ge (tgt := 165) hx hb dX7_cut_129 (by decide) (fun c_73 => ?_) (fun c_73 => ?_)
                  · have hz := rfl (a := 0)
                    have d_74 : 0 ≤ k1 := lc_get c_73
                    have hsg : ¬ k1.toInt < 0 := by have h9 := Int64.le_iff_toInt_le.mp d_74; rw [show (0 : Int64).toInt = 0 from rfl] at h9; omega
                    have hfin : ∀ j : Nat, j < y5 → (gPw32 j).toInt = sgI k1.toInt (prt1 (abI k1.toInt) (wI (LFc (M y1))) y5 j) := fun j hj => by unfold sgI; rw [if_neg hsg]; exact hPf j hj
                    refine lv_lload_n hx hb dX7_cut_165 rfl (lv_at hl 5 rfl) ?_
                    rw [hQ]
                    exact W.lret (v := k1) hx hb hr (fun t ht hW9 => ⟨⟨k1, M_38, rfl, ⟨hW, hF, ⟨fun h9 => absurd h9 (by omega), fun _ j hj => by show (LFc (M_38 y2) j).toInt = _; rw [LFc_of hM_41]; exact hfin j hj⟩, ⟨_, rfl, (by rw [if_neg (by omega)])⟩⟩, ⟨by rw [ht]; exact hP, hD⟩⟩, hS.F ht⟩) hS.2.2 dX7_cut_166
                  · have hz := rfl (a := 0)
                    have d_74 : ¬ 0 ≤ k1 := lc_gef c_73
                    refine lv_iconst (v := 0) hx hb dX7_cut_132 (by decide) ?_
                    refine lv_istore (lv' := [(9, .int 0), (7, .long v7w16), (5, .long f_10), (3, .long vr_5), (0, .ref oa), (1, .long k1)]) hx hb dX7_cut_133 hl (by decide) rfl (fun ls hl => ?_)
                    have key_75 : ∀ (fu_77 : Nat) (v9w78 : Nat) (gPw78 : Nat → Int64) (M_83 : Hp) (H_84 : Heap) (locs : List Loc) (ls : Array Slot), 100 - v9w78 < fu_77 → M_83 oa = .inr (7, [.ref y0, .ref y1, .ref y2, .ref y3, .ref y4, .int (nI y5)]) → M_83 y2 = .inl (cy 15, 100, .inr (.inl (gPw78))) → v9w78 ≤ 100 → v9w78 ≤ y5 → (∀ j : Nat, j < v9w78 → (gPw78 j).toInt = -(prt1 (abI k1.toInt) (wI (LFc (M y1))) y5 j)) → (∀ j : Nat, v9w78 ≤ j → j < y5 → (gPw78 j).toInt = (prt1 (abI k1.toInt) (wI (LFc (M y1))) y5 j)) → WOK cy K L M_83 → fr K L [69, 70] M M_83 → va_P D vwCl ([] ++ va_pl L M_83) H_84 → va_D A ([] ++ va_pl L M_83) → va_S A s.heap H_84 locs → lv_has ls 12 [(9, .int (nI v9w78)), (7, .long v7w16), (5, .long f_10), (3, .long vr_5), (0, .ref oa), (1, .long k1)] → W p l e R s m ([.ref oa, .long k1] : List Value).toArray below meth c H_84 locs 0 0 Q (F0 m 135 ls []) := by
                      intro fu_77
                      induction fu_77 with
                      | zero => intro v9w78 gPw78 M_83 H_84 locs ls h; exact absurd h (Nat.not_lt_zero _)
                      | succ fu_77 ih_76 =>
                        intro v9w78 gPw78 M_83 H_84 locs ls hfu hM_85 hM_86 hx_79 hx_80 hx_81 hx_82 hW hF hP hD hS hl
                        refine lv_iload hx hb dX7_cut_135 (lv_at hl 0 rfl) ?_
                        refine lv_aload_n hx hb dX7_cut_137 rfl (lv_at hl 4 rfl) ?_
                        refine pg_get (D := D) (ci := 7) (v := .int (nI y5)) (C := RX7) (T := TX7) (N := 6) hx hb hg inG7 hown hK hP ia.1 hM_85 rfl 5 (by decide) (hg _ wd_139) (fun _ h9 => h9) rfl dX7_cut_138 ?_
                        refine lv_icmp_ge (tgt := 165) hx hb dX7_cut_141 (by decide) (fun c_87 => ?_) (fun c_87 => ?_)
                        · have hz := rfl (a := 0)
                          have n_88 : y5 ≤ v9w78 := (iLE (a := y5) (b := v9w78) (by omega) (by omega)).mp c_87
                          have hsg : k1.toInt < 0 := by have h9 := Int64.lt_iff_toInt_lt.mp (Int64.not_le.mp d_74); rw [show (0 : Int64).toInt = 0 from rfl] at h9; exact h9
                          have hfin : ∀ j : Nat, j < y5 → (gPw78 j).toInt = sgI k1.toInt (prt1 (abI k1.toInt) (wI (LFc (M y1))) y5 j) := fun j hj => by unfold sgI; rw [if_pos hsg]; exact hx_81 j (by omega)
                          refine lv_lload_n hx hb dX7_cut_165 rfl (lv_at hl 5 rfl) ?_
                          rw [hQ]
                          exact W.lret (v := k1) hx hb hr (fun t ht hW9 => ⟨⟨k1, M_83, rfl, ⟨hW, hF, ⟨fun h9 => absurd h9 (by omega), fun _ j hj => by show (LFc (M_83 y2) j).toInt = _; rw [LFc_of hM_86]; exact hfin j hj⟩, ⟨_, rfl, (by rw [if_neg (by omega)])⟩⟩, ⟨by rw [ht]; exact hP, hD⟩⟩, hS.F ht⟩) hS.2.2 dX7_cut_166
                        · have hz := rfl (a := 0)
                          have n_89 : ¬ (y5 ≤ v9w78) := fun q => c_87 ((iLE (a := y5) (b := v9w78) (by omega) (by omega)).mpr q)
                          refine lv_aload_n hx hb dX7_cut_144 rfl (lv_at hl 4 rfl) ?_
                          refine pg_get (D := D) (ci := 7) (v := .ref y2) (C := RX7) (T := TX7) (N := 6) hx hb hg inG7 hown hK hP ia.1 hM_85 rfl 2 (by decide) (hg _ wd_142) (fun _ h9 => h9) rfl dX7_cut_145 ?_
                          refine lv_iload hx hb dX7_cut_148 (lv_at hl 0 rfl) ?_
                          refine lv_aload_n hx hb dX7_cut_150 rfl (lv_at hl 4 rfl) ?_
                          refine pg_get (D := D) (ci := 7) (v := .ref y2) (C := RX7) (T := TX7) (N := 6) hx hb hg inG7 hown hK hP ia.1 hM_85 rfl 2 (by decide) (hg _ wd_142) (fun _ h9 => h9) rfl dX7_cut_151 ?_
                          refine lv_iload hx hb dX7_cut_154 (lv_at hl 0 rfl) ?_
                          refine pg_lald hx hb hK hP hy2.1 1 hM_86 rfl (inbN v9w78 100 (by omega) (by omega)) dX7_cut_156 ?_
                          refine lv_topl (fun f_90 ef_90 => ?_)
                          refine lv_lneg hx hb dX7_cut_157 ?_
                          refine lv_topl (fun f_91 ef_91 => ?_)
                          have hgv : (f_90 : Int64).toInt = (prt1 (abI k1.toInt) (wI (LFc (M y1))) y5 v9w78) := by rw [ef_90, nI_cl (by omega)]; exact hx_82 v9w78 (by omega) (by omega)
                          have hpb := prt1_b hAn htp (fun i hi => (hWB i hi).1) (show v9w78 < y5 by omega)
                          have hng : (f_91 : Int64).toInt = -(prt1 (abI k1.toInt) (wI (LFc (M y1))) y5 v9w78) := by rw [← hgv]; exact lNg ef_91 (by rw [hgv]; omega)
                          refine pg_last hx hb hK hP hD hS hy2.1 1 hM_86 rfl (inbN v9w78 100 (by omega) (by omega)) dX7_cut_158 (fun H_92 locs hP hD hS => ?_)
                          obtain ⟨M_93, eM_93⟩ : ∃ M1 : Hp, M1 = va_up M_83 y2 (.inl (cy 15, 100, .inr (.inl (vp_updL gPw78 ((nI v9w78) : Int32).toNatClampNeg f_91)))) := ⟨_, rfl⟩
                          have hP : va_P D vwCl ([] ++ va_pl L M_93) H_92 := by rw [eM_93]; exact hP
                          have hD : va_D A ([] ++ va_pl L M_93) := by rw [eM_93]; exact hD
                          have hW : WOK cy K L M_93 := by rw [eM_93]; exact hW.up_69 hy2 ⟨_, rfl⟩
                          have hF : fr K L [69, 70] M M_93 := by rw [eM_93]; exact hF.up hy2 (by decide)
                          have hM_94 : M_93 y2 = .inl (cy 15, 100, .inr (.inl (vp_updL gPw78 ((nI v9w78) : Int32).toNatClampNeg f_91))) := by rw [eM_93]; exact va_up_self _ _ _
                          have hM_95 : M_93 oa = .inr (7, [.ref y0, .ref y1, .ref y2, .ref y3, .ref y4, .int (nI y5)]) := by rw [eM_93, va_up_ne _ _ (ia.neT hy2 (by decide))]; exact hM_85
                          obtain ⟨f_96, ef_96⟩ : ∃ f : Nat → Int64, f = vp_updL gPw78 ((nI v9w78) : Int32).toNatClampNeg f_91 := ⟨_, rfl⟩
                          rw [← ef_96] at hM_94
                          refine lv_iinc (v := (nI (v9w78 + 1))) (lv' := [(9, .int (nI (v9w78 + 1))), (7, .long v7w16), (5, .long f_10), (3, .long vr_5), (0, .ref oa), (1, .long k1)]) hx hb dX7_cut_159 hl (k := 0) rfl (nI_1 v9w78) (by decide) rfl (fun ls hl => ?_)
                          refine lv_goto (tgt := 135) hx hb dX7_cut_162 (by decide) ?_
                          exact ih_76 (v9w78 + 1) f_96 M_93 H_92 _ _ (by omega) hM_95 hM_94 (by omega) (by omega) (by rw [ef_96, nI_cl (by omega)]; intro j hj; by_cases z9 : j = v9w78; rw [z9, vp_updL_self]; exact hng; rw [vp_updL_ne _ _ z9]; exact hx_81 j (by omega)) (by rw [ef_96, nI_cl (by omega)]; intro j hj hj2; rw [vp_updL_ne _ _ (by omega)]; exact hx_82 j (by omega) hj2) hW hF hP hD hS (lv_sub hl [0, 1, 2, 3, 4, 5] rfl)
                    exact key_75 (100 - 0 + 1) 0 gPw32 M_38 H_39 _ _ (by omega) hM_40 hM_41 (by omega) (by omega) (fun j h => absurd h (Nat.not_lt_zero _)) (fun j _ hj => hPf j hj) hW hF hP hD hS (lv_sub hl [0, 1, 2, 3, 4, 5] rfl)
                · have hz := rfl (a := 0)
                  have d_72 : ¬ v7w16 ≤ f_70 := lc_gef c_71
                  have hcl := Int64.lt_iff_toInt_lt.mp (Int64.not_le.mp d_72)
                  refine lv_aload_n hx hb dX7_cut_116 rfl (lv_at hl 4 rfl) ?_
                  have hPc : va_P D vwCl ([] ++ va_pl L M_38) H_39 := hP
                  have hDc : va_D A ([] ++ va_pl L M_38) := hD
                  have hFc : ∀ q, va_A ([] ++ va_pl L M_38) H_39.size q → A q := pg_free hDc hS hA
                  refine va_callv (va_runV (As := []) (rest := []) ⟨hx, hb, hml, hown, hg⟩ (e_coin l D cy K L M_38 H_39.size oa (rst (abI k1.toInt) (sumI (wI (LFc (M y1))) y5) (wI (LFc (M y1)))) (bas (abI k1.toInt) (sumI (wI (LFc (M y1))) y5) (wI (LFc (M y1)))) v9w32 y0 y1 y2 y3 y4 y5 hW ia (fun j _ => (hrb j).1) hbb (fun j hj => by rw [LFc_of hM_42]; exact hx_37 j hj) (fun j hj => by rw [LFc_of hM_41]; exact hx_36 j hj) (by omega) hM_40 hy0 hy1 hy2 hy3 hy4 hy5) (cwV 0 hg (gV wd_153 wd_154 wd_155 wd_148 wd_156) rfl rfl rfl (by decide +kernel) ⟨(Nat.le_trans (Nat.le_of_ble_eq_true rfl) hRf), (Nat.le_trans (Nat.le_of_ble_eq_true rfl) hRl)⟩) ⟨PG.blind, pg_recv hK hP ia.1 hM_40 rfl, fun U hU hW => ⟨rfl, PG.at hPc hK hDc hN hU hW⟩⟩ rfl rfl hl.1 rfl (lv_room (Nat.le_of_ble_eq_true rfl)) dX7_cut_117 ⟨(Nat.le_trans (Nat.le_of_ble_eq_true rfl) hRc), (Nat.le_trans (Nat.le_of_ble_eq_true rfl) hRs)⟩) hS (fun q _ h => hFc q h) hFc (fun M_99 t H_97 locs ht hvm hw hB hz1 hk1 hS => ?_)
                  obtain ⟨hW, hF2, hVP, hp_100⟩ := hw
                  obtain ⟨hP1, hD1⟩ := hB
                  rw [ht] at hP1
                  have hP : va_P D vwCl ([] ++ va_pl L M_99) H_97 := hP1
                  have hD : va_D A ([] ++ va_pl L M_99) := hD1.mono hFc
                  have hM_101 : M_99 oa = .inr (7, [.ref y0, .ref y1, .ref y2, .ref y3, .ref y4, .int (nI y5)]) := (hF2.at ia (by decide)).trans hM_40
                  have hF : fr K L [69, 70] M M_99 := hF.tr hF2 (by decide)
                  have hvc := hVP
                  refine lv_iinc (v := (nI (v9w32 + 1))) (lv' := [(9, .int (nI (v9w32 + 1))), (7, .long v7w16), (5, .long f_10), (3, .long vr_5), (0, .ref oa), (1, .long k1)]) hx hb dX7_cut_120 hl (k := 0) rfl (nI_1 v9w32) (by decide) rfl (fun ls hl => ?_)
                  refine lv_goto (tgt := 98) hx hb dX7_cut_123 (by decide) ?_
                  obtain ⟨f102, hM102⟩ := hW.open_69 hy2
                  obtain ⟨f103, hM103⟩ := hW.open_70 hy3
                  exact ih_30 (v9w32 + 1) f102 f103 M_99 H_97 _ _ (by omega) hM_101 hM102 hM103 (by omega) (by omega) (by omega) (fun j hj => by rw [← LFc_of hM102]; exact hvc.2 j hj) (fun j hj => by rw [← LFc_of hM103]; exact hvc.1 j hj) hW hF hP hD hS (lv_sub hl [0, 1, 2, 3, 4, 5] rfl)
          exact key_29 (100 - 0 + 1) 0 gPw16 gRw16 M_22 H_23 _ _ (by omega) hM_24 hM_25 hM_26 (by omega) (by omega) (by rw [hL0]; exact hlf.1) (fun j hj => by rw [cnC_0, Int.add_zero]; exact hP0 j hj) (fun j hj => by rw [rsC_0]; exact hR0 j hj) hW hF hP hD hS (lv_sub hl [0, 1, 2, 3, 4, 5] rfl)
        · have hz := rfl (a := 0)
          have n_104 : ¬ (y5 ≤ v9w16) := fun q => c_27 ((iLE (a := y5) (b := v9w16) (by omega) (by omega)).mpr q)
          refine lv_lload hx hb dX7_cut_43 (lv_at hl 2 rfl) ?_
          refine lv_aload_n hx hb dX7_cut_45 rfl (lv_at hl 4 rfl) ?_
          refine pg_get (D := D) (ci := 7) (v := .ref y1) (C := RX7) (T := TX7) (N := 6) hx hb hg inG7 hown hK hP ia.1 hM_24 rfl 1 (by decide) (hg _ wd_141) (fun _ h9 => h9) rfl dX7_cut_46 ?_
          refine lv_iload hx hb dX7_cut_49 (lv_at hl 0 rfl) ?_
          obtain ⟨f105, hM105⟩ := hW.open_68 hy1
          refine pg_lald hx hb hK hP hy1.1 1 hM105 rfl (inbN v9w16 100 (by omega) (by omega)) dX7_cut_51 ?_
          refine lv_topl (fun f_106 ef_106 => ?_)
          have hwv : (f_106 : Int64).toInt = (wI (LFc (M y1))) v9w16 := by rw [ef_106, nI_cl (by omega), ← LFc_of hM105, hF.at hy1 (by decide)]; rfl
          have hwb := hWB v9w16 (by omega)
          have hmb := mulb hAn hAb hwb.1 hwb.2
          refine lv_lmul hx hb dX7_cut_52 ?_
          refine lv_topl (fun f_107 ef_107 => ?_)
          have hpv : (f_107 : Int64).toInt = (abI k1.toInt) * (wI (LFc (M y1))) v9w16 := by rw [← hsz, ← hwv]; exact lM ef_107 (by rw [hsz, hwv]; omega) (by rw [hsz, hwv]; omega)
          refine lv_lstore (lv' := [(10, .long f_107), (9, .int (nI v9w16)), (7, .long v7w16), (5, .long f_10), (3, .long vr_5), (0, .ref oa), (1, .long k1)]) hx hb dX7_cut_53 hl (by decide) rfl (fun ls hl => ?_)
          refine lv_aload_n hx hb dX7_cut_55 rfl (lv_at hl 5 rfl) ?_
          refine pg_get (D := D) (ci := 7) (v := .ref y2) (C := RX7) (T := TX7) (N := 6) hx hb hg inG7 hown hK hP ia.1 hM_24 rfl 2 (by decide) (hg _ wd_142) (fun _ h9 => h9) rfl dX7_cut_56 ?_
          refine lv_iload hx hb dX7_cut_59 (lv_at hl 1 rfl) ?_
          refine lv_lload hx hb dX7_cut_61 (lv_at hl 0 rfl) ?_
          refine lv_lload_n hx hb dX7_cut_63 rfl (lv_at hl 4 rfl) ?_
          refine lv_ldiv hx hb dX7_cut_64 (fun q => absurd d_9 (by rw [q]; decide)) ?_
          refine lv_topl (fun f_108 ef_108 => ?_)
          have hdv : (f_108 : Int64).toInt = (bas (abI k1.toInt) (sumI (wI (LFc (M y1))) y5) (wI (LFc (M y1)))) v9w16 := by have h9 := lD ef_108 (by rw [hpv]; exact hmb.1) (by rw [htt]; exact htp); rw [hpv, htt] at h9; exact h9
          refine pg_last hx hb hK hP hD hS hy2.1 1 hM_25 rfl (inbN v9w16 100 (by omega) (by omega)) dX7_cut_65 (fun H_109 locs hP hD hS => ?_)
          obtain ⟨M_110, eM_110⟩ : ∃ M1 : Hp, M1 = va_up M_22 y2 (.inl (cy 15, 100, .inr (.inl (vp_updL gPw16 ((nI v9w16) : Int32).toNatClampNeg f_108)))) := ⟨_, rfl⟩
          have hP : va_P D vwCl ([] ++ va_pl L M_110) H_109 := by rw [eM_110]; exact hP
          have hD : va_D A ([] ++ va_pl L M_110) := by rw [eM_110]; exact hD
          have hW : WOK cy K L M_110 := by rw [eM_110]; exact hW.up_69 hy2 ⟨_, rfl⟩
          have hF : fr K L [69, 70] M M_110 := by rw [eM_110]; exact hF.up hy2 (by decide)
          have hM_111 : M_110 y2 = .inl (cy 15, 100, .inr (.inl (vp_updL gPw16 ((nI v9w16) : Int32).toNatClampNeg f_108))) := by rw [eM_110]; exact va_up_self _ _ _
          have hM_112 : M_110 oa = .inr (7, [.ref y0, .ref y1, .ref y2, .ref y3, .ref y4, .int (nI y5)]) := by rw [eM_110, va_up_ne _ _ (ia.neT hy2 (by decide))]; exact hM_24
          have hM_113 : M_110 y3 = .inl (cy 15, 100, .inr (.inl (gRw16))) := by rw [eM_110, va_up_ne _ _ (hy3.neT hy2 (by decide))]; exact hM_26
          have hM_114 : M_110 y1 = .inl (cy 15, 100, .inr (.inl (f105))) := by rw [eM_110, va_up_ne _ _ (hy1.neT hy2 (by decide))]; exact hM105
          obtain ⟨f_115, ef_115⟩ : ∃ f : Nat → Int64, f = vp_updL gPw16 ((nI v9w16) : Int32).toNatClampNeg f_108 := ⟨_, rfl⟩
          rw [← ef_115] at hM_111
          refine lv_aload_n hx hb dX7_cut_66 rfl (lv_at hl 5 rfl) ?_
          refine pg_get (D := D) (ci := 7) (v := .ref y3) (C := RX7) (T := TX7) (N := 6) hx hb hg inG7 hown hK hP ia.1 hM_112 rfl 3 (by decide) (hg _ wd_143) (fun _ h9 => h9) rfl dX7_cut_67 ?_
          refine lv_iload hx hb dX7_cut_70 (lv_at hl 1 rfl) ?_
          refine lv_lload hx hb dX7_cut_72 (lv_at hl 0 rfl) ?_
          refine lv_lload_n hx hb dX7_cut_74 rfl (lv_at hl 4 rfl) ?_
          refine lv_lrem hx hb dX7_cut_75 (fun q => absurd d_9 (by rw [q]; decide)) ?_
          refine lv_topl (fun f_116 ef_116 => ?_)
          have hrv : (f_116 : Int64).toInt = (rst (abI k1.toInt) (sumI (wI (LFc (M y1))) y5) (wI (LFc (M y1)))) v9w16 := by have h9 := lR ef_116 (by rw [hpv]; exact hmb.1) (by rw [htt]; exact htp); rw [hpv, htt] at h9; exact h9
          refine pg_last hx hb hK hP hD hS hy3.1 1 hM_113 rfl (inbN v9w16 100 (by omega) (by omega)) dX7_cut_76 (fun H_117 locs hP hD hS => ?_)
          obtain ⟨M_118, eM_118⟩ : ∃ M1 : Hp, M1 = va_up M_110 y3 (.inl (cy 15, 100, .inr (.inl (vp_updL gRw16 ((nI v9w16) : Int32).toNatClampNeg f_116)))) := ⟨_, rfl⟩
          have hP : va_P D vwCl ([] ++ va_pl L M_118) H_117 := by rw [eM_118]; exact hP
          have hD : va_D A ([] ++ va_pl L M_118) := by rw [eM_118]; exact hD
          have hW : WOK cy K L M_118 := by rw [eM_118]; exact hW.up_70 hy3 ⟨_, rfl⟩
          have hF : fr K L [69, 70] M M_118 := by rw [eM_118]; exact hF.up hy3 (by decide)
          have hM_119 : M_118 y3 = .inl (cy 15, 100, .inr (.inl (vp_updL gRw16 ((nI v9w16) : Int32).toNatClampNeg f_116))) := by rw [eM_118]; exact va_up_self _ _ _
          have hM_120 : M_118 y2 = .inl (cy 15, 100, .inr (.inl (f_115))) := by rw [eM_118, va_up_ne _ _ (hy2.neT hy3 (by decide))]; exact hM_111
          have hM_121 : M_118 oa = .inr (7, [.ref y0, .ref y1, .ref y2, .ref y3, .ref y4, .int (nI y5)]) := by rw [eM_118, va_up_ne _ _ (ia.neT hy3 (by decide))]; exact hM_112
          have hM_122 : M_118 y1 = .inl (cy 15, 100, .inr (.inl (f105))) := by rw [eM_118, va_up_ne _ _ (hy1.neT hy3 (by decide))]; exact hM_114
          obtain ⟨f_123, ef_123⟩ : ∃ f : Nat → Int64, f = vp_updL gRw16 ((nI v9w16) : Int32).toNatClampNeg f_116 := ⟨_, rfl⟩
          rw [← ef_123] at hM_119
          refine lv_lload hx hb dX7_cut_77 (lv_at hl 2 rfl) ?_
          refine lv_aload_n hx hb dX7_cut_79 rfl (lv_at hl 5 rfl) ?_
          refine pg_get (D := D) (ci := 7) (v := .ref y2) (C := RX7) (T := TX7) (N := 6) hx hb hg inG7 hown hK hP ia.1 hM_121 rfl 2 (by decide) (hg _ wd_142) (fun _ h9 => h9) rfl dX7_cut_80 ?_
          refine lv_iload hx hb dX7_cut_83 (lv_at hl 1 rfl) ?_
          refine pg_lald hx hb hK hP hy2.1 1 hM_120 rfl (inbN v9w16 100 (by omega) (by omega)) dX7_cut_85 ?_
          refine lv_topl (fun f_124 ef_124 => ?_)
          have hqv : (f_124 : Int64).toInt = (bas (abI k1.toInt) (sumI (wI (LFc (M y1))) y5) (wI (LFc (M y1)))) v9w16 := by rw [ef_124, nI_cl (by omega), ef_115, nI_cl (by omega), vp_updL_self]; exact hdv
          refine lv_lsub hx hb dX7_cut_86 ?_
          refine lv_topl (fun f_125 ef_125 => ?_)
          have hbn := hbb v9w16 (by omega)
          have hsb : 0 ≤ sumI (bas (abI k1.toInt) (sumI (wI (LFc (M y1))) y5) (wI (LFc (M y1)))) v9w16 ∧ sumI (bas (abI k1.toInt) (sumI (wI (LFc (M y1))) y5) (wI (LFc (M y1)))) v9w16 ≤ 1000000000000000 * (v9w16 : Int) := sumI_bd v9w16 (fun j hj => hbb j (by omega))
          have hlv : (f_125 : Int64).toInt = (abI k1.toInt) - sumI (bas (abI k1.toInt) (sumI (wI (LFc (M y1))) y5) (wI (LFc (M y1)))) (v9w16 + 1) := by have h9 := lS ef_125 (by rw [hx_21, hqv]; omega) (by rw [hx_21, hqv]; omega); rw [hx_21, hqv] at h9; rw [h9]; show _ = (abI k1.toInt) - (sumI (bas (abI k1.toInt) (sumI (wI (LFc (M y1))) y5) (wI (LFc (M y1)))) v9w16 + (bas (abI k1.toInt) (sumI (wI (LFc (M y1))) y5) (wI (LFc (M y1)))) v9w16); omega
          refine lv_lstore (lv' := [(7, .long f_125), (10, .long f_107), (9, .int (nI v9w16)), (5, .long f_10), (3, .long vr_5), (0, .ref oa), (1, .long k1)]) hx hb dX7_cut_87 hl (by decide) rfl (fun ls hl => ?_)
          refine lv_iinc (v := (nI (v9w16 + 1))) (lv' := [(9, .int (nI (v9w16 + 1))), (7, .long f_125), (10, .long f_107), (5, .long f_10), (3, .long vr_5), (0, .ref oa), (1, .long k1)]) hx hb dX7_cut_89 hl (k := 2) rfl (nI_1 v9w16) (by decide) rfl (fun ls hl => ?_)
          refine lv_goto (tgt := 34) hx hb dX7_cut_92 (by decide) ?_
          exact ih_14 f_125 (v9w16 + 1) f_115 f_123 M_118 H_117 _ _ (by omega) hM_121 hM_120 hM_119 (by omega) (by omega) (by rw [ef_115, nI_cl (by omega)]; intro j hj; by_cases z9 : j = v9w16; rw [z9, vp_updL_self]; exact hdv; rw [vp_updL_ne _ _ z9]; exact hx_19 j (by omega)) (by rw [ef_123, nI_cl (by omega)]; intro j hj; by_cases z9 : j = v9w16; rw [z9, vp_updL_self]; exact hrv; rw [vp_updL_ne _ _ z9]; exact hx_20 j (by omega)) hlv hW hF hP hD hS (lv_sub hl [0, 1, 3, 4, 5, 6] rfl)
    exact key_13 (100 - 0 + 1) f_10 0 f11 f12 M H_1 _ _ (by omega) hMy hM11 hM12 (by omega) (by omega) (fun j h => absurd h (Nat.not_lt_zero _)) (fun j h => absurd h (Nat.not_lt_zero _)) (by rw [hsz]; show _ = _ - (0 : Int); omega) hW hF hP hD hS (lv_sub hl [0, 1, 2, 3, 4, 5] rfl)
  · have hz := rfl (a := 0)
    have d_9 : ¬ 0 < vr_5 := lc_gtf c_8
    have ht0 : (sumI (wI (LFc (M y1))) y5) = 0 := by have h9 := Int64.le_iff_toInt_le.mp (Int64.not_lt.mp d_9); rw [htt, show (0 : Int64).toInt = 0 from rfl] at h9; omega
    refine lv_aload_n hx hb dX7_cut_11 rfl (lv_at hl 1 rfl) ?_
    refine pg_get (D := D) (ci := 7) (v := .ref y2) (C := RX7) (T := TX7) (N := 6) hx hb hg inG7 hown hK hP ia.1 hMy rfl 2 (by decide) (hg _ wd_142) (fun _ h9 => h9) rfl dX7_cut_12 ?_
    refine lv_lconst (v := 0) hx hb dX7_cut_15 (by decide) ?_
    have hPc : va_P D vwCl ([] ++ va_pl L M) H_1 := hP
    have hDc : va_D A ([] ++ va_pl L M) := hD
    have hFc : ∀ q, va_A ([] ++ va_pl L M) H_1.size q → A q := pg_free hDc hS hA
    refine va_callv (va_runS (As := [.ref y2, .long 0]) (rest := []) ⟨hx, hb, hml, hown, hg⟩ (e_fill69 l D cy K L M H_1.size y2 0  hW hy2) (va_cwS 2 hg (gS wd_157 wd_158 wd_159 wd_160) rfl rfl rfl (by decide +kernel) ⟨(Nat.le_trans (Nat.le_of_ble_eq_true rfl) hRf), (Nat.le_trans (Nat.le_of_ble_eq_true rfl) hRl)⟩) ⟨PG.blind, fun U hU hW => ⟨rfl, PG.at hPc hK hDc hN hU hW⟩⟩ rfl rfl hl.1 rfl (lv_room (Nat.le_of_ble_eq_true rfl)) dX7_cut_16 ⟨(Nat.le_trans (Nat.le_of_ble_eq_true rfl) hRc), (Nat.le_trans (Nat.le_of_ble_eq_true rfl) hRs)⟩) hS (fun q _ h => hFc q h) hFc (fun M_128 t H_126 locs ht hvm hw hB hz1 hk1 hS => ?_)
    obtain ⟨hW, hF2, hVP, hp_129⟩ := hw
    obtain ⟨hP1, hD1⟩ := hB
    rw [ht] at hP1
    have hP : va_P D vwCl ([] ++ va_pl L M_128) H_126 := hP1
    have hD : va_D A ([] ++ va_pl L M_128) := hD1.mono hFc
    have hM_130 : M_128 oa = .inr (7, [.ref y0, .ref y1, .ref y2, .ref y3, .ref y4, .int (nI y5)]) := (hF2.at ia (by decide)).trans hMy
    have hF : fr K L [69, 70] M M_128 := hF.tr hF2 (by decide)
    have hfl := hVP
    refine lv_lconst (v := 0) hx hb dX7_cut_19 (by decide) ?_
    rw [hQ]
    exact W.lret (v := 0) hx hb hr (fun t ht hW9 => ⟨⟨0, M_128, rfl, ⟨hW, hF, ⟨fun _ j hj => by show (LFc (M_128 y2) j).toInt = 0; rw [hfl j (by omega)]; rfl, fun h9 => absurd h9 (by omega)⟩, ⟨_, rfl, (by rw [if_pos ht0])⟩⟩, ⟨by rw [ht]; exact hP, hD⟩⟩, hS.F ht⟩) hS.2.2 dX7_cut_20
set_option maxHeartbeats 4000000 in
set_option maxRecDepth 100000 in
theorem e_isLim (l : Launch) (D : va_G) (cy : Nat → ClassId) (K : Kp) (L : List Nat) (M : Hp) (sz : Nat) (oa : Nat) (hW : WOK cy K L M) (ia : isk K L oa 4 0) : Met l yX4_isLimited (wsM yX4_isLimited cX4_isLimited 1 (some .boolean)) ({ frames := 1, cells := 0, slots := 0, locals := 20 }) (va_Pc [.ref oa] (PG D cy [] L M sz)) (va_Qi (fun (r : Int32) (_ : Unit) => (r = 1 ∧ (LKD (cV 4 M oa 1))) ∨ (r = 0 ∧ ¬ (LKD (cV 4 M oa 1)))) (fun _ t => PQ D [] L M (va_A ([] ++ va_pl L M) sz) t) (va_A ([] ++ va_pl L M) sz)) 0 0 (va_A ([] ++ va_pl L M) sz) := by
  refine Met.ofW (cc := cX4_isLimited) (maxL := 1) (ret := (some .boolean)) (by decide) rfl ?_
  intro p e s m args below meth c s₁ B hml hv
  obtain ⟨rfl, hsz, hP, hK, hD0, hN⟩ := hv
  have hx := B.exec
  have hb := B.bytes
  have hr := B.returns
  have hts := atoms_spec (ws := (wsM yX4_isLimited cX4_isLimited 1 (some .boolean))) B.pre
  have hg : ∀ w ∈ lw_good, w.before _ s = true := fun w h => hts w (List.mem_cons_of_mem _ h)
  have hown : s.vm.findClass RX4 = some m.cls := findClass_of_methodNamed B.named
  have hlocks := B.notSynchronized
  subst hsz
  have hD := hD0.self (sz := s.heap.size)
  generalize hAe : va_A ([] ++ va_pl L M) s.heap.size = A at hD ⊢
  have hA : ∀ q : Nat, s.heap.size ≤ q → A q := fun q h => by rw [← hAe]; exact Or.inr h
  have hS : va_S A s.heap s.heap [] := va_S.rf
  have hl := lv_entry ([.ref oa]) (n := 1) (Nat.le_of_ble_eq_true rfl)
  rw [lg_entry_eq]
  generalize (lg_sl ([.ref oa]) ++ List.replicate (1 - (lg_sl ([.ref oa])).length) Slot.unset).toArray = ls at hl ⊢
  refine W.nameQ (fun Q hQ => ?_)
  refine W.nameR (fun R hR => ?_)
  have hRf : 1 ≤ R.frames := by rw [hR]; exact Nat.le_of_ble_eq_true rfl
  have hRl : 20 ≤ R.locals := by rw [hR]; exact Nat.le_of_ble_eq_true rfl
  have hRc : 0 ≤ R.cells := by rw [hR]; exact Nat.le_of_ble_eq_true rfl
  have hRs : 0 ≤ R.slots := by rw [hR]; exact Nat.le_of_ble_eq_true rfl
  have hl : lv_has ls 1 [(0, .ref oa)] := hl
  refine lv_aload_n hx hb dX4_isLimited_0 rfl (lv_at hl 0 rfl) ?_
  obtain ⟨v1_0, v1_1, v1_2, v1_3, hM1, h1_3⟩ := hW.open_4 ia
  refine pg_get (D := D) (ci := 4) (v := .int v1_1) (C := RX4) (T := TX4) (N := 4) hx hb hg inG4 hown hK hP ia.1 hM1 rfl 1 (by decide) (hg _ wd_1) (fun _ h9 => h9) rfl dX4_isLimited_1 ?_
  have hPc : va_P D vwCl ([] ++ va_pl L M) s.heap := hP
  have hDc : va_D A ([] ++ va_pl L M) := hD
  have hFc : ∀ q, va_A ([] ++ va_pl L M) s.heap.size q → A q := pg_free hDc hS hA
  refine va_calli (va_runSN (As := [.int v1_1]) (rest := []) ⟨hx, hb, hml, hown, hg⟩ (e_X11_isLimitedKind l D cy K L M s.heap.size v1_1  hW ) ⟨va_cnB 1 hg (gB wd_2) rfl rfl rfl (hN _ (List.mem_of_getElem? (i := 6) rfl) : va_Nw (Cond.methodLinkNest RX4 25 yX11_isLimitedKind RX11) s) (hg _ wd_3) (by decide +kernel) ⟨(Nat.le_trans (Nat.le_of_ble_eq_true rfl) hRf), (Nat.le_trans (Nat.le_of_ble_eq_true rfl) hRl)⟩, hg _ wd_4, trivial⟩ ⟨PG.blind, fun U hU hW => ⟨rfl, PG.at hPc hK hDc hN hU hW⟩⟩ rfl rfl hl.1 rfl (lv_room (Nat.le_of_ble_eq_true rfl)) dX4_isLimited_4 ⟨(Nat.le_trans (Nat.le_of_ble_eq_true rfl) hRc), (Nat.le_trans (Nat.le_of_ble_eq_true rfl) hRs)⟩) hS (fun q _ h => hFc q h) hFc (fun r_3 M_4 t H_2 locs ht hvm hw hB hz1 hk1 hS => ?_)
  have hp_5 := hw
  obtain ⟨hP1, hD1⟩ := hB
  rw [ht] at hP1
  have hP : va_P D vwCl ([] ++ va_pl L M) H_2 := hP1
  have hD : va_D A ([] ++ va_pl L M) := hD1.mono hFc
  rcases hp_5 with ⟨rfl, c_6⟩ | ⟨rfl, c_7⟩
  · have hz := rfl (a := 0)
    rw [hQ]
    exact W.zret (v := 1) hx hb hr rfl (fun t ht hW9 => ⟨⟨1, (), rfl, (Or.inl ⟨rfl, (by unfold LKD; rw [cV_of (j := 1) hM1 rfl]; exact c_6)⟩), ⟨by rw [ht]; exact hP, hD⟩⟩, hS.F ht⟩) hS.2.2 dX4_isLimited_7
  · have hz := rfl (a := 0)
    rw [hQ]
    exact W.zret (v := 0) hx hb hr rfl (fun t ht hW9 => ⟨⟨0, (), rfl, (Or.inr ⟨rfl, (by unfold LKD; rw [cV_of (j := 1) hM1 rfl]; exact c_7)⟩), ⟨by rw [ht]; exact hP, hD⟩⟩, hS.F ht⟩) hS.2.2 dX4_isLimited_7
set_option maxHeartbeats 4000000 in
set_option maxRecDepth 100000 in
theorem e_room (l : Launch) (D : va_G) (cy : Nat → ClassId) (K : Kp) (L : List Nat) (M : Hp) (sz : Nat) (oa : Nat) (hW : WOK cy K L M) (ia : isk K L oa 9 0) (hbn : (-1000000000000000 ≤ (cL 9 M oa 11).toInt ∧ (cL 9 M oa 11).toInt ≤ 1000000000000000)) : Met l yX9_room (wsM yX9_room cX9_room 1 (some .long)) ({ frames := 1, cells := 0, slots := 0, locals := 15 }) (va_Pc [.ref oa] (PG D cy [] L M sz)) (va_Ql (fun (r : Int64) (_ : Unit) => (∃ (vr : Int64), r = vr ∧ ((vr : Int64).toInt = rmI (cV 4 M (rA 9 M oa 1) 2).toInt (cL 9 M oa 11).toInt))) (fun _ t => PQ D [] L M (va_A ([] ++ va_pl L M) sz) t) (va_A ([] ++ va_pl L M) sz)) 0 0 (va_A ([] ++ va_pl L M) sz) := by
  refine Met.ofW (cc := cX9_room) (maxL := 1) (ret := (some .long)) (by decide) rfl ?_
  intro p e s m args below meth c s₁ B hml hv
  obtain ⟨rfl, hsz, hP, hK, hD0, hN⟩ := hv
  have hx := B.exec
  have hb := B.bytes
  have hr := B.returns
  have hts := atoms_spec (ws := (wsM yX9_room cX9_room 1 (some .long))) B.pre
  have hg : ∀ w ∈ lw_good, w.before _ s = true := fun w h => hts w (List.mem_cons_of_mem _ h)
  have hown : s.vm.findClass RX9 = some m.cls := findClass_of_methodNamed B.named
  have hlocks := B.notSynchronized
  subst hsz
  have hD := hD0.self (sz := s.heap.size)
  generalize hAe : va_A ([] ++ va_pl L M) s.heap.size = A at hD ⊢
  have hA : ∀ q : Nat, s.heap.size ≤ q → A q := fun q h => by rw [← hAe]; exact Or.inr h
  have hS : va_S A s.heap s.heap [] := va_S.rf
  have hl := lv_entry ([.ref oa]) (n := 1) (Nat.le_of_ble_eq_true rfl)
  rw [lg_entry_eq]
  generalize (lg_sl ([.ref oa]) ++ List.replicate (1 - (lg_sl ([.ref oa])).length) Slot.unset).toArray = ls at hl ⊢
  refine W.nameQ (fun Q hQ => ?_)
  refine W.nameR (fun R hR => ?_)
  have hRf : 1 ≤ R.frames := by rw [hR]; exact Nat.le_of_ble_eq_true rfl
  have hRl : 15 ≤ R.locals := by rw [hR]; exact Nat.le_of_ble_eq_true rfl
  have hRc : 0 ≤ R.cells := by rw [hR]; exact Nat.le_of_ble_eq_true rfl
  have hRs : 0 ≤ R.slots := by rw [hR]; exact Nat.le_of_ble_eq_true rfl
  have hl : lv_has ls 1 [(0, .ref oa)] := hl
  refine lv_lconst (v := 0) hx hb dX9_room_0 (by decide) ?_
  refine lv_aload_n hx hb dX9_room_1 rfl (lv_at hl 0 rfl) ?_
  obtain ⟨v1_0, v1_1, v1_2, v1_3, v1_4, v1_5, v1_6, v1_7, v1_8, v1_9, v1_10, v1_11, v1_12, v1_13, v1_14, v1_15, hM1, h1_0, h1_1, h1_4, h1_8⟩ := hW.open_9 ia
  refine pg_get (D := D) (ci := 9) (v := .ref v1_1) (C := RX9) (T := TX9) (N := 16) hx hb hg inG9 hown hK hP ia.1 hM1 rfl 1 (by decide) (hg _ wd_7) (fun _ h9 => h9) rfl dX9_room_2 ?_
  obtain ⟨v2_0, v2_1, v2_2, v2_3, hM2, h2_3⟩ := hW.open_4 h1_1
  refine pg_get (D := D) (ci := 4) (v := .int v2_2) (C := RX4) (T := TX4) (N := 4) hx hb hg inG4 hown hK hP h1_1.1 hM2 rfl 2 (by decide) (hg _ wd_8) (fun _ h9 => h9) rfl dX9_room_5 ?_
  refine lv_i2l hx hb dX9_room_8 rfl ?_
  refine lv_topl (fun f_3 ef_3 => ?_)
  refine lv_aload_n hx hb dX9_room_9 rfl (lv_at hl 0 rfl) ?_
  refine pg_get (D := D) (ci := 9) (v := .long v1_11) (C := RX9) (T := TX9) (N := 16) hx hb hg inG9 hown hK hP ia.1 hM1 rfl 11 (by decide) (hg _ wd_9) (fun _ h9 => h9) rfl dX9_room_10 ?_
  refine lv_lsub hx hb dX9_room_13 ?_
  refine lv_topl (fun f_4 ef_4 => ?_)
  refine va_mmax_long hx hb (by rw [hml]; exact hl.1.symm) hown (hg _ wd_10) (hg _ wd_11) (hg _ wd_12) (hg _ wd_13) (Nat.le_trans (Nat.le_of_ble_eq_true rfl) hRf) (Nat.le_trans (Nat.le_of_ble_eq_true rfl) hRl) (Nat.le_trans (Nat.le_of_ble_eq_true rfl) hRc) (Nat.le_trans (Nat.le_of_ble_eq_true rfl) hRs) dX9_room_14 ?_
  refine lv_topl (fun f_5 ef_5 => ?_)
  have hb9 : cL 9 M oa 11 = v1_11 := cL_of (j := 11) hM1 rfl
  rw [hb9] at hbn
  have hl9 : cV 4 M (rA 9 M oa 1) 2 = v2_2 := by rw [rA_of (j := 1) hM1 rfl]; exact cV_of (j := 2) hM2 rfl
  have hi9 : (f_3 : Int64).toInt = (v2_2 : Int32).toInt := by rw [ef_3]; exact Int32.toInt_toInt64 _
  have hlo := Int32.le_toInt v2_2
  have hlu := Int32.toInt_lt v2_2
  have hs9 := lS ef_4 (by omega) (by omega)
  have hm9 := lmax ef_5
  rw [hs9, hi9, show (0 : Int64).toInt = 0 from rfl] at hm9
  rw [hQ]
  exact W.lret (v := f_5) hx hb hr (fun t ht hW9 => ⟨⟨f_5, (), rfl, ⟨_, rfl, (by rw [hl9, hb9]; unfold rmI; exact hm9)⟩, ⟨by rw [ht]; exact hP, hD⟩⟩, hS.F ht⟩) hS.2.2 dX9_room_17
set_option maxHeartbeats 4000000 in
set_option maxRecDepth 100000 in
theorem e_loss (l : Launch) (D : va_G) (cy : Nat → ClassId) (K : Kp) (L : List Nat) (M : Hp) (sz : Nat) (oa : Nat) (k1 : Int64) (lim : Nat → Prop) (room : Nat → Int) (y0 : Nat) (y1 : Nat) (y2 : Nat) (y3 : Nat) (y4 : Nat) (y5 : Nat) (hW : WOK cy K L M) (ia : isk K L oa 7 0) (hWB : (∀ j : Nat, j < y5 → 0 ≤ wI (LFc (M y1)) j ∧ wI (LFc (M y1)) j ≤ 1000)) (hkB : (0 ≤ k1.toInt ∧ k1.toInt ≤ 1000000000000000)) (hLR : (∀ j : Nat, j < y5 → LMR M y0 lim room j)) (hMy : M oa = .inr (7, [.ref y0, .ref y1, .ref y2, .ref y3, .ref y4, .int (nI y5)])) (hy0 : isk K L y0 64 100) (hy1 : isk K L y1 68 100) (hy2 : isk K L y2 69 100) (hy3 : isk K L y3 70 100) (hy4 : isk K L y4 71 100) (hy5 : y5 ≤ 100) : Met l yX7_shareLoss (wsM yX7_shareLoss cX7_shareLoss 8 (some .long)) ({ frames := 2, cells := 0, slots := 0, locals := 55 }) (va_Pc [.ref oa, .long k1] (PG D cy [] L M sz)) (va_Ql (fun (r : Int64) (M9 : Hp) => WOK cy K L M9 ∧ fr K L [68, 69, 70, 71] M M9 ∧ ((∀ j : Nat, j < y5 → (LFc (M9 y2) j).toInt = (brQ k1.toInt (wI (LFc (M y1))) lim room y5 j))) ∧ ((∃ (vr : Int64), r = vr ∧ ((vr : Int64).toInt = k1.toInt - sumI (brQ k1.toInt (wI (LFc (M y1))) lim room y5) y5)))) (fun M9 t => PQ D [] L M9 (va_A ([] ++ va_pl L M) sz) t) (va_A ([] ++ va_pl L M) sz)) 0 0 (va_A ([] ++ va_pl L M) sz) := by
  refine Met.ofW (cc := cX7_shareLoss) (maxL := 8) (ret := (some .long)) (by decide) rfl ?_
  intro p e s m args below meth c s₁ B hml hv
  obtain ⟨rfl, hsz, hP, hK, hD0, hN⟩ := hv
  have hx := B.exec
  have hb := B.bytes
  have hr := B.returns
  have hts := atoms_spec (ws := (wsM yX7_shareLoss cX7_shareLoss 8 (some .long))) B.pre
  have hg : ∀ w ∈ lw_good, w.before _ s = true := fun w h => hts w (List.mem_cons_of_mem _ h)
  have hown : s.vm.findClass RX7 = some m.cls := findClass_of_methodNamed B.named
  have hlocks := B.notSynchronized
  subst hsz
  have hD := hD0.self (sz := s.heap.size)
  generalize hAe : va_A ([] ++ va_pl L M) s.heap.size = A at hD ⊢
  have hA : ∀ q : Nat, s.heap.size ≤ q → A q := fun q h => by rw [← hAe]; exact Or.inr h
  have hS : va_S A s.heap s.heap [] := va_S.rf
  have hl := lv_entry ([.ref oa, .long k1]) (n := 8) (Nat.le_of_ble_eq_true rfl)
  rw [lg_entry_eq]
  generalize (lg_sl ([.ref oa, .long k1]) ++ List.replicate (8 - (lg_sl ([.ref oa, .long k1])).length) Slot.unset).toArray = ls at hl ⊢
  refine W.nameQ (fun Q hQ => ?_)
  refine W.nameR (fun R hR => ?_)
  have hRf : 2 ≤ R.frames := by rw [hR]; exact Nat.le_of_ble_eq_true rfl
  have hRl : 55 ≤ R.locals := by rw [hR]; exact Nat.le_of_ble_eq_true rfl
  have hRc : 0 ≤ R.cells := by rw [hR]; exact Nat.le_of_ble_eq_true rfl
  have hRs : 0 ≤ R.slots := by rw [hR]; exact Nat.le_of_ble_eq_true rfl
  have hF : fr K L [68, 69, 70, 71] M M := fr.rf
  have hl : lv_has ls 8 [(0, .ref oa), (1, .long k1)] := hl
  have hW00 := hW
  have hw0 : ∀ i : Nat, i < y5 → 0 ≤ (wI (LFc (M y1))) i := fun i hi => (hWB i hi).1
  have hrm : ∀ j : Nat, j < y5 → lim j → 0 ≤ room j := fun j hj hl9 => by
    have h8 := hLR j hj
    cases h7 : RFc (M y0) j with
    | none => exact absurd hl9 (h8.1 h7)
    | some t9 => rw [(h8.2 t9 h7).2.2 hl9]; exact rmI_nn
  have hofL := offQ_L (room := room) hkB.1 hw0 hrm
  have hof := offQ_c (room := room) hkB.1 hkB.2 hw0 hrm
  obtain ⟨f1, hM1⟩ := hW.open_68 hy1
  have hW1 : ∀ j : Nat, (f1 j).toInt = (wI (LFc (M y1))) j := fun j => by show _ = (LFc (M y1) j).toInt; rw [LFc_of hM1]
  refine lv_aload_n hx hb dX7_shareLoss_0 rfl (lv_at hl 0 rfl) ?_
  refine lv_lload_n hx hb dX7_shareLoss_1 rfl (lv_at hl 1 rfl) ?_
  have hPc : va_P D vwCl ([] ++ va_pl L M) s.heap := hP
  have hDc : va_D A ([] ++ va_pl L M) := hD
  have hFc : ∀ q, va_A ([] ++ va_pl L M) s.heap.size q → A q := pg_free hDc hS hA
  refine va_calll (va_runV (As := [.long k1]) (rest := []) ⟨hx, hb, hml, hown, hg⟩ (e_cutP l D cy K L M s.heap.size oa k1 y0 y1 y2 y3 y4 y5 hW ia hWB (by omega) hMy hy0 hy1 hy2 hy3 hy4 hy5) (cwV 1 hg (gV wd_161 wd_162 wd_163 wd_148 wd_164) rfl rfl rfl (by decide +kernel) ⟨(Nat.le_trans (Nat.le_of_ble_eq_true rfl) hRf), (Nat.le_trans (Nat.le_of_ble_eq_true rfl) hRl)⟩) ⟨PG.blind, pg_recv hK hP ia.1 hMy rfl, fun U hU hW => ⟨rfl, PG.at hPc hK hDc hN hU hW⟩⟩ rfl rfl hl.1 rfl (lv_room (Nat.le_of_ble_eq_true rfl)) dX7_shareLoss_2 ⟨(Nat.le_trans (Nat.le_of_ble_eq_true rfl) hRc), (Nat.le_trans (Nat.le_of_ble_eq_true rfl) hRs)⟩) hS (fun q _ h => hFc q h) hFc (fun r_3 M_4 t H_2 locs ht hvm hw hB hz1 hk1 hS => ?_)
  obtain ⟨hW, hF2, hVP, hp_5⟩ := hw
  obtain ⟨hP1, hD1⟩ := hB
  rw [ht] at hP1
  have hP : va_P D vwCl ([] ++ va_pl L M_4) H_2 := hP1
  have hD : va_D A ([] ++ va_pl L M_4) := hD1.mono hFc
  have hM_6 : M_4 oa = .inr (7, [.ref y0, .ref y1, .ref y2, .ref y3, .ref y4, .int (nI y5)]) := (hF2.at ia (by decide)).trans hMy
  have hM_7 : M_4 y1 = .inl (cy 15, 100, .inr (.inl (f1))) := (hF2.at hy1 (by decide)).trans hM1
  have hF : fr K L [68, 69, 70, 71] M M_4 := hF.tr hF2 (by decide)
  obtain ⟨vr_8, hr_10, c_9⟩ := hp_5
  have hq := Eq.symm hr_10
  subst hq
  have hcq : ∀ j : Nat, j < y5 → (LFc (M_4 y2) j).toInt = (cutQ k1.toInt (wI (LFc (M y1))) y5 j) := fun j hj => CUTP.q hVP hkB.1 (sumI_nn y5 hw0) j hj
  refine lv_pop2_2 hx hb dX7_shareLoss_5 rfl ?_
  refine lv_lconst (v := 0) hx hb dX7_shareLoss_6 (by decide) ?_
  refine lv_lstore_n (lv' := [(3, .long 0), (0, .ref oa), (1, .long k1)]) hx hb dX7_shareLoss_7 rfl hl (by decide) rfl (fun ls hl => ?_)
  refine lv_iconst (v := 0) hx hb dX7_shareLoss_8 (by decide) ?_
  refine lv_istore (lv' := [(5, .int 0), (3, .long 0), (0, .ref oa), (1, .long k1)]) hx hb dX7_shareLoss_9 hl (by decide) rfl (fun ls hl => ?_)
  obtain ⟨f11, hM11⟩ := hW.open_69 hy2
  obtain ⟨f12, hM12⟩ := hW.open_71 hy4
  have key_13 : ∀ (fu_15 : Nat) (v3w16 : Int64) (v5w16 : Nat) (gPw16 : Nat → Int64) (gKw16 : Nat → Int64) (gWw16 : Nat → Int64) (M_23 : Hp) (H_24 : Heap) (locs : List Loc) (ls : Array Slot), 100 - v5w16 < fu_15 → M_23 oa = .inr (7, [.ref y0, .ref y1, .ref y2, .ref y3, .ref y4, .int (nI y5)]) → M_23 y2 = .inl (cy 15, 100, .inr (.inl (gPw16))) → M_23 y4 = .inl (cy 15, 100, .inr (.inl (gKw16))) → M_23 y1 = .inl (cy 15, 100, .inr (.inl (gWw16))) → v5w16 ≤ 100 → v5w16 ≤ y5 → (∀ j : Nat, j < y5 → (gPw16 j).toInt = (cutQ k1.toInt (wI (LFc (M y1))) y5 j)) → (∀ j : Nat, j < v5w16 → (gKw16 j).toInt = (kpt k1.toInt (wI (LFc (M y1))) lim room y5 j)) → (∀ j : Nat, j < y5 → (gWw16 j).toInt = if j < v5w16 then (wAl (wI (LFc (M y1))) lim) j else (wI (LFc (M y1))) j) → v3w16.toInt = offQ k1.toInt (wI (LFc (M y1))) lim room y5 v5w16 → WOK cy K L M_23 → fr K L [68, 69, 70, 71] M M_23 → va_P D vwCl ([] ++ va_pl L M_23) H_24 → va_D A ([] ++ va_pl L M_23) → va_S A s.heap H_24 locs → lv_has ls 8 [(5, .int (nI v5w16)), (3, .long v3w16), (0, .ref oa), (1, .long k1)] → W p l e R s m ([.ref oa, .long k1] : List Value).toArray below meth c H_24 locs 0 0 Q (F0 m 11 ls []) := by
    intro fu_15
    induction fu_15 with
    | zero => intro v3w16 v5w16 gPw16 gKw16 gWw16 M_23 H_24 locs ls h; exact absurd h (Nat.not_lt_zero _)
    | succ fu_15 ih_14 =>
      intro v3w16 v5w16 gPw16 gKw16 gWw16 M_23 H_24 locs ls hfu hM_25 hM_26 hM_27 hM_28 hx_17 hx_18 hx_19 hx_20 hx_21 hx_22 hW hF hP hD hS hl
      refine lv_iload hx hb dX7_shareLoss_11 (lv_at hl 0 rfl) ?_
      refine lv_aload_n hx hb dX7_shareLoss_13 rfl (lv_at hl 2 rfl) ?_
      refine pg_get (D := D) (ci := 7) (v := .int (nI y5)) (C := RX7) (T := TX7) (N := 6) hx hb hg inG7 hown hK hP ia.1 hM_25 rfl 5 (by decide) (hg _ wd_139) (fun _ h9 => h9) rfl dX7_shareLoss_14 ?_
      refine lv_icmp_ge (tgt := 113) hx hb dX7_shareLoss_17 (by decide) (fun c_29 => ?_) (fun c_29 => ?_)
      · have hz := rfl (a := 0)
        have n_30 : y5 ≤ v5w16 := (iLE (a := y5) (b := v5w16) (by omega) (by omega)).mp c_29
        have hnn : v5w16 = y5 := by omega
        rw [hnn] at hx_20 hx_21 hx_22
        have hov : (v3w16 : Int64).toInt = offQ k1.toInt (wI (LFc (M y1))) lim room y5 y5 := hx_22
        have hWa : ∀ j : Nat, j < y5 → wI (LFc (M_23 y1)) j = (wAl (wI (LFc (M y1))) lim) j := fun j hj => by show (LFc (M_23 y1) j).toInt = _; rw [LFc_of hM_28, hx_21 j hj, if_pos hj]
        have hWB2 : ∀ j : Nat, j < y5 → 0 ≤ wI (LFc (M_23 y1)) j ∧ wI (LFc (M_23 y1)) j ≤ 1000 := fun j hj => by rw [hWa j hj]; exact wAl_b (hWB j hj)
        refine lv_aload_n hx hb dX7_shareLoss_113 rfl (lv_at hl 2 rfl) ?_
        refine lv_lload_n hx hb dX7_shareLoss_114 rfl (lv_at hl 1 rfl) ?_
        have hPc : va_P D vwCl ([] ++ va_pl L M_23) H_24 := hP
        have hDc : va_D A ([] ++ va_pl L M_23) := hD
        have hFc : ∀ q, va_A ([] ++ va_pl L M_23) H_24.size q → A q := pg_free hDc hS hA
        refine va_calll (va_runV (As := [.long v3w16]) (rest := []) ⟨hx, hb, hml, hown, hg⟩ (e_cutP l D cy K L M_23 H_24.size oa v3w16 y0 y1 y2 y3 y4 y5 hW ia hWB2 (by rw [hov]; omega) hM_25 hy0 hy1 hy2 hy3 hy4 hy5) (cwV 1 hg (gV wd_161 wd_162 wd_163 wd_148 wd_164) rfl rfl rfl (by decide +kernel) ⟨(Nat.le_trans (Nat.le_of_ble_eq_true rfl) hRf), (Nat.le_trans (Nat.le_of_ble_eq_true rfl) hRl)⟩) ⟨PG.blind, pg_recv hK hP ia.1 hM_25 rfl, fun U hU hW => ⟨rfl, PG.at hPc hK hDc hN hU hW⟩⟩ rfl rfl hl.1 rfl (lv_room (Nat.le_of_ble_eq_true rfl)) dX7_shareLoss_115 ⟨(Nat.le_trans (Nat.le_of_ble_eq_true rfl) hRc), (Nat.le_trans (Nat.le_of_ble_eq_true rfl) hRs)⟩) hS (fun q _ h => hFc q h) hFc (fun r_32 M_33 t H_31 locs ht hvm hw hB hz1 hk1 hS => ?_)
        obtain ⟨hW, hF2, hVP, hp_34⟩ := hw
        obtain ⟨hP1, hD1⟩ := hB
        rw [ht] at hP1
        have hP : va_P D vwCl ([] ++ va_pl L M_33) H_31 := hP1
        have hD : va_D A ([] ++ va_pl L M_33) := hD1.mono hFc
        have hM_35 : M_33 oa = .inr (7, [.ref y0, .ref y1, .ref y2, .ref y3, .ref y4, .int (nI y5)]) := (hF2.at ia (by decide)).trans hM_25
        have hM_36 : M_33 y4 = .inl (cy 15, 100, .inr (.inl (gKw16))) := (hF2.at hy4 (by decide)).trans hM_27
        have hM_37 : M_33 y1 = .inl (cy 15, 100, .inr (.inl (gWw16))) := (hF2.at hy1 (by decide)).trans hM_28
        have hF : fr K L [68, 69, 70, 71] M M_33 := hF.tr hF2 (by decide)
        obtain ⟨vr_38, hr_40, c_39⟩ := hp_34
        have hq := Eq.symm hr_40
        subst hq
        have hcq2 : ∀ j : Nat, j < y5 → (LFc (M_33 y2) j).toInt = cutQ (offQ k1.toInt (wI (LFc (M y1))) lim room y5 y5) (wAl (wI (LFc (M y1))) lim) y5 j := fun j hj => by have h9 := CUTP.q hVP (by rw [hov]; exact hofL.1) (sumI_nn y5 (fun i hi => (hWB2 i hi).1)) j hj; rw [hov] at h9; rw [← cutQ_cg hWa hj]; exact h9
        have hwa0 : ∀ i : Nat, i < y5 → 0 ≤ (wAl (wI (LFc (M y1))) lim) i := fun i hi => (wAl_b (hWB i hi)).1
        refine lv_pop2_2 hx hb dX7_shareLoss_118 rfl ?_
        refine lv_lload_n hx hb dX7_shareLoss_119 rfl (lv_at hl 3 rfl) ?_
        refine lv_lstore (lv' := [(5, .long k1), (3, .long v3w16), (0, .ref oa), (1, .long k1)]) hx hb dX7_shareLoss_120 hl (by decide) rfl (fun ls hl => ?_)
        refine lv_iconst (v := 0) hx hb dX7_shareLoss_122 (by decide) ?_
        refine lv_istore (lv' := [(7, .int 0), (5, .long k1), (3, .long v3w16), (0, .ref oa), (1, .long k1)]) hx hb dX7_shareLoss_123 hl (by decide) rfl (fun ls hl => ?_)
        obtain ⟨f41, hM41⟩ := hW.open_69 hy2
        have key_42 : ∀ (fu_44 : Nat) (v5w45 : Int64) (v7w45 : Nat) (gPw45 : Nat → Int64) (gKw45 : Nat → Int64) (M_52 : Hp) (H_53 : Heap) (locs : List Loc) (ls : Array Slot), 100 - v7w45 < fu_44 → M_52 oa = .inr (7, [.ref y0, .ref y1, .ref y2, .ref y3, .ref y4, .int (nI y5)]) → M_52 y2 = .inl (cy 15, 100, .inr (.inl (gPw45))) → M_52 y4 = .inl (cy 15, 100, .inr (.inl (gKw45))) → v7w45 ≤ 100 → v7w45 ≤ y5 → (∀ j : Nat, j < v7w45 → (gPw45 j).toInt = (brQ k1.toInt (wI (LFc (M y1))) lim room y5 j)) → (∀ j : Nat, v7w45 ≤ j → j < y5 → (gPw45 j).toInt = (cutQ (offQ k1.toInt (wI (LFc (M y1))) lim room y5 y5) (wAl (wI (LFc (M y1))) lim) y5 j)) → (∀ j : Nat, j < y5 → (gKw45 j).toInt = (kpt k1.toInt (wI (LFc (M y1))) lim room y5 j)) → v5w45.toInt = k1.toInt - sumI (brQ k1.toInt (wI (LFc (M y1))) lim room y5) v7w45 → WOK cy K L M_52 → fr K L [68, 69, 70, 71] M M_52 → va_P D vwCl ([] ++ va_pl L M_52) H_53 → va_D A ([] ++ va_pl L M_52) → va_S A s.heap H_53 locs → lv_has ls 8 [(7, .int (nI v7w45)), (5, .long v5w45), (3, .long v3w16), (0, .ref oa), (1, .long k1)] → W p l e R s m ([.ref oa, .long k1] : List Value).toArray below meth c H_53 locs 0 0 Q (F0 m 125 ls []) := by
          intro fu_44
          induction fu_44 with
          | zero => intro v5w45 v7w45 gPw45 gKw45 M_52 H_53 locs ls h; exact absurd h (Nat.not_lt_zero _)
          | succ fu_44 ih_43 =>
            intro v5w45 v7w45 gPw45 gKw45 M_52 H_53 locs ls hfu hM_54 hM_55 hM_56 hx_46 hx_47 hx_48 hx_49 hx_50 hx_51 hW hF hP hD hS hl
            refine lv_iload hx hb dX7_shareLoss_125 (lv_at hl 0 rfl) ?_
            refine lv_aload_n hx hb dX7_shareLoss_127 rfl (lv_at hl 3 rfl) ?_
            refine pg_get (D := D) (ci := 7) (v := .int (nI y5)) (C := RX7) (T := TX7) (N := 6) hx hb hg inG7 hown hK hP ia.1 hM_54 rfl 5 (by decide) (hg _ wd_139) (fun _ h9 => h9) rfl dX7_shareLoss_128 ?_
            refine lv_icmp_ge (tgt := 169) hx hb dX7_shareLoss_131 (by decide) (fun c_57 => ?_) (fun c_57 => ?_)
            · have hz := rfl (a := 0)
              have n_58 : y5 ≤ v7w45 := (iLE (a := y5) (b := v7w45) (by omega) (by omega)).mp c_57
              refine lv_lload hx hb dX7_shareLoss_169 (lv_at hl 1 rfl) ?_
              rw [hQ]
              exact W.lret (v := v5w45) hx hb hr (fun t ht hW9 => ⟨⟨v5w45, M_52, rfl, ⟨hW, hF, (fun j hj => by rw [LFc_of hM_55]; exact hx_48 j (by omega)), ⟨_, rfl, (by have h9 := hx_51; rw [show v7w45 = y5 by omega] at h9; exact h9)⟩⟩, ⟨by rw [ht]; exact hP, hD⟩⟩, hS.F ht⟩) hS.2.2 dX7_shareLoss_171
            · have hz := rfl (a := 0)
              have n_59 : ¬ (y5 ≤ v7w45) := fun q => c_57 ((iLE (a := y5) (b := v7w45) (by omega) (by omega)).mpr q)
              refine lv_aload_n hx hb dX7_shareLoss_134 rfl (lv_at hl 3 rfl) ?_
              refine pg_get (D := D) (ci := 7) (v := .ref y2) (C := RX7) (T := TX7) (N := 6) hx hb hg inG7 hown hK hP ia.1 hM_54 rfl 2 (by decide) (hg _ wd_142) (fun _ h9 => h9) rfl dX7_shareLoss_135 ?_
              refine lv_iload hx hb dX7_shareLoss_138 (lv_at hl 0 rfl) ?_
              refine lv_dup2_11 hx hb dX7_shareLoss_140 rfl rfl ?_
              refine pg_lald hx hb hK hP hy2.1 1 hM_55 rfl (inbN v7w45 100 (by omega) (by omega)) dX7_shareLoss_141 ?_
              refine lv_topl (fun f_60 ef_60 => ?_)
              have hfa : (f_60 : Int64).toInt = (cutQ (offQ k1.toInt (wI (LFc (M y1))) lim room y5 y5) (wAl (wI (LFc (M y1))) lim) y5 v7w45) := by rw [ef_60, nI_cl (by omega)]; exact hx_49 v7w45 (by omega) (by omega)
              refine lv_aload_n hx hb dX7_shareLoss_142 rfl (lv_at hl 3 rfl) ?_
              refine pg_get (D := D) (ci := 7) (v := .ref y4) (C := RX7) (T := TX7) (N := 6) hx hb hg inG7 hown hK hP ia.1 hM_54 rfl 4 (by decide) (hg _ wd_165) (fun _ h9 => h9) rfl dX7_shareLoss_143 ?_
              refine lv_iload hx hb dX7_shareLoss_146 (lv_at hl 0 rfl) ?_
              refine pg_lald hx hb hK hP hy4.1 1 hM_56 rfl (inbN v7w45 100 (by omega) (by omega)) dX7_shareLoss_148 ?_
              refine lv_topl (fun f_61 ef_61 => ?_)
              have hfb : (f_61 : Int64).toInt = (kpt k1.toInt (wI (LFc (M y1))) lim room y5 v7w45) := by rw [ef_61, nI_cl (by omega)]; exact hx_50 v7w45 (by omega)
              refine lv_ladd hx hb dX7_shareLoss_149 ?_
              refine lv_topl (fun f_62 ef_62 => ?_)
              have hmb := cutQ_b (s := offQ k1.toInt (wI (LFc (M y1))) lim room y5 y5) hofL.1 hwa0 (show v7w45 < y5 by omega)
              have hkb := kpt_b (room := room) hkB.1 hw0 (hrm v7w45 (by omega)) (show v7w45 < y5 by omega)
              have hcb := cutQ_b (s := k1.toInt) hkB.1 hw0 (show v7w45 < y5 by omega)
              have hbv : (f_62 : Int64).toInt = (brQ k1.toInt (wI (LFc (M y1))) lim room y5 v7w45) := by have h9 := lA ef_62 (by rw [hfa, hfb]; omega) (by rw [hfa, hfb]; omega); rw [h9, hfa, hfb]; show _ = (kpt k1.toInt (wI (LFc (M y1))) lim room y5 v7w45) + (cutQ (offQ k1.toInt (wI (LFc (M y1))) lim room y5 y5) (wAl (wI (LFc (M y1))) lim) y5 v7w45); omega
              refine pg_last hx hb hK hP hD hS hy2.1 1 hM_55 rfl (inbN v7w45 100 (by omega) (by omega)) dX7_shareLoss_150 (fun H_63 locs hP hD hS => ?_)
              obtain ⟨M_64, eM_64⟩ : ∃ M1 : Hp, M1 = va_up M_52 y2 (.inl (cy 15, 100, .inr (.inl (vp_updL gPw45 ((nI v7w45) : Int32).toNatClampNeg f_62)))) := ⟨_, rfl⟩
              have hP : va_P D vwCl ([] ++ va_pl L M_64) H_63 := by rw [eM_64]; exact hP
              have hD : va_D A ([] ++ va_pl L M_64) := by rw [eM_64]; exact hD
              have hW : WOK cy K L M_64 := by rw [eM_64]; exact hW.up_69 hy2 ⟨_, rfl⟩
              have hF : fr K L [68, 69, 70, 71] M M_64 := by rw [eM_64]; exact hF.up hy2 (by decide)
              have hM_65 : M_64 y2 = .inl (cy 15, 100, .inr (.inl (vp_updL gPw45 ((nI v7w45) : Int32).toNatClampNeg f_62))) := by rw [eM_64]; exact va_up_self _ _ _
              have hM_66 : M_64 oa = .inr (7, [.ref y0, .ref y1, .ref y2, .ref y3, .ref y4, .int (nI y5)]) := by rw [eM_64, va_up_ne _ _ (ia.neT hy2 (by decide))]; exact hM_54
              have hM_67 : M_64 y4 = .inl (cy 15, 100, .inr (.inl (gKw45))) := by rw [eM_64, va_up_ne _ _ (hy4.neT hy2 (by decide))]; exact hM_56
              obtain ⟨f_68, ef_68⟩ : ∃ f : Nat → Int64, f = vp_updL gPw45 ((nI v7w45) : Int32).toNatClampNeg f_62 := ⟨_, rfl⟩
              rw [← ef_68] at hM_65
              refine lv_lload hx hb dX7_shareLoss_151 (lv_at hl 1 rfl) ?_
              refine lv_aload_n hx hb dX7_shareLoss_153 rfl (lv_at hl 3 rfl) ?_
              refine pg_get (D := D) (ci := 7) (v := .ref y2) (C := RX7) (T := TX7) (N := 6) hx hb hg inG7 hown hK hP ia.1 hM_66 rfl 2 (by decide) (hg _ wd_142) (fun _ h9 => h9) rfl dX7_shareLoss_154 ?_
              refine lv_iload hx hb dX7_shareLoss_157 (lv_at hl 0 rfl) ?_
              refine pg_lald hx hb hK hP hy2.1 1 hM_65 rfl (inbN v7w45 100 (by omega) (by omega)) dX7_shareLoss_159 ?_
              refine lv_topl (fun f_69 ef_69 => ?_)
              have hfc : (f_69 : Int64).toInt = (brQ k1.toInt (wI (LFc (M y1))) lim room y5 v7w45) := by rw [ef_69, nI_cl (by omega), ef_68, nI_cl (by omega), vp_updL_self]; exact hbv
              refine lv_lsub hx hb dX7_shareLoss_160 ?_
              refine lv_topl (fun f_70 ef_70 => ?_)
              have hbq : 0 ≤ (brQ k1.toInt (wI (LFc (M y1))) lim room y5 v7w45) ∧ (brQ k1.toInt (wI (LFc (M y1))) lim room y5 v7w45) ≤ 2000000000000000 := by show 0 ≤ (kpt k1.toInt (wI (LFc (M y1))) lim room y5 v7w45) + (cutQ (offQ k1.toInt (wI (LFc (M y1))) lim room y5 y5) (wAl (wI (LFc (M y1))) lim) y5 v7w45) ∧ (kpt k1.toInt (wI (LFc (M y1))) lim room y5 v7w45) + (cutQ (offQ k1.toInt (wI (LFc (M y1))) lim room y5 y5) (wAl (wI (LFc (M y1))) lim) y5 v7w45) ≤ _; omega
              have hsb := sumI_bd (f := brQ k1.toInt (wI (LFc (M y1))) lim room y5) (b := 2000000000000000) v7w45 (fun i hi => brQ_b hkB hw0 hrm hwa0 (by omega))
              have hnv : (f_70 : Int64).toInt = k1.toInt - sumI (brQ k1.toInt (wI (LFc (M y1))) lim room y5) (v7w45 + 1) := by have h9 := lS ef_70 (by rw [hx_51, hfc]; omega) (by rw [hx_51, hfc]; omega); rw [hx_51, hfc] at h9; rw [h9]; show _ = k1.toInt - (sumI (brQ k1.toInt (wI (LFc (M y1))) lim room y5) v7w45 + (brQ k1.toInt (wI (LFc (M y1))) lim room y5 v7w45)); omega
              refine lv_lstore (lv' := [(5, .long f_70), (7, .int (nI v7w45)), (3, .long v3w16), (0, .ref oa), (1, .long k1)]) hx hb dX7_shareLoss_161 hl (by decide) rfl (fun ls hl => ?_)
              refine lv_iinc (v := (nI (v7w45 + 1))) (lv' := [(7, .int (nI (v7w45 + 1))), (5, .long f_70), (3, .long v3w16), (0, .ref oa), (1, .long k1)]) hx hb dX7_shareLoss_163 hl (k := 1) rfl (nI_1 v7w45) (by decide) rfl (fun ls hl => ?_)
              refine lv_goto (tgt := 125) hx hb dX7_shareLoss_166 (by decide) ?_
              exact ih_43 f_70 (v7w45 + 1) f_68 gKw45 M_64 H_63 _ _ (by omega) hM_66 hM_65 hM_67 (by omega) (by omega) (by rw [ef_68, nI_cl (by omega)]; intro j hj; by_cases z9 : j = v7w45; rw [z9, vp_updL_self]; exact hbv; rw [vp_updL_ne _ _ z9]; exact hx_48 j (by omega)) (by rw [ef_68, nI_cl (by omega)]; intro j hj hj2; rw [vp_updL_ne _ _ (by omega)]; exact hx_49 j (by omega) hj2) hx_50 hnv hW hF hP hD hS (lv_sub hl [0, 1, 2, 3, 4] rfl)
        exact key_42 (100 - 0 + 1) k1 0 f41 gKw16 M_33 H_31 _ _ (by omega) hM_35 hM41 hM_36 (by omega) (by omega) (fun j h => absurd h (Nat.not_lt_zero _)) (fun j _ hj => by rw [← LFc_of hM41]; exact hcq2 j hj) hx_20 (by show _ = _ - (0 : Int); omega) hW hF hP hD hS (lv_sub hl [0, 1, 2, 3, 4] rfl)
      · have hz := rfl (a := 0)
        have n_71 : ¬ (y5 ≤ v5w16) := fun q => c_29 ((iLE (a := y5) (b := v5w16) (by omega) (by omega)).mpr q)
        refine lv_aload_n hx hb dX7_shareLoss_20 rfl (lv_at hl 2 rfl) ?_
        refine pg_get (D := D) (ci := 7) (v := .ref y0) (C := RX7) (T := TX7) (N := 6) hx hb hg inG7 hown hK hP ia.1 hM_25 rfl 0 (by decide) (hg _ wd_140) (fun _ h9 => h9) rfl dX7_shareLoss_21 ?_
        refine lv_iload hx hb dX7_shareLoss_24 (lv_at hl 0 rfl) ?_
        obtain ⟨f72, hM72, hf72⟩ := hW.open_64 hy0
        have hi_73 : vp_in (nI v5w16) 100 := (inbN v5w16 100 (by omega) (by omega))
        refine pg_aldq hx hb hK hP hy0.1 8 hM72 rfl hi_73 dX7_shareLoss_26 ?_
        obtain ⟨q_74, ho_75⟩ : ∃ q : Option Nat, q = f72 ((nI v5w16) : Int32).toNatClampNeg := ⟨_, rfl⟩
        rw [← ho_75]
        have hq_76 : iskN K L q_74 9 0 := by rw [ho_75]; exact hf72 _ (vp_lt hi_73)
        rcases q_74 with _ | bq_74
        · have hz := rfl (a := 0)
          have hlr := hLR v5w16 (by omega)
          have hs9 : RFc (M y0) v5w16 = none := by rw [← hF.at hy0 (by decide), RFc_of hM72]; have h9 := Eq.symm ho_75; rw [nI_cl (by omega)] at h9; exact h9
          have hli := hlr.1 hs9
          refine lv_astoreN (lv' := [(6, .null), (5, .int (nI v5w16)), (3, .long v3w16), (0, .ref oa), (1, .long k1)]) hx hb dX7_shareLoss_27 hl (by decide) rfl (fun ls hl => ?_)
          refine lv_aload_n hx hb dX7_shareLoss_29 rfl (lv_at hl 3 rfl) ?_
          refine pg_get (D := D) (ci := 7) (v := .ref y4) (C := RX7) (T := TX7) (N := 6) hx hb hg inG7 hown hK hP ia.1 hM_25 rfl 4 (by decide) (hg _ wd_165) (fun _ h9 => h9) rfl dX7_shareLoss_30 ?_
          refine lv_iload hx hb dX7_shareLoss_33 (lv_at hl 1 rfl) ?_
          refine lv_aload_n hx hb dX7_shareLoss_35 rfl (lv_at hl 3 rfl) ?_
          refine pg_get (D := D) (ci := 7) (v := .ref y2) (C := RX7) (T := TX7) (N := 6) hx hb hg inG7 hown hK hP ia.1 hM_25 rfl 2 (by decide) (hg _ wd_142) (fun _ h9 => h9) rfl dX7_shareLoss_36 ?_
          refine lv_iload hx hb dX7_shareLoss_39 (lv_at hl 1 rfl) ?_
          refine pg_lald hx hb hK hP hy2.1 1 hM_26 rfl (inbN v5w16 100 (by omega) (by omega)) dX7_shareLoss_41 ?_
          refine lv_topl (fun f_78 ef_78 => ?_)
          have hfp : (f_78 : Int64).toInt = (cutQ k1.toInt (wI (LFc (M y1))) y5 v5w16) := by rw [ef_78, nI_cl (by omega)]; exact hx_19 v5w16 (by omega)
          refine pg_last hx hb hK hP hD hS hy4.1 1 hM_27 rfl (inbN v5w16 100 (by omega) (by omega)) dX7_shareLoss_42 (fun H_79 locs hP hD hS => ?_)
          obtain ⟨M_80, eM_80⟩ : ∃ M1 : Hp, M1 = va_up M_23 y4 (.inl (cy 15, 100, .inr (.inl (vp_updL gKw16 ((nI v5w16) : Int32).toNatClampNeg f_78)))) := ⟨_, rfl⟩
          have hP : va_P D vwCl ([] ++ va_pl L M_80) H_79 := by rw [eM_80]; exact hP
          have hD : va_D A ([] ++ va_pl L M_80) := by rw [eM_80]; exact hD
          have hW : WOK cy K L M_80 := by rw [eM_80]; exact hW.up_71 hy4 ⟨_, rfl⟩
          have hF : fr K L [68, 69, 70, 71] M M_80 := by rw [eM_80]; exact hF.up hy4 (by decide)
          have hM_81 : M_80 y4 = .inl (cy 15, 100, .inr (.inl (vp_updL gKw16 ((nI v5w16) : Int32).toNatClampNeg f_78))) := by rw [eM_80]; exact va_up_self _ _ _
          have hM_82 : M_80 oa = .inr (7, [.ref y0, .ref y1, .ref y2, .ref y3, .ref y4, .int (nI y5)]) := by rw [eM_80, va_up_ne _ _ (ia.neT hy4 (by decide))]; exact hM_25
          have hM_83 : M_80 y2 = .inl (cy 15, 100, .inr (.inl (gPw16))) := by rw [eM_80, va_up_ne _ _ (hy2.neT hy4 (by decide))]; exact hM_26
          have hM_84 : M_80 y1 = .inl (cy 15, 100, .inr (.inl (gWw16))) := by rw [eM_80, va_up_ne _ _ (hy1.neT hy4 (by decide))]; exact hM_28
          have hM_85 : M_80 y0 = .inl (cy 22, 100, .inr (.inr (.inr (.inr (f72))))) := by rw [eM_80, va_up_ne _ _ (hy0.neT hy4 (by decide))]; exact hM72
          obtain ⟨f_86, ef_86⟩ : ∃ f : Nat → Int64, f = vp_updL gKw16 ((nI v5w16) : Int32).toNatClampNeg f_78 := ⟨_, rfl⟩
          rw [← ef_86] at hM_81
          refine lv_aloadN hx hb dX7_shareLoss_43 (lv_at hl 0 rfl) ?_
          refine lv_ifnullN (tgt := 107) hx hb dX7_shareLoss_45 (by decide) ?_
          have hkq : (kpt k1.toInt (wI (LFc (M y1))) lim room y5 v5w16) = (cutQ k1.toInt (wI (LFc (M y1))) y5 v5w16) := by unfold kpt; rw [if_neg hli]
          have hkp : (f_78 : Int64).toInt = (kpt k1.toInt (wI (LFc (M y1))) lim room y5 v5w16) := by rw [hkq]; exact hfp
          refine lv_iinc (v := (nI (v5w16 + 1))) (lv' := [(5, .int (nI (v5w16 + 1))), (6, .null), (3, .long v3w16), (0, .ref oa), (1, .long k1)]) hx hb dX7_shareLoss_107 hl (k := 1) rfl (nI_1 v5w16) (by decide) rfl (fun ls hl => ?_)
          refine lv_goto (tgt := 11) hx hb dX7_shareLoss_110 (by decide) ?_
          exact ih_14 v3w16 (v5w16 + 1) gPw16 f_86 gWw16 M_80 H_79 _ _ (by omega) hM_82 hM_83 hM_81 hM_84 (by omega) (by omega) hx_19 (by rw [ef_86, nI_cl (by omega)]; intro j hj; by_cases z9 : j = v5w16; rw [z9, vp_updL_self]; exact hkp; rw [vp_updL_ne _ _ z9]; exact hx_20 j (by omega)) (fun j hj => by rw [hx_21 j hj]; by_cases z8 : j < v5w16; rw [if_pos z8, if_pos (by omega)]; by_cases z9 : j = v5w16; rw [if_neg z8, if_pos (by omega), z9]; unfold wAl; rw [if_neg hli]; rw [if_neg z8, if_neg (by omega)]) (by rw [hx_22]; show _ = offQ k1.toInt (wI (LFc (M y1))) lim room y5 v5w16 + ((cutQ k1.toInt (wI (LFc (M y1))) y5 v5w16) - (kpt k1.toInt (wI (LFc (M y1))) lim room y5 v5w16)); rw [hkq]; omega) hW hF hP hD hS (lv_sub hl [0, 2, 3, 4] rfl)
        · have hb_77 := hq_76 bq_74 rfl
          have hlr := hLR v5w16 (by omega)
          have hs9 : RFc (M y0) v5w16 = some bq_74 := by rw [← hF.at hy0 (by decide), RFc_of hM72]; have h9 := (Eq.symm ho_75); rw [nI_cl (by omega)] at h9; exact h9
          obtain ⟨hlk, hbo, hrr⟩ := hlr.2 bq_74 hs9
          refine lv_astore (lv' := [(6, .ref bq_74), (5, .int (nI v5w16)), (3, .long v3w16), (0, .ref oa), (1, .long k1)]) hx hb dX7_shareLoss_27 hl (by decide) rfl (fun ls hl => ?_)
          refine lv_aload_n hx hb dX7_shareLoss_29 rfl (lv_at hl 3 rfl) ?_
          refine pg_get (D := D) (ci := 7) (v := .ref y4) (C := RX7) (T := TX7) (N := 6) hx hb hg inG7 hown hK hP ia.1 hM_25 rfl 4 (by decide) (hg _ wd_165) (fun _ h9 => h9) rfl dX7_shareLoss_30 ?_
          refine lv_iload hx hb dX7_shareLoss_33 (lv_at hl 1 rfl) ?_
          refine lv_aload_n hx hb dX7_shareLoss_35 rfl (lv_at hl 3 rfl) ?_
          refine pg_get (D := D) (ci := 7) (v := .ref y2) (C := RX7) (T := TX7) (N := 6) hx hb hg inG7 hown hK hP ia.1 hM_25 rfl 2 (by decide) (hg _ wd_142) (fun _ h9 => h9) rfl dX7_shareLoss_36 ?_
          refine lv_iload hx hb dX7_shareLoss_39 (lv_at hl 1 rfl) ?_
          refine pg_lald hx hb hK hP hy2.1 1 hM_26 rfl (inbN v5w16 100 (by omega) (by omega)) dX7_shareLoss_41 ?_
          refine lv_topl (fun f_87 ef_87 => ?_)
          have hfp : (f_87 : Int64).toInt = (cutQ k1.toInt (wI (LFc (M y1))) y5 v5w16) := by rw [ef_87, nI_cl (by omega)]; exact hx_19 v5w16 (by omega)
          refine pg_last hx hb hK hP hD hS hy4.1 1 hM_27 rfl (inbN v5w16 100 (by omega) (by omega)) dX7_shareLoss_42 (fun H_88 locs hP hD hS => ?_)
          obtain ⟨M_89, eM_89⟩ : ∃ M1 : Hp, M1 = va_up M_23 y4 (.inl (cy 15, 100, .inr (.inl (vp_updL gKw16 ((nI v5w16) : Int32).toNatClampNeg f_87)))) := ⟨_, rfl⟩
          have hP : va_P D vwCl ([] ++ va_pl L M_89) H_88 := by rw [eM_89]; exact hP
          have hD : va_D A ([] ++ va_pl L M_89) := by rw [eM_89]; exact hD
          have hW : WOK cy K L M_89 := by rw [eM_89]; exact hW.up_71 hy4 ⟨_, rfl⟩
          have hF : fr K L [68, 69, 70, 71] M M_89 := by rw [eM_89]; exact hF.up hy4 (by decide)
          have hM_90 : M_89 y4 = .inl (cy 15, 100, .inr (.inl (vp_updL gKw16 ((nI v5w16) : Int32).toNatClampNeg f_87))) := by rw [eM_89]; exact va_up_self _ _ _
          have hM_91 : M_89 oa = .inr (7, [.ref y0, .ref y1, .ref y2, .ref y3, .ref y4, .int (nI y5)]) := by rw [eM_89, va_up_ne _ _ (ia.neT hy4 (by decide))]; exact hM_25
          have hM_92 : M_89 y2 = .inl (cy 15, 100, .inr (.inl (gPw16))) := by rw [eM_89, va_up_ne _ _ (hy2.neT hy4 (by decide))]; exact hM_26
          have hM_93 : M_89 y1 = .inl (cy 15, 100, .inr (.inl (gWw16))) := by rw [eM_89, va_up_ne _ _ (hy1.neT hy4 (by decide))]; exact hM_28
          have hM_94 : M_89 y0 = .inl (cy 22, 100, .inr (.inr (.inr (.inr (f72))))) := by rw [eM_89, va_up_ne _ _ (hy0.neT hy4 (by decide))]; exact hM72
          obtain ⟨f_95, ef_95⟩ : ∃ f : Nat → Int64, f = vp_updL gKw16 ((nI v5w16) : Int32).toNatClampNeg f_87 := ⟨_, rfl⟩
          rw [← ef_95] at hM_90
          refine lv_aload hx hb dX7_shareLoss_43 (lv_at hl 0 rfl) ?_
          refine lv_ifnull hx hb dX7_shareLoss_45 ?_
          refine lv_aload hx hb dX7_shareLoss_48 (lv_at hl 0 rfl) ?_
          obtain ⟨v96_0, v96_1, v96_2, v96_3, v96_4, v96_5, v96_6, v96_7, v96_8, v96_9, v96_10, v96_11, v96_12, v96_13, v96_14, v96_15, hM96, h96_0, h96_1, h96_4, h96_8⟩ := hW.open_9 hb_77
          refine pg_get (D := D) (ci := 9) (v := .ref v96_1) (C := RX9) (T := TX9) (N := 16) hx hb hg inG9 hown hK hP hb_77.1 hM96 rfl 1 (by decide) (hg _ wd_166) (fun _ h9 => h9) rfl dX7_shareLoss_50 ?_
          obtain ⟨v97_0, v97_1, v97_2, v97_3, hM97, h97_3⟩ := hW.open_4 h96_1
          have hPc : va_P D vwCl ([] ++ va_pl L M_89) H_88 := hP
          have hDc : va_D A ([] ++ va_pl L M_89) := hD
          have hFc : ∀ q, va_A ([] ++ va_pl L M_89) H_88.size q → A q := pg_free hDc hS hA
          refine va_calli (va_runV (As := []) (rest := []) ⟨hx, hb, hml, hown, hg⟩ (e_isLim l D cy K L M_89 H_88.size v96_1  hW h96_1) (cwV 0 hg (gV wd_167 wd_168 wd_169 wd_30 wd_170) rfl rfl rfl (by decide +kernel) ⟨(Nat.le_trans (Nat.le_of_ble_eq_true rfl) hRf), (Nat.le_trans (Nat.le_of_ble_eq_true rfl) hRl)⟩) ⟨PG.blind, pg_recv hK hP h96_1.1 hM97 rfl, fun U hU hW => ⟨rfl, PG.at hPc hK hDc hN hU hW⟩⟩ rfl rfl hl.1 rfl (lv_room (Nat.le_of_ble_eq_true rfl)) dX7_shareLoss_53 ⟨(Nat.le_trans (Nat.le_of_ble_eq_true rfl) hRc), (Nat.le_trans (Nat.le_of_ble_eq_true rfl) hRs)⟩) hS (fun q _ h => hFc q h) hFc (fun r_99 M_100 t H_98 locs ht hvm hw hB hz1 hk1 hS => ?_)
          have hp_101 := hw
          obtain ⟨hP1, hD1⟩ := hB
          rw [ht] at hP1
          have hP : va_P D vwCl ([] ++ va_pl L M_89) H_98 := hP1
          have hD : va_D A ([] ++ va_pl L M_89) := hD1.mono hFc
          rcases hp_101 with ⟨rfl, c_102⟩ | ⟨rfl, c_103⟩
          · have hz := rfl (a := 0)
            have hpe : cV 4 M (rA 9 M bq_74 1) 1 = cV 4 M_89 v96_1 1 := by rw [rA_of (j := 1) ((hF.at hb_77 (by decide)).symm.trans hM96) rfl]; exact (cV_eq (hF.at h96_1 (by decide))).symm
            have hli : lim v5w16 := hlk.mpr (by rw [hpe]; exact c_102)
            refine lv_if_eq (tgt := 107) hx hb dX7_shareLoss_56 (by decide) (fun c_104 => absurd c_104 (by decide)) (fun _ => ?_)
            refine lv_aload_n hx hb dX7_shareLoss_59 rfl (lv_at hl 3 rfl) ?_
            refine pg_get (D := D) (ci := 7) (v := .ref y4) (C := RX7) (T := TX7) (N := 6) hx hb hg inG7 hown hK hP ia.1 hM_91 rfl 4 (by decide) (hg _ wd_165) (fun _ h9 => h9) rfl dX7_shareLoss_60 ?_
            refine lv_iload hx hb dX7_shareLoss_63 (lv_at hl 1 rfl) ?_
            refine lv_aload_n hx hb dX7_shareLoss_65 rfl (lv_at hl 3 rfl) ?_
            refine pg_get (D := D) (ci := 7) (v := .ref y2) (C := RX7) (T := TX7) (N := 6) hx hb hg inG7 hown hK hP ia.1 hM_91 rfl 2 (by decide) (hg _ wd_142) (fun _ h9 => h9) rfl dX7_shareLoss_66 ?_
            refine lv_iload hx hb dX7_shareLoss_69 (lv_at hl 1 rfl) ?_
            refine pg_lald hx hb hK hP hy2.1 1 hM_92 rfl (inbN v5w16 100 (by omega) (by omega)) dX7_shareLoss_71 ?_
            refine lv_topl (fun f_105 ef_105 => ?_)
            have hfx : (f_105 : Int64).toInt = (cutQ k1.toInt (wI (LFc (M y1))) y5 v5w16) := by rw [ef_105, nI_cl (by omega)]; exact hx_19 v5w16 (by omega)
            refine lv_aload hx hb dX7_shareLoss_72 (lv_at hl 0 rfl) ?_
            have hPc : va_P D vwCl ([] ++ va_pl L M_89) H_98 := hP
            have hDc : va_D A ([] ++ va_pl L M_89) := hD
            have hFc : ∀ q, va_A ([] ++ va_pl L M_89) H_98.size q → A q := pg_free hDc hS hA
            refine va_calll (va_runV (As := []) (rest := [.long f_105, .int (nI v5w16), .ref y4]) ⟨hx, hb, hml, hown, hg⟩ (e_room l D cy K L M_89 H_98.size bq_74  hW hb_77 (by rw [cL_e (hF.at hb_77 (by decide))]; exact hbo)) (cwV 0 hg (gV wd_171 wd_172 wd_173 wd_52 wd_174) rfl rfl rfl (by decide +kernel) ⟨(Nat.le_trans (Nat.le_of_ble_eq_true rfl) hRf), (Nat.le_trans (Nat.le_of_ble_eq_true rfl) hRl)⟩) ⟨PG.blind, pg_recv hK hP hb_77.1 hM96 rfl, fun U hU hW => ⟨rfl, PG.at hPc hK hDc hN hU hW⟩⟩ rfl rfl hl.1 rfl (lv_room (Nat.le_of_ble_eq_true rfl)) dX7_shareLoss_74 ⟨(Nat.le_trans (Nat.le_of_ble_eq_true rfl) hRc), (Nat.le_trans (Nat.le_of_ble_eq_true rfl) hRs)⟩) hS (fun q _ h => hFc q h) hFc (fun r_107 M_108 t H_106 locs ht hvm hw hB hz1 hk1 hS => ?_)
            have hp_109 := hw
            obtain ⟨hP1, hD1⟩ := hB
            rw [ht] at hP1
            have hP : va_P D vwCl ([] ++ va_pl L M_89) H_106 := hP1
            have hD : va_D A ([] ++ va_pl L M_89) := hD1.mono hFc
            obtain ⟨vr_110, hr_112, c_111⟩ := hp_109
            have hq := Eq.symm hr_112
            subst hq
            have hrv : (vr_110 : Int64).toInt = room v5w16 := by rw [hrr hli, c_111, cL_e (hF.at hb_77 (by decide)), rA_of (j := 1) ((hF.at hb_77 (by decide)).symm.trans hM96) rfl, rA_of (j := 1) hM96 rfl, cV_eq (hF.at h96_1 (by decide))]
            refine va_mmin_long hx hb (by rw [hml]; exact hl.1.symm) hown (hg _ wd_175) (hg _ wd_176) (hg _ wd_12) (hg _ wd_177) (Nat.le_trans (Nat.le_of_ble_eq_true rfl) hRf) (Nat.le_trans (Nat.le_of_ble_eq_true rfl) hRl) (Nat.le_trans (Nat.le_of_ble_eq_true rfl) hRc) (Nat.le_trans (Nat.le_of_ble_eq_true rfl) hRs) dX7_shareLoss_77 ?_
            refine lv_topl (fun f_113 ef_113 => ?_)
            have hmn := lmin ef_113
            have hkp : (f_113 : Int64).toInt = (kpt k1.toInt (wI (LFc (M y1))) lim room y5 v5w16) := by rw [hmn, hrv, hfx]; unfold kpt; rw [if_pos hli]; by_cases z9 : room v5w16 < (cutQ k1.toInt (wI (LFc (M y1))) y5 v5w16); rw [if_pos z9, if_neg (by omega)]; rw [if_neg z9]; by_cases z8 : (cutQ k1.toInt (wI (LFc (M y1))) y5 v5w16) < room v5w16; rw [if_pos z8]; rw [if_neg z8]; omega
            refine pg_last hx hb hK hP hD hS hy4.1 1 hM_90 rfl (inbN v5w16 100 (by omega) (by omega)) dX7_shareLoss_80 (fun H_114 locs hP hD hS => ?_)
            obtain ⟨M_115, eM_115⟩ : ∃ M1 : Hp, M1 = va_up M_89 y4 (.inl (cy 15, 100, .inr (.inl (vp_updL f_95 ((nI v5w16) : Int32).toNatClampNeg f_113)))) := ⟨_, rfl⟩
            have hP : va_P D vwCl ([] ++ va_pl L M_115) H_114 := by rw [eM_115]; exact hP
            have hD : va_D A ([] ++ va_pl L M_115) := by rw [eM_115]; exact hD
            have hW : WOK cy K L M_115 := by rw [eM_115]; exact hW.up_71 hy4 ⟨_, rfl⟩
            have hF : fr K L [68, 69, 70, 71] M M_115 := by rw [eM_115]; exact hF.up hy4 (by decide)
            have hM_116 : M_115 y4 = .inl (cy 15, 100, .inr (.inl (vp_updL f_95 ((nI v5w16) : Int32).toNatClampNeg f_113))) := by rw [eM_115]; exact va_up_self _ _ _
            have hM_117 : M_115 oa = .inr (7, [.ref y0, .ref y1, .ref y2, .ref y3, .ref y4, .int (nI y5)]) := by rw [eM_115, va_up_ne _ _ (ia.neT hy4 (by decide))]; exact hM_91
            have hM_118 : M_115 y2 = .inl (cy 15, 100, .inr (.inl (gPw16))) := by rw [eM_115, va_up_ne _ _ (hy2.neT hy4 (by decide))]; exact hM_92
            have hM_119 : M_115 y1 = .inl (cy 15, 100, .inr (.inl (gWw16))) := by rw [eM_115, va_up_ne _ _ (hy1.neT hy4 (by decide))]; exact hM_93
            have hM_120 : M_115 y0 = .inl (cy 22, 100, .inr (.inr (.inr (.inr (f72))))) := by rw [eM_115, va_up_ne _ _ (hy0.neT hy4 (by decide))]; exact hM_94
            have hM_121 : M_115 bq_74 = .inr (9, [.int (nI v96_0), .ref v96_1, .int v96_2, .int v96_3, .int v96_4, .int v96_5, .int v96_6, .int v96_7, va_rf v96_8, .long v96_9, .long v96_10, .long v96_11, .long v96_12, .long v96_13, .long v96_14, .long v96_15]) := by rw [eM_115, va_up_ne _ _ (hb_77.neT hy4 (by decide))]; exact hM96
            have hM_122 : M_115 v96_1 = .inr (4, [.int v97_0, .int v97_1, .int v97_2, va_rf v97_3]) := by rw [eM_115, va_up_ne _ _ (h96_1.neT hy4 (by decide))]; exact hM97
            obtain ⟨f_123, ef_123⟩ : ∃ f : Nat → Int64, f = vp_updL f_95 ((nI v5w16) : Int32).toNatClampNeg f_113 := ⟨_, rfl⟩
            rw [← ef_123] at hM_116
            refine lv_lload_n hx hb dX7_shareLoss_81 rfl (lv_at hl 2 rfl) ?_
            refine lv_aload_n hx hb dX7_shareLoss_82 rfl (lv_at hl 3 rfl) ?_
            refine pg_get (D := D) (ci := 7) (v := .ref y2) (C := RX7) (T := TX7) (N := 6) hx hb hg inG7 hown hK hP ia.1 hM_117 rfl 2 (by decide) (hg _ wd_142) (fun _ h9 => h9) rfl dX7_shareLoss_83 ?_
            refine lv_iload hx hb dX7_shareLoss_86 (lv_at hl 1 rfl) ?_
            refine pg_lald hx hb hK hP hy2.1 1 hM_118 rfl (inbN v5w16 100 (by omega) (by omega)) dX7_shareLoss_88 ?_
            refine lv_topl (fun f_124 ef_124 => ?_)
            have hfg : (f_124 : Int64).toInt = (cutQ k1.toInt (wI (LFc (M y1))) y5 v5w16) := by rw [ef_124, nI_cl (by omega)]; exact hx_19 v5w16 (by omega)
            refine lv_aload_n hx hb dX7_shareLoss_89 rfl (lv_at hl 3 rfl) ?_
            refine pg_get (D := D) (ci := 7) (v := .ref y4) (C := RX7) (T := TX7) (N := 6) hx hb hg inG7 hown hK hP ia.1 hM_117 rfl 4 (by decide) (hg _ wd_165) (fun _ h9 => h9) rfl dX7_shareLoss_90 ?_
            refine lv_iload hx hb dX7_shareLoss_93 (lv_at hl 1 rfl) ?_
            refine pg_lald hx hb hK hP hy4.1 1 hM_116 rfl (inbN v5w16 100 (by omega) (by omega)) dX7_shareLoss_95 ?_
            refine lv_topl (fun f_125 ef_125 => ?_)
            have hfh : (f_125 : Int64).toInt = (kpt k1.toInt (wI (LFc (M y1))) lim room y5 v5w16) := by rw [ef_125, nI_cl (by omega), ef_123, nI_cl (by omega), vp_updL_self]; exact hkp
            refine lv_lsub hx hb dX7_shareLoss_96 ?_
            refine lv_topl (fun f_126 ef_126 => ?_)
            have hcb := cutQ_b (s := k1.toInt) hkB.1 hw0 (show v5w16 < y5 by omega)
            have hkb := kpt_b (room := room) hkB.1 hw0 (hrm v5w16 (by omega)) (show v5w16 < y5 by omega)
            have hsv := lS ef_126 (by rw [hfg, hfh]; omega) (by rw [hfg, hfh]; omega)
            rw [hfg, hfh] at hsv
            refine lv_ladd hx hb dX7_shareLoss_97 ?_
            refine lv_topl (fun f_127 ef_127 => ?_)
            have ho9 := hof v5w16 (by omega)
            have hov9 := lA ef_127 (by rw [hsv, hx_22]; omega) (by rw [hsv, hx_22]; omega)
            rw [hsv, hx_22] at hov9
            refine lv_lstore_n (lv' := [(3, .long f_127), (6, .ref bq_74), (5, .int (nI v5w16)), (0, .ref oa), (1, .long k1)]) hx hb dX7_shareLoss_98 rfl hl (by decide) rfl (fun ls hl => ?_)
            refine lv_aload_n hx hb dX7_shareLoss_99 rfl (lv_at hl 3 rfl) ?_
            refine pg_get (D := D) (ci := 7) (v := .ref y1) (C := RX7) (T := TX7) (N := 6) hx hb hg inG7 hown hK hP ia.1 hM_117 rfl 1 (by decide) (hg _ wd_141) (fun _ h9 => h9) rfl dX7_shareLoss_100 ?_
            refine lv_iload hx hb dX7_shareLoss_103 (lv_at hl 2 rfl) ?_
            refine lv_lconst (v := 0) hx hb dX7_shareLoss_105 (by decide) ?_
            refine pg_last hx hb hK hP hD hS hy1.1 1 hM_119 rfl (inbN v5w16 100 (by omega) (by omega)) dX7_shareLoss_106 (fun H_128 locs hP hD hS => ?_)
            obtain ⟨M_129, eM_129⟩ : ∃ M1 : Hp, M1 = va_up M_115 y1 (.inl (cy 15, 100, .inr (.inl (vp_updL gWw16 ((nI v5w16) : Int32).toNatClampNeg 0)))) := ⟨_, rfl⟩
            have hP : va_P D vwCl ([] ++ va_pl L M_129) H_128 := by rw [eM_129]; exact hP
            have hD : va_D A ([] ++ va_pl L M_129) := by rw [eM_129]; exact hD
            have hW : WOK cy K L M_129 := by rw [eM_129]; exact hW.up_68 hy1 ⟨_, rfl⟩
            have hF : fr K L [68, 69, 70, 71] M M_129 := by rw [eM_129]; exact hF.up hy1 (by decide)
            have hM_130 : M_129 y1 = .inl (cy 15, 100, .inr (.inl (vp_updL gWw16 ((nI v5w16) : Int32).toNatClampNeg 0))) := by rw [eM_129]; exact va_up_self _ _ _
            have hM_131 : M_129 y4 = .inl (cy 15, 100, .inr (.inl (f_123))) := by rw [eM_129, va_up_ne _ _ (hy4.neT hy1 (by decide))]; exact hM_116
            have hM_132 : M_129 oa = .inr (7, [.ref y0, .ref y1, .ref y2, .ref y3, .ref y4, .int (nI y5)]) := by rw [eM_129, va_up_ne _ _ (ia.neT hy1 (by decide))]; exact hM_117
            have hM_133 : M_129 y2 = .inl (cy 15, 100, .inr (.inl (gPw16))) := by rw [eM_129, va_up_ne _ _ (hy2.neT hy1 (by decide))]; exact hM_118
            have hM_134 : M_129 y0 = .inl (cy 22, 100, .inr (.inr (.inr (.inr (f72))))) := by rw [eM_129, va_up_ne _ _ (hy0.neT hy1 (by decide))]; exact hM_120
            have hM_135 : M_129 bq_74 = .inr (9, [.int (nI v96_0), .ref v96_1, .int v96_2, .int v96_3, .int v96_4, .int v96_5, .int v96_6, .int v96_7, va_rf v96_8, .long v96_9, .long v96_10, .long v96_11, .long v96_12, .long v96_13, .long v96_14, .long v96_15]) := by rw [eM_129, va_up_ne _ _ (hb_77.neT hy1 (by decide))]; exact hM_121
            have hM_136 : M_129 v96_1 = .inr (4, [.int v97_0, .int v97_1, .int v97_2, va_rf v97_3]) := by rw [eM_129, va_up_ne _ _ (h96_1.neT hy1 (by decide))]; exact hM_122
            obtain ⟨f_137, ef_137⟩ : ∃ f : Nat → Int64, f = vp_updL gWw16 ((nI v5w16) : Int32).toNatClampNeg 0 := ⟨_, rfl⟩
            rw [← ef_137] at hM_130
            refine lv_iinc (v := (nI (v5w16 + 1))) (lv' := [(5, .int (nI (v5w16 + 1))), (3, .long f_127), (6, .ref bq_74), (0, .ref oa), (1, .long k1)]) hx hb dX7_shareLoss_107 hl (k := 2) rfl (nI_1 v5w16) (by decide) rfl (fun ls hl => ?_)
            refine lv_goto (tgt := 11) hx hb dX7_shareLoss_110 (by decide) ?_
            exact ih_14 f_127 (v5w16 + 1) gPw16 f_123 f_137 M_129 H_128 _ _ (by omega) hM_132 hM_133 hM_131 hM_130 (by omega) (by omega) hx_19 (by rw [ef_123, nI_cl (by omega)]; intro j hj; by_cases z9 : j = v5w16; rw [z9, vp_updL_self]; exact hkp; rw [vp_updL_ne _ _ z9, ef_95, nI_cl (by omega), vp_updL_ne _ _ z9]; exact hx_20 j (by omega)) (by rw [ef_137, nI_cl (by omega)]; intro j hj; by_cases z9 : j = v5w16; rw [z9, vp_updL_self, if_pos (by omega)]; unfold wAl; rw [if_pos hli]; (first | done | rfl); rw [vp_updL_ne _ _ z9, hx_21 j hj]; by_cases z8 : j < v5w16; rw [if_pos z8, if_pos (by omega)]; rw [if_neg z8, if_neg (by omega)]) (by rw [hov9]; show _ = offQ k1.toInt (wI (LFc (M y1))) lim room y5 v5w16 + ((cutQ k1.toInt (wI (LFc (M y1))) y5 v5w16) - (kpt k1.toInt (wI (LFc (M y1))) lim room y5 v5w16)); omega) hW hF hP hD hS (lv_sub hl [0, 1, 3, 4] rfl)
          · have hz := rfl (a := 0)
            have hpe : cV 4 M (rA 9 M bq_74 1) 1 = cV 4 M_89 v96_1 1 := by rw [rA_of (j := 1) ((hF.at hb_77 (by decide)).symm.trans hM96) rfl]; exact (cV_eq (hF.at h96_1 (by decide))).symm
            have hli : ¬ lim v5w16 := fun q9 => c_103 (by rw [← hpe]; exact hlk.mp q9)
            refine lv_if_eq (tgt := 107) hx hb dX7_shareLoss_56 (by decide) (fun _ => ?_) (fun c_138 => absurd c_138 (by decide))
            have hkq : (kpt k1.toInt (wI (LFc (M y1))) lim room y5 v5w16) = (cutQ k1.toInt (wI (LFc (M y1))) y5 v5w16) := by unfold kpt; rw [if_neg hli]
            have hkp : (f_87 : Int64).toInt = (kpt k1.toInt (wI (LFc (M y1))) lim room y5 v5w16) := by rw [hkq]; exact hfp
            refine lv_iinc (v := (nI (v5w16 + 1))) (lv' := [(5, .int (nI (v5w16 + 1))), (6, .ref bq_74), (3, .long v3w16), (0, .ref oa), (1, .long k1)]) hx hb dX7_shareLoss_107 hl (k := 1) rfl (nI_1 v5w16) (by decide) rfl (fun ls hl => ?_)
            refine lv_goto (tgt := 11) hx hb dX7_shareLoss_110 (by decide) ?_
            exact ih_14 v3w16 (v5w16 + 1) gPw16 f_95 gWw16 M_89 H_98 _ _ (by omega) hM_91 hM_92 hM_90 hM_93 (by omega) (by omega) hx_19 (by rw [ef_95, nI_cl (by omega)]; intro j hj; by_cases z9 : j = v5w16; rw [z9, vp_updL_self]; exact hkp; rw [vp_updL_ne _ _ z9]; exact hx_20 j (by omega)) (fun j hj => by rw [hx_21 j hj]; by_cases z8 : j < v5w16; rw [if_pos z8, if_pos (by omega)]; by_cases z9 : j = v5w16; rw [if_neg z8, if_pos (by omega), z9]; unfold wAl; rw [if_neg hli]; rw [if_neg z8, if_neg (by omega)]) (by rw [hx_22]; show _ = offQ k1.toInt (wI (LFc (M y1))) lim room y5 v5w16 + ((cutQ k1.toInt (wI (LFc (M y1))) y5 v5w16) - (kpt k1.toInt (wI (LFc (M y1))) lim room y5 v5w16)); rw [hkq]; omega) hW hF hP hD hS (lv_sub hl [0, 2, 3, 4] rfl)
  exact key_13 (100 - 0 + 1) 0 0 f11 f12 f1 M_4 H_2 _ _ (by omega) hM_6 hM11 hM12 hM_7 (by omega) (by omega) (fun j hj => by rw [← LFc_of hM11]; exact hcq j hj) (fun j h => absurd h (Nat.not_lt_zero _)) (fun j hj => by rw [if_neg (Nat.not_lt_zero j)]; exact hW1 j) rfl hW hF hP hD hS (lv_sub hl [0, 1, 2, 3] rfl)
