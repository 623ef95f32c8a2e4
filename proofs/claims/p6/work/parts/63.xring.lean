/-- ways from house to house: of d steps; of any -/
def RC (ow : Nat → Nat → Prop) (N t : Nat) : Nat → Nat → Prop
  | 0, a => a = t
  | d + 1, a => a < N ∧ ∃ b, b < N ∧ ow a b ∧ RC ow N t d b
def RCH (ow : Nat → Nat → Prop) (N t a : Nat) : Prop := ∃ d, RC ow N t d a
/-- what measure() knows: D: how many houses there are from each one to the goal t; steps below s are done, of step s the houses below n -/
def CI (ow : Nat → Nat → Prop) (N t : Nat) (D : Nat → Nat) (s n : Nat) : Prop := (∀ k, k < 8 → D k ≤ s + 1) ∧ D t = 1 ∧ (∀ k, k < 8 → D k = 1 → k = t) ∧ (∀ k, k < 8 → 2 ≤ D k → k < N ∧ ∃ b, b < N ∧ ow k b ∧ D b + 1 = D k) ∧ ∀ b, b < N → 1 ≤ D b → (D b < s ∨ (D b = s ∧ b < n)) → ∀ a, a < N → ow a b → 1 ≤ D a ∧ D a ≤ D b + 1
theorem CI.fst (ow : Nat → Nat → Prop) (N t : Nat) : CI ow N t (va_up (fun _ => 0) t 1) 1 0 := by
  have hn : ∀ k, k ≠ t → va_up (fun _ => 0) t 1 k = 0 := fun k q => va_up_ne _ _ q
  have hs : va_up (fun _ => 0) t 1 t = 1 := va_up_self _ _ _
  refine ⟨fun k _ => ?_, hs, fun k _ q => ?_, fun k _ q => ?_, fun b _ h1 hc => ?_⟩
  · by_cases z : k = t
    · rw [z, hs]
      omega
    · rw [hn k z]
      omega
  · by_cases z : k = t
    · exact z
    · rw [hn k z] at q
      omega
  · by_cases z : k = t
    · rw [z, hs] at q
      omega
    · rw [hn k z] at q
      omega
  · by_cases z : b = t
    · rw [z, hs] at hc
      omega
    · rw [hn b z] at h1
      omega
theorem CI.no {ow : Nat → Nat → Prop} {N t s n : Nat} {D : Nat → Nat} (h : CI ow N t D s n) (hn : D n ≠ s) : CI ow N t D s (n + 1) := by
  refine ⟨h.1, h.2.1, h.2.2.1, h.2.2.2.1, fun b hb h1 hc a ha ho => h.2.2.2.2 b hb h1 ?_ a ha ho⟩
  rcases hc with q | q
  · exact Or.inl q
  · have : b ≠ n := fun z => hn (by rw [← z]; exact q.1)
    exact Or.inr ⟨q.1, by omega⟩
theorem CI.nxt {ow : Nat → Nat → Prop} {N t s n : Nat} {D : Nat → Nat} (h : CI ow N t D s n) (hn : N ≤ n) : CI ow N t D (s + 1) 0 := by
  refine ⟨fun k hk => Nat.le_trans (h.1 k hk) (by omega), h.2.1, h.2.2.1, h.2.2.2.1, fun b hb h1 hc a ha ho => h.2.2.2.2 b hb h1 ?_ a ha ho⟩
  rcases hc with q | q
  · rcases Nat.lt_or_ge (D b) s with w | w
    · exact Or.inl w
    · exact Or.inr ⟨by omega, by omega⟩
  · omega
theorem CI.mk {ow : Nat → Nat → Prop} {N t s n : Nat} {D D' : Nat → Nat} (h : CI ow N t D s n) (hN : N ≤ 8) (hn : n < N) (ht : t < 8) (hs : 1 ≤ s) (e : D n = s) (h' : ∀ o, o < 8 → ((o < N ∧ D o = 0 ∧ ow o n) ∧ D' o = s + 1) ∨ (¬ (o < N ∧ D o = 0 ∧ ow o n) ∧ D' o = D o)) : CI ow N t D' s (n + 1) := by
  have key : ∀ o, o < 8 → 1 ≤ D o → D' o = D o := fun o ho h1 => by
    rcases h' o ho with ⟨q, _⟩ | ⟨_, g⟩
    · omega
    · exact g
  refine ⟨fun k hk => ?_, ?_, fun k hk q => ?_, fun k hk q => ?_, fun b hb h1 hc a ha ho => ?_⟩
  · rcases h' k hk with ⟨_, g⟩ | ⟨_, g⟩
    · omega
    · rw [g]
      exact h.1 k hk
  · rw [key t ht (by rw [h.2.1]; exact Nat.le_refl _)]
    exact h.2.1
  · rcases h' k hk with ⟨_, g⟩ | ⟨_, g⟩
    · omega
    · rw [g] at q
      exact h.2.2.1 k hk q
  · rcases h' k hk with ⟨w, g⟩ | ⟨_, g⟩
    · exact ⟨w.1, n, hn, w.2.2, by rw [key n (by omega) (by omega), e, g]⟩
    · obtain ⟨g1, b, g2, g3, g4⟩ := h.2.2.2.1 k hk (by omega)
      exact ⟨g1, b, g2, g3, by rw [key b (by omega) (by omega), g]; exact g4⟩
  · have eb : D' b = D b := by
      rcases h' b (by omega) with ⟨_, g⟩ | ⟨_, g⟩
      · omega
      · exact g
    by_cases z : b = n
    · rw [z] at ho eb
      rw [z, eb, e]
      rcases h' a (by omega) with ⟨_, g⟩ | ⟨w, g⟩
      · omega
      · have h0 : D a ≠ 0 := fun q => w ⟨ha, q, ho⟩
        have h2 := h.1 a (by omega)
        omega
    · have g := h.2.2.2.2 b hb (by omega) (by omega) a ha ho
      rw [key a (by omega) g.1, eb]
      exact g
theorem CI.snd {ow : Nat → Nat → Prop} {N t s n : Nat} {D : Nat → Nat} (h : CI ow N t D s n) (hN : N ≤ 8) : ∀ v a, a < 8 → D a = v → 1 ≤ v → RCH ow N t a := by
  intro v
  induction v with
  | zero => intro a _ _ h1; omega
  | succ v ih =>
    intro a ha e _
    by_cases z : v = 0
    · exact ⟨0, h.2.2.1 a ha (by omega)⟩
    · obtain ⟨g1, b, g2, g3, g4⟩ := h.2.2.2.1 a ha (by omega)
      obtain ⟨d, hd⟩ := ih b (by omega) (by omega) (by omega)
      exact ⟨d + 1, g1, b, g2, g3, hd⟩
theorem CI.ctg {ow : Nat → Nat → Prop} {N t s n : Nat} {D : Nat → Nat} (h : CI ow N t D s n) (hN : N ≤ 8) : ∀ u a, a < 8 → D a = u → ∀ v, 1 ≤ v → v ≤ u → ∃ c, c < 8 ∧ D c = v := by
  intro u
  induction u with
  | zero => intro a _ _ v h1 h2; omega
  | succ u ih =>
    intro a ha e v h1 h2
    by_cases z : v = u + 1
    · exact ⟨a, ha, by omega⟩
    · obtain ⟨g1, b, g2, g3, g4⟩ := h.2.2.2.1 a ha (by omega)
      exact ih b (by omega) (by omega) v h1 (by omega)
theorem CI.cpl {ow : Nat → Nat → Prop} {N t n : Nat} {D : Nat → Nat} (h : CI ow N t D 8 n) (hN : N ≤ 8) : ∀ d a, a < 8 → RC ow N t d a → 1 ≤ D a := by
  intro d
  induction d with
  | zero =>
    intro a _ q
    have q : a = t := q
    rw [q, h.2.1]
    exact Nat.le_refl _
  | succ d ih =>
    intro a ha q
    obtain ⟨h1, b, h2, h3, h4⟩ := q
    have hb := ih b (by omega) h4
    by_cases z : D b < 8
    · exact (h.2.2.2.2 b h2 hb (Or.inl z) a h1 h3).1
    · rcases Nat.eq_zero_or_pos (D a) with w | w
      · exfalso
        have hs := sub_len (List.range 9) ((List.range 8).map D) List.nodup_range (fun v hv => by
          have hv9 := List.mem_range.mp hv
          rcases Nat.eq_zero_or_pos v with q | q
          · exact List.mem_map.mpr ⟨a, List.mem_range.mpr ha, by omega⟩
          · obtain ⟨c, hc, e⟩ := h.ctg hN (D b) b (by omega) rfl v q (by omega)
            exact List.mem_map.mpr ⟨c, List.mem_range.mpr hc, e⟩)
        rw [List.length_map, List.length_range, List.length_range] at hs
        omega
      · exact w
/-- a bit of a row of owners -/
def BT (w : Int32) (o : Nat) : Prop := (w.toInt / 2 ^ o) % 2 = 1
theorem BTs : ∀ n : Fin 256, ∀ k : Fin 8, ((nI n.val >>> (nI k.val &&& 31)) &&& 1 = 1 ↔ ((n.val : Int) / 2 ^ k.val) % 2 = 1) := by decide +kernel
theorem BT_of {a : Int32} {k : Nat} (h0 : 0 ≤ a.toInt) (h1 : a.toInt < 256) (hk : k < 8) : ((a >>> (nI k &&& 31)) &&& 1 = 1 ↔ BT a k) := by
  have e : a = nI a.toInt.toNat := i32_of (by omega) (by omega)
  have g := BTs ⟨a.toInt.toNat, by omega⟩ ⟨k, hk⟩
  unfold BT
  have g2 : (nI a.toInt.toNat >>> (nI k &&& 31) &&& 1 = 1 ↔ ((a.toInt.toNat : Int) / 2 ^ k) % 2 = 1) := g
  rw [← e, Int.toNat_of_nonneg h0] at g2
  exact g2
theorem BTo : ∀ n : Fin 256, ∀ k : Fin 8, (0 ≤ (nI n.val ||| ((1 : Int32) <<< (nI k.val &&& 31))).toInt ∧ (nI n.val ||| ((1 : Int32) <<< (nI k.val &&& 31))).toInt < 256) ∧ ∀ o : Fin 8, (((nI n.val ||| ((1 : Int32) <<< (nI k.val &&& 31))).toInt / 2 ^ o.val) % 2 = 1 ↔ (((n.val : Int) / 2 ^ o.val) % 2 = 1 ∨ k = o)) := by decide +kernel
theorem BT_or {a : Int32} {k : Nat} (h0 : 0 ≤ a.toInt) (h1 : a.toInt < 256) (hk : k < 8) : (0 ≤ (a ||| ((1 : Int32) <<< (nI k &&& 31))).toInt ∧ (a ||| ((1 : Int32) <<< (nI k &&& 31))).toInt < 256) ∧ ∀ o, o < 8 → (((a ||| ((1 : Int32) <<< (nI k &&& 31))).toInt / 2 ^ o) % 2 = 1 ↔ ((a.toInt / 2 ^ o) % 2 = 1 ∨ k = o)) := by
  have e : a = nI a.toInt.toNat := i32_of (by omega) (by omega)
  have g := BTo ⟨a.toInt.toNat, by omega⟩ ⟨k, hk⟩
  have g1 : (0 ≤ (nI a.toInt.toNat ||| ((1 : Int32) <<< (nI k &&& 31))).toInt ∧ (nI a.toInt.toNat ||| ((1 : Int32) <<< (nI k &&& 31))).toInt < 256) := g.1
  rw [← e] at g1
  refine ⟨g1, fun o ho => ?_⟩
  have g2 : ((nI a.toInt.toNat ||| ((1 : Int32) <<< (nI k &&& 31))).toInt / 2 ^ o) % 2 = 1 ↔ (((a.toInt.toNat : Int) / 2 ^ o) % 2 = 1 ∨ (⟨k, hk⟩ : Fin 8) = ⟨o, ho⟩) := g.2 ⟨o, ho⟩
  rw [← e, Int.toNat_of_nonneg h0] at g2
  rw [g2]
  exact ⟨fun q => q.imp id (fun z => congrArg Fin.val z), fun q => q.imp id (fun z => Fin.ext z)⟩
/-- the houses of a row, as ow says -/
def OWQ (x0 n : Nat) (ow : Nat → Nat → Prop) (M : Hp) : Prop := ∀ b, b < n → ∃ h, RFc (M x0) b = some h ∧ 0 ≤ (cV 2 M h 15).toInt ∧ (cV 2 M h 15).toInt < 256 ∧ ∀ a, a < 8 → (BT (cV 2 M h 15) a ↔ ow a b)
/-- markOwners: G from F; of houses below n -/
def MKF (w d : Int32) (F G : Nat → Int32) (n : Nat) : Prop := ∀ o, o < 8 → ((o < n ∧ F o = 0 ∧ BT w o) ∧ G o = d) ∨ (¬ (o < n ∧ F o = 0 ∧ BT w o) ∧ G o = F o)
theorem MKF.fst (w d : Int32) (F : Nat → Int32) : MKF w d F F 0 := fun o _ => Or.inr ⟨fun q => absurd q.1 (Nat.not_lt_zero _), rfl⟩
theorem MKF.at {w d : Int32} {F G : Nat → Int32} {n o : Nat} (h : MKF w d F G n) (ho : o < 8) (hn : n ≤ o) : G o = F o := by
  rcases h o ho with ⟨q, _⟩ | ⟨_, e⟩
  · omega
  · exact e
theorem MKF.no {w d : Int32} {F G : Nat → Int32} {n : Nat} (h : MKF w d F G n) (hn : ¬ (F n = 0 ∧ BT w n)) : MKF w d F G (n + 1) := fun o ho => by
  by_cases z : o = n
  · refine Or.inr ⟨fun q => hn ?_, h.at ho (by omega)⟩
    rw [← z]
    exact q.2
  · rcases h o ho with ⟨q, e⟩ | ⟨q, e⟩
    · exact Or.inl ⟨⟨by omega, q.2⟩, e⟩
    · exact Or.inr ⟨fun w => q ⟨by omega, w.2⟩, e⟩
theorem MKF.yes {w d : Int32} {F G : Nat → Int32} {n k : Nat} (h : MKF w d F G n) (hk : k = n) (h0 : F n = 0) (h1 : BT w n) : MKF w d F (upd G k d) (n + 1) := fun o ho => by
  subst hk
  by_cases z : o = k
  · rw [z, upd_self]
    exact Or.inl ⟨⟨by omega, h0, h1⟩, rfl⟩
  · rw [upd_ne _ _ z]
    rcases h o ho with ⟨q, e⟩ | ⟨q, e⟩
    · exact Or.inl ⟨⟨by omega, q.2⟩, e⟩
    · exact Or.inr ⟨fun w => q ⟨by omega, w.2⟩, e⟩
def LKf (F : Nat → Int32) (D : Nat → Nat) : Prop := ∀ k, k < 8 → F k = nI (D k)
theorem LKf.z {F : Nat → Int32} {D : Nat → Nat} {k : Nat} (h : LKf F D) (hk : k < 8) (hd : D k < 1000) : F k = 0 ↔ D k = 0 := by
  rw [h k hk]
  exact iEQ (a := D k) (b := 0) (by omega) (by decide)
/-- a house's owners have been marked -/
theorem markCI {ow : Nat → Nat → Prop} {N t s n : Nat} {D : Nat → Nat} {F G : Nat → Int32} {w : Int32} (h : CI ow N t D s n) (hL : LKf F D) (hN : N ≤ 8) (hn : n < N) (ht : t < 8) (hs : 1 ≤ s) (hs9 : s < 9) (e : D n = s) (hw : ∀ a, a < 8 → (BT w a ↔ ow a n)) (hM : MKF w (nI (s + 1)) F G N) : ∃ D', LKf G D' ∧ CI ow N t D' s (n + 1) := by
  have hb : ∀ k, k < 8 → D k < 1000 := fun k hk => Nat.lt_of_le_of_lt (h.1 k hk) (by omega)
  have hx : ∀ k, k < 8 → ∃ d, G k = nI d ∧ (((k < N ∧ D k = 0 ∧ ow k n) ∧ d = s + 1) ∨ (¬ (k < N ∧ D k = 0 ∧ ow k n) ∧ d = D k)) := fun k hk => by
    rcases hM k hk with ⟨q, g⟩ | ⟨q, g⟩
    · exact ⟨s + 1, g, Or.inl ⟨⟨q.1, (hL.z hk (hb k hk)).mp q.2.1, (hw k hk).mp q.2.2⟩, rfl⟩⟩
    · exact ⟨D k, by rw [g]; exact hL k hk, Or.inr ⟨fun z => q ⟨z.1, (hL.z hk (hb k hk)).mpr z.2.1, (hw k hk).mpr z.2.2⟩, rfl⟩⟩
  refine ⟨fun k => if z : k < 8 then (hx k z).choose else 0, fun k hk => ?_, h.mk hN hn ht hs e (fun o ho => ?_)⟩
  · show G k = nI (if z : k < 8 then (hx k z).choose else 0)
    rw [dif_pos hk]
    exact (hx k hk).choose_spec.1
  · show ((o < N ∧ D o = 0 ∧ ow o n) ∧ (if z : o < 8 then (hx o z).choose else 0) = s + 1) ∨ (¬ (o < N ∧ D o = 0 ∧ ow o n) ∧ (if z : o < 8 then (hx o z).choose else 0) = D o)
    rw [dif_pos ho]
    exact (hx o ho).choose_spec.2
theorem fill0 {g : Nat → Int32} {k n : Nat} {v : Int32} (h : ∀ i : Nat, i < n → g i = v) (hk : k = n) : ∀ i : Nat, i < n + 1 → upd g k v i = v := fun i hi => by
  by_cases q : i = k
  · rw [q, upd_self]
  · rw [upd_ne _ _ q]
    exact h i (by omega)
theorem LKf.fst {G : Nat → Int32} {t k : Nat} (h : ∀ i : Nat, i < 8 → G i = 0) (hk : k = t) : LKf (upd G k 1) (va_up (fun _ => 0) t 1) := fun i hi => by
  subst hk
  by_cases q : i = k
  · rw [q, upd_self, va_up_self]
    rfl
  · rw [upd_ne _ _ q, va_up_ne _ _ q, h i hi]
    rfl
/-- a tenure in a seat that hasn't ended by a day -/
def TKN (X : Nat → Int) (Y : Nat → Nat → Int32) (s d : Int32) : Prop := ∃ i : Nat, (i : Int) < X 10 ∧ Y 20 i = s ∧ ((Y 22 i).toInt = -1 ∨ d.toInt < (Y 22 i).toInt)
/-- whether house a owns a part of b -/
def ownS (PK PT : Nat → Int32) (SX : Nat → Nat → Int) (SY : Nat → Nat → Nat → Int32) (a b : Nat) : Prop := ∃ i : Nat, (i : Int) < SX b 10 ∧ (ownP PK PT (SY b 19 i)).toInt = (a : Int)
theorem CX.owq {B : Nat → Nat × Nat} {K : Kp} {L : List Nat} {x0 n : Nat} {T : Int} {np : Nat} {PK PT : Nat → Int32} {SX : Nat → Nat → Int} {SY : Nat → Nat → Nat → Int32} {M : Hp} (h : CX B K L x0 n T np PK PT SX SY M) : OWQ x0 n (ownS PK PT SX SY) M := fun b hb => by
  obtain ⟨a, e, g⟩ := h.hs b hb
  exact ⟨a, e, g.ob.1, g.ob.2, fun o ho => g.ow o ho⟩
theorem OWQ.mv {cy : Nat → ClassId} {K : Kp} {L ts : List Nat} {M M1 : Hp} {x0 n : Nat} {ow : Nat → Nat → Prop} (h : OWQ x0 n ow M) (hW : WOK cy K L M) (i0 : isk K L x0 17 8) (hn : n ≤ 8) (hF : fr K L ts M M1) (h17 : 17 ∉ ts) (h2 : 2 ∉ ts) : OWQ x0 n ow M1 := fun b hb => by
  obtain ⟨a, e, g⟩ := h b hb
  have ia := i17 hW i0 (by omega) e
  refine ⟨a, by rw [hF.at i0 h17]; exact e, ?_⟩
  rw [cV_eq (hF.at ia h2)]
  exact g

/-- the least number from k on, of f tried ones, of which P holds -/
noncomputable def lstN (P : Nat → Prop) : Nat → Nat → Nat
  | 0, k => k
  | f + 1, k => @ite Nat (P k) (Classical.propDecidable _) k (lstN P f (k + 1))
theorem lstN_eq {P : Nat → Prop} {n : Nat} (hP : P n) : ∀ f k, k ≤ n → n < k + f → (∀ e, k ≤ e → e < n → ¬ P e) → lstN P f k = n := by
  intro f
  induction f with
  | zero => intro k h1 h2; omega
  | succ f ih =>
    intro k h1 h2 h3
    show @ite Nat (P k) (Classical.propDecidable _) k (lstN P f (k + 1)) = n
    by_cases z : k = n
    · subst z
      rw [if_pos hP]
    · rw [if_neg (h3 k (Nat.le_refl _) (by omega))]
      exact ih (k + 1) (by omega) (by omega) (fun e g1 g2 => h3 e (by omega) g2)
theorem lstN_sp {P : Nat → Prop} {n : Nat} (hP : P n) : ∀ f k, k ≤ n → n < k + f → P (lstN P f k) ∧ lstN P f k ≤ n := by
  intro f
  induction f with
  | zero => intro k h1 h2; omega
  | succ f ih =>
    intro k h1 h2
    show P (@ite Nat (P k) (Classical.propDecidable _) k (lstN P f (k + 1))) ∧ @ite Nat (P k) (Classical.propDecidable _) k (lstN P f (k + 1)) ≤ n
    by_cases z : P k
    · rw [if_pos z]
      exact ⟨z, h1⟩
    · have hne : k ≠ n := fun w => z (by rw [w]; exact hP)
      rw [if_neg z]
      exact ih (k + 1) (by omega) (by omega)
theorem lstN_cg {P Q : Nat → Prop} : ∀ f k, (∀ e, k ≤ e → e < k + f → (P e ↔ Q e)) → lstN P f k = lstN Q f k := by
  intro f
  induction f with
  | zero => intro k _; rfl
  | succ f ih =>
    intro k h
    show @ite Nat (P k) (Classical.propDecidable _) k (lstN P f (k + 1)) = @ite Nat (Q k) (Classical.propDecidable _) k (lstN Q f (k + 1))
    have e := h k (Nat.le_refl _) (by omega)
    by_cases z : P k
    · rw [if_pos z, if_pos (e.mp z)]
    · rw [if_neg z, if_neg (fun q => z (e.mpr q))]
      exact ih (k + 1) (fun e g1 g2 => h e (by omega) (by omega))
/-- the least number of steps -/
def DI (ow : Nat → Nat → Prop) (N t d a : Nat) : Prop := RC ow N t d a ∧ ∀ e, e < d → ¬ RC ow N t e a
/-- the next house of a least way -/
def NX (ow : Nat → Nat → Prop) (N t a n : Nat) : Prop := ow a n ∧ ∃ d, DI ow N t (d + 1) a ∧ DI ow N t d n
/-- the least way's houses, each the least one -/
noncomputable def wy (ow : Nat → Nat → Prop) (N t a : Nat) : Nat → Nat
  | 0 => a
  | i + 1 => lstN (NX ow N t (wy ow N t a i)) N 0
noncomputable def dst (ow : Nat → Nat → Prop) (N t a : Nat) : Nat := lstN (fun d => RC ow N t d a) 9 0
noncomputable def cirF (ow : Nat → Nat → Prop) (N t a : Nat) : Nat → Int32 := fun i => if i ≤ dst ow N t a then nI (wy ow N t a i) else -1
/-- what circle() answers -/
def cirA (CA : Nat → Int32) (k : Int32) : Int32 := if 0 ≤ k.toInt ∧ k.toInt < 8 then CA k.toNatClampNeg else -1
theorem rcCg {ow ow' : Nat → Nat → Prop} {N t : Nat} (h : ∀ x y, x < N → y < N → (ow x y ↔ ow' x y)) : ∀ d x, RC ow N t d x ↔ RC ow' N t d x := by
  intro d
  induction d with
  | zero =>
    intro x
    show x = t ↔ x = t
    exact Iff.rfl
  | succ d ih =>
    intro x
    refine ⟨fun q => ?_, fun q => ?_⟩
    · obtain ⟨h1, b, h2, h3, h4⟩ := q
      exact ⟨h1, b, h2, (h x b h1 h2).mp h3, (ih b).mp h4⟩
    · obtain ⟨h1, b, h2, h3, h4⟩ := q
      exact ⟨h1, b, h2, (h x b h1 h2).mpr h3, (ih b).mpr h4⟩
theorem diCg {ow ow' : Nat → Nat → Prop} {N t d a : Nat} (h : ∀ x y, x < N → y < N → (ow x y ↔ ow' x y)) : DI ow N t d a ↔ DI ow' N t d a := ⟨fun q => ⟨(rcCg h d a).mp q.1, fun e he g => q.2 e he ((rcCg h e a).mpr g)⟩, fun q => ⟨(rcCg h d a).mpr q.1, fun e he g => q.2 e he ((rcCg h e a).mp g)⟩⟩
theorem nxCg {ow ow' : Nat → Nat → Prop} {N t a n : Nat} (h : ∀ x y, x < N → y < N → (ow x y ↔ ow' x y)) (hn : n < N) : NX ow N t a n ↔ NX ow' N t a n := by
  refine ⟨fun q => ?_, fun q => ?_⟩
  · obtain ⟨g1, d, g2, g3⟩ := q
    have ha : a < N := by
      obtain ⟨w, _⟩ := g2.1
      exact w
    exact ⟨(h a n ha hn).mp g1, d, (diCg h).mp g2, (diCg h).mp g3⟩
  · obtain ⟨g1, d, g2, g3⟩ := q
    have ha : a < N := by
      obtain ⟨w, _⟩ := g2.1
      exact w
    exact ⟨(h a n ha hn).mpr g1, d, (diCg h).mpr g2, (diCg h).mpr g3⟩
theorem wyCg {ow ow' : Nat → Nat → Prop} {N t a : Nat} (h : ∀ x y, x < N → y < N → (ow x y ↔ ow' x y)) : ∀ i, wy ow N t a i = wy ow' N t a i := by
  intro i
  induction i with
  | zero => rfl
  | succ i ih =>
    show lstN (NX ow N t (wy ow N t a i)) N 0 = lstN (NX ow' N t (wy ow' N t a i)) N 0
    rw [ih]
    exact lstN_cg N 0 (fun e _ he => nxCg h (by omega))
theorem cirCg {ow ow' : Nat → Nat → Prop} {N t a : Nat} (h : ∀ x y, x < N → y < N → (ow x y ↔ ow' x y)) : cirF ow N t a = cirF ow' N t a := by
  funext i
  have e : dst ow N t a = dst ow' N t a := lstN_cg 9 0 (fun e _ _ => rcCg h e a)
  unfold cirF
  rw [e, wyCg h i]
theorem CI.rcd {ow : Nat → Nat → Prop} {N t s n : Nat} {D : Nat → Nat} (h : CI ow N t D s n) (hN : N ≤ 8) : ∀ v a, a < 8 → D a = v + 1 → RC ow N t v a := by
  intro v
  induction v with
  | zero => intro a ha e; exact h.2.2.1 a ha e
  | succ v ih =>
    intro a ha e
    obtain ⟨g1, b, g2, g3, g4⟩ := h.2.2.2.1 a ha (by omega)
    exact ⟨g1, b, g2, g3, ih b (by omega) (by omega)⟩
theorem CI.upd9 {ow : Nat → Nat → Prop} {N t n : Nat} {D : Nat → Nat} (h : CI ow N t D 8 n) (hN : N ≤ 8) : ∀ e a, a < 8 → RC ow N t e a → 1 ≤ D a ∧ D a ≤ e + 1 := by
  intro e
  induction e with
  | zero =>
    intro a _ q
    have q : a = t := q
    rw [q, h.2.1]
    exact ⟨by omega, by omega⟩
  | succ e ih =>
    intro a ha q
    have hc := h.cpl hN (e + 1) a ha q
    obtain ⟨h1, b, h2, h3, h4⟩ := q
    obtain ⟨hb, hb2⟩ := ih b (by omega) h4
    refine ⟨hc, ?_⟩
    by_cases z : D b < 8
    · have g := (h.2.2.2.2 b h2 hb (Or.inl z) a h1 h3).2
      omega
    · have g := h.1 a ha
      omega
theorem CI.dia {ow : Nat → Nat → Prop} {N t n : Nat} {D : Nat → Nat} (h : CI ow N t D 8 n) (hN : N ≤ 8) {d a : Nat} (ha : a < 8) : DI ow N t d a ↔ D a = d + 1 := by
  refine ⟨fun q => ?_, fun q => ⟨h.rcd hN d a ha q, fun e he g => ?_⟩⟩
  · obtain ⟨g1, g2⟩ := h.upd9 hN d a ha q.1
    rcases Nat.lt_or_ge (D a) (d + 1) with w | w
    · exact absurd (h.rcd hN (D a - 1) a ha (by omega)) (q.2 (D a - 1) (by omega))
    · omega
  · have := (h.upd9 hN e a ha g).2
    omega
theorem CI.le8 {ow : Nat → Nat → Prop} {N t n : Nat} {D : Nat → Nat} (h : CI ow N t D 8 n) (hN : N ≤ 8) {a : Nat} (ha : a < 8) : D a ≤ 8 := by
  rcases Nat.lt_or_ge 8 (D a) with w | w
  · exfalso
    have hs := sub_len (List.range 9) ((List.range 8).map (fun c => D c - 1)) List.nodup_range (fun v hv => by
      have hv9 := List.mem_range.mp hv
      obtain ⟨c, hc, e⟩ := h.ctg hN (D a) a ha rfl (v + 1) (by omega) (by omega)
      exact List.mem_map.mpr ⟨c, List.mem_range.mpr hc, by show D c - 1 = v; omega⟩)
    rw [List.length_map, List.length_range, List.length_range] at hs
    omega
  · exact w
theorem CI.nxt9 {ow : Nat → Nat → Prop} {N t m : Nat} {D : Nat → Nat} (h : CI ow N t D 8 m) (hN : N ≤ 8) {a n : Nat} (ha : a < 8) (hn : n < 8) : NX ow N t a n ↔ (ow a n ∧ D a = D n + 1 ∧ 1 ≤ D n) := by
  refine ⟨fun q => ?_, fun q => ⟨q.1, D n - 1, (h.dia hN ha).mpr ?_, (h.dia hN hn).mpr ?_⟩⟩
  · obtain ⟨g1, d, g2, g3⟩ := q
    have e1 := (h.dia hN ha).mp g2
    have e2 := (h.dia hN hn).mp g3
    exact ⟨g1, by omega, by omega⟩
  · have e1 := q.2.1
    have e2 := q.2.2
    omega
  · have e2 := q.2.2
    omega
theorem CI.nxs {ow : Nat → Nat → Prop} {N t m : Nat} {D : Nat → Nat} (h : CI ow N t D 8 m) (hN : N ≤ 8) {a : Nat} (ha : a < 8) (h2 : 2 ≤ D a) : lstN (NX ow N t a) N 0 < N ∧ D (lstN (NX ow N t a) N 0) + 1 = D a := by
  obtain ⟨g1, b, g2, g3, g4⟩ := h.2.2.2.1 a ha h2
  have q := lstN_sp (P := NX ow N t a) ((h.nxt9 hN ha (by omega)).mpr ⟨g3, by omega, by omega⟩) N 0 (Nat.zero_le _) (by omega)
  have q2 := q.2
  have hl : lstN (NX ow N t a) N 0 < N := by omega
  have w := ((h.nxt9 hN ha (by omega)).mp q.1).2.1
  exact ⟨hl, by omega⟩
theorem CI.wyl {ow : Nat → Nat → Prop} {N t m : Nat} {D : Nat → Nat} (h : CI ow N t D 8 m) (hN : N ≤ 8) {a : Nat} (ha : a < 8) : ∀ i, i < D a → wy ow N t a i < 8 ∧ D (wy ow N t a i) + i = D a := by
  intro i
  induction i with
  | zero => intro _; exact ⟨ha, rfl⟩
  | succ i ih =>
    intro hi
    obtain ⟨g1, g2⟩ := ih (by omega)
    have g := h.nxs hN g1 (by omega)
    have e : wy ow N t a (i + 1) = lstN (NX ow N t (wy ow N t a i)) N 0 := rfl
    have w1 := g.1
    have w2 := g.2
    rw [e]
    exact ⟨by omega, by omega⟩
theorem CI.dd {ow : Nat → Nat → Prop} {N t m : Nat} {D : Nat → Nat} (h : CI ow N t D 8 m) (hN : N ≤ 8) {a : Nat} (ha : a < 8) (h1 : 1 ≤ D a) : dst ow N t a = D a - 1 := by
  have h8 := h.le8 hN ha
  exact lstN_eq (P := fun d => RC ow N t d a) (n := D a - 1) (h.rcd hN (D a - 1) a ha (by omega)) 9 0 (Nat.zero_le _) (by omega) (fun e _ he q => by
    have := (h.upd9 hN e a ha q).2
    omega)
theorem CI.cir {ow : Nat → Nat → Prop} {N t m : Nat} {D : Nat → Nat} (h : CI ow N t D 8 m) (hN : N ≤ 8) {a : Nat} (ha : a < 8) (h1 : 1 ≤ D a) {G : Nat → Int32} (hG : ∀ j, j < D a → G j = nI (wy ow N t a j)) (i : Nat) : (if i < D a then G i else -1) = cirF ow N t a i := by
  unfold cirF
  rw [h.dd hN ha h1]
  by_cases z : i < D a
  · rw [if_pos z, if_pos (by omega), hG i z]
  · rw [if_neg z, if_neg (by omega)]
noncomputable def nxI (ow : Nat → Nat → Prop) (N t : Nat) (D : Nat → Nat) (a : Nat) : Int32 := if 2 ≤ D a then nI (lstN (NX ow N t a) N 0) else -1
/-- nextTowards: what it gives -/
theorem CI.nxi {ow : Nat → Nat → Prop} {N t m : Nat} {D : Nat → Nat} (h : CI ow N t D 8 m) (hN : N ≤ 8) {a n d : Nat} (ha : a < 8) (hd : D a = d + 1) (h0 : 0 < d) (hn : n < N) (e : D n = d) (ho : ow a n) (hf : ∀ k, k < n → k < N → ¬ (ow a k ∧ D k = d)) : nI n = nxI ow N t D a := by
  unfold nxI
  rw [if_pos (by omega), lstN_eq (P := NX ow N t a) ((h.nxt9 hN ha (by omega)).mpr ⟨ho, by omega, by omega⟩) N 0 (Nat.zero_le _) (by omega) (fun k _ hk q => by
    have w := (h.nxt9 hN ha (by omega)).mp q
    have w2 := w.2.1
    exact hf k hk (by omega) ⟨w.1, by omega⟩)]
theorem CI.nxn {ow : Nat → Nat → Prop} {N t m : Nat} {D : Nat → Nat} (h : CI ow N t D 8 m) {a n d : Nat} (ha : a < 8) (hN : N ≤ 8) (hd : D a = d + 1) (hn : d = 0 ∨ N ≤ n ∨ 8 ≤ n) (hf : ∀ k, k < n → k < N → ¬ (ow a k ∧ D k = d)) : -1 = nxI ow N t D a := by
  unfold nxI
  rw [if_neg (fun q => ?_)]
  obtain ⟨_, b, g2, g3, g4⟩ := h.2.2.2.1 a ha q
  exact hf b (by omega) g2 ⟨g3, by omega⟩
/-- what the ring holds -/
def RGC (M : Hp) (a : Nat) (CA : Nat → Int32) : Prop := ∃ n : Nat, n ≤ 8 ∧ cV 5 M a 2 = nI n ∧ ∀ i, (if i < n then IFc (M (rA 5 M a 1)) i else -1) = CA i
/-- the ring's houses are as they were -/
def RGS (M M1 : Hp) (a : Nat) : Prop := M1 a = M a ∧ M1 (rA 5 M a 1) = M (rA 5 M a 1)
theorem ring59 {cy : Nat → ClassId} {K : Kp} {L : List Nat} {M : Hp} {a : Nat} (hW : WOK cy K L M) (ia : isk K L a 5 0) : isk K L (rA 5 M a 1) 59 8 := by
  obtain ⟨v0, v1, v2, e, g1, g2⟩ := hW.open_5 ia
  rw [rA_of (j := 1) e rfl]
  exact g2
theorem RGS.of {cy : Nat → ClassId} {K : Kp} {L ts : List Nat} {M M1 : Hp} {a : Nat} (hW : WOK cy K L M) (ia : isk K L a 5 0) (hF : fr K L ts M M1) (h5 : 5 ∉ ts) (h59 : 59 ∉ ts) : RGS M M1 a := ⟨hF.at ia h5, hF.at (ring59 hW ia) h59⟩
theorem RGC.mv {M M1 : Hp} {a : Nat} {CA : Nat → Int32} (h : RGC M a CA) (hS : RGS M M1 a) : RGC M1 a CA := by
  obtain ⟨n, g1, g2, g3⟩ := h
  have er : rA 5 M1 a 1 = rA 5 M a 1 := by
    unfold rA cR cVt
    rw [hS.1]
  refine ⟨n, g1, ?_, fun i => ?_⟩
  · unfold cV cVt
    rw [hS.1]
    exact g2
  · rw [er, hS.2]
    exact g3 i
theorem nIp9 : ∀ n : Fin 9, nI (n.val + 1) - 1 = nI n.val := by decide +kernel
theorem nIp {d : Nat} (h : d < 9) : nI (d + 1) - 1 = nI d := nIp9 ⟨d, h⟩
theorem upd_at {f : Nat → Int32} {i j : Nat} {v : Int32} (h : j = i) : upd f j v i = v := by
  rw [h]
  exact upd_self _ _ _
/-- the same of the reference -/
def ZGC (M : Hp) (a n : Nat) (CA : Nat → Int32) : Prop := ∀ i, (if i < n then IFc (M a) i else -1) = CA i
theorem ZGC.mv {K : Kp} {L ts : List Nat} {M M1 : Hp} {a n : Nat} {CA : Nat → Int32} (h : ZGC M a n CA) (ia : isk K L a 49 8) (hF : fr K L ts M M1) (h49 : 49 ∉ ts) : ZGC M1 a n CA := fun i => by
  rw [hF.at ia h49]
  exact h i

set_option maxHeartbeats 4000000 in
set_option maxRecDepth 100000 in
theorem e_partnerAt (l : Launch) (D : va_G) (cy : Nat → ClassId) (K : Kp) (L : List Nat) (M : Hp) (sz : Nat) (xa : Nat) (x0 : Nat) (x1 : Nat) (x2 : Nat) (x3 : Nat) (x4 : Nat) (x5 : Nat) (x6 : Nat) (x7 : Int32) (x8 : Nat) (x9 : Int32) (x10 : Int32) (k1 : Int32) (PK : Nat → Int32) (PT : Nat → Int32) (hW : WOK cy K L M) (i0 : isk K L x0 17 8) (b1 : x1 ≤ 8) (i2 : isk K L x2 19 40) (b3 : x3 ≤ 40) (i4 : isk K L x4 7 0) (i5 : isk K L x5 5 0) (i6 : isk K L x6 60 24) (i8 : isk K L x8 73 25) (hPX : PX x0 x1 x2 x3 PK PT M) : Met l yX11_partnerAt (wsM yX11_partnerAt cX11_partnerAt 2 (some (.object "PartnersBook$Partner"))) ({ frames := 0, cells := 0, slots := 0, locals := 0 }) (va_Pc [.ref xa, .int k1] (PG D cy [(xa, (b11_1 x0 (nI x1) x2 (nI x3) x4 x5 x6 x7 x8 x9 x10))] L M sz)) (va_Qq (fun (r : Option Nat) (_ : Unit) => iskN K L r 4 0 ∧ (∀ b, r = some b → (0 ≤ k1.toInt ∧ k1.toInt < (x3 : Int)) ∧ RFc (M x2) k1.toNatClampNeg = some b) ∧ (r = none → ¬ (0 ≤ k1.toInt ∧ k1.toInt < (x3 : Int)))) (fun _ t => PQ D [(xa, (b11_1 x0 (nI x1) x2 (nI x3) x4 x5 x6 x7 x8 x9 x10))] L M (va_A ([(xa, (b11_1 x0 (nI x1) x2 (nI x3) x4 x5 x6 x7 x8 x9 x10))] ++ va_pl L M) sz) t) (va_A ([(xa, (b11_1 x0 (nI x1) x2 (nI x3) x4 x5 x6 x7 x8 x9 x10))] ++ va_pl L M) sz)) 0 0 (va_A ([(xa, (b11_1 x0 (nI x1) x2 (nI x3) x4 x5 x6 x7 x8 x9 x10))] ++ va_pl L M) sz) := by
  refine Met.ofW (cc := cX11_partnerAt) (maxL := 2) (ret := (some (.object "PartnersBook$Partner"))) (by decide) rfl ?_
  intro p e s m args below meth c s₁ B hml hv
  obtain ⟨rfl, hsz, hP, hK, hD0, hN⟩ := hv
  have hx := B.exec
  have hb := B.bytes
  have hr := B.returns
  have hts := atoms_spec (ws := (wsM yX11_partnerAt cX11_partnerAt 2 (some (.object "PartnersBook$Partner")))) B.pre
  have hg : ∀ w ∈ lw_good, w.before _ s = true := fun w h => hts w (List.mem_cons_of_mem _ h)
  have hown : s.vm.findClass RX11 = some m.cls := findClass_of_methodNamed B.named
  have hlocks := B.notSynchronized
  subst hsz
  have hD := hD0.self (sz := s.heap.size)
  generalize hAe : va_A ([(xa, (b11_1 x0 (nI x1) x2 (nI x3) x4 x5 x6 x7 x8 x9 x10))] ++ va_pl L M) s.heap.size = A at hD ⊢
  have hA : ∀ q : Nat, s.heap.size ≤ q → A q := fun q h => by rw [← hAe]; exact Or.inr h
  have hS : va_S A s.heap s.heap [] := va_S.rf
  have hl := lv_entry ([.ref xa, .int k1]) (n := 2) (Nat.le_of_ble_eq_true rfl)
  rw [lg_entry_eq]
  generalize (lg_sl ([.ref xa, .int k1]) ++ List.replicate (2 - (lg_sl ([.ref xa, .int k1])).length) Slot.unset).toArray = ls at hl ⊢
  refine W.nameQ (fun Q hQ => ?_)
  refine W.nameR (fun R hR => ?_)
  have hRf : 0 ≤ R.frames := by rw [hR]; exact Nat.le_of_ble_eq_true rfl
  have hRl : 0 ≤ R.locals := by rw [hR]; exact Nat.le_of_ble_eq_true rfl
  have hRc : 0 ≤ R.cells := by rw [hR]; exact Nat.le_of_ble_eq_true rfl
  have hRs : 0 ≤ R.slots := by rw [hR]; exact Nat.le_of_ble_eq_true rfl
  have hl : lv_has ls 2 [(0, .ref xa), (1, .int k1)] := hl
  refine lv_iload_n hx hb dX11_partnerAt_0 rfl (lv_at hl 1 rfl) ?_
  refine lv_if_lt (tgt := 27) hx hb dX11_partnerAt_1 (by decide) (fun c_1 => ?_) (fun c_1 => ?_)
  · have hz := rfl (a := 0)
    refine lv_null hx hb dX11_partnerAt_27 ?_
    have hI_2 : (k1 : Int32).toInt < (0 : Int) := iltI rfl rfl c_1
    rw [hQ]
    exact W.aret (v := .null) hx hb hr (Or.inl ⟨_, rfl⟩) (Or.inl rfl) (fun t ht hW9 => ⟨⟨none, (), rfl, ⟨iskN.none, ⟨(fun b9 q9 => by cases q9), fun _ q9 => by omega⟩⟩, ⟨by rw [ht]; exact hP, hD⟩⟩, hS.F ht⟩) hS.2.2 dX11_partnerAt_28
  · have hz := rfl (a := 0)
    refine lv_iload_n hx hb dX11_partnerAt_4 rfl (lv_at hl 1 rfl) ?_
    refine lv_aload_n hx hb dX11_partnerAt_5 rfl (lv_at hl 0 rfl) ?_
    refine va_get (D := D) (ci := 11) (v := .int (nI x3)) (C := RX11) (T := TX11) (N := 11) hx hb hg inG11 hown hK hP 0 rfl rfl 3 (by decide) (hg _ wd_338) (fun _ h9 => h9) rfl dX11_partnerAt_6 ?_
    refine lv_icmp_ge (tgt := 27) hx hb dX11_partnerAt_9 (by decide) (fun c_3 => ?_) (fun c_3 => ?_)
    · have hz := rfl (a := 0)
      refine lv_null hx hb dX11_partnerAt_27 ?_
      have hI_4 : (0 : Int) ≤ (k1 : Int32).toInt := inltI rfl rfl c_1
      have hI_5 : ((x3 : Nat) : Int) ≤ (k1 : Int32).toInt := ileI (nI_toInt (by omega)) rfl c_3
      rw [hQ]
      exact W.aret (v := .null) hx hb hr (Or.inl ⟨_, rfl⟩) (Or.inl rfl) (fun t ht hW9 => ⟨⟨none, (), rfl, ⟨iskN.none, ⟨(fun b9 q9 => by cases q9), fun _ q9 => by omega⟩⟩, ⟨by rw [ht]; exact hP, hD⟩⟩, hS.F ht⟩) hS.2.2 dX11_partnerAt_28
    · have hz := rfl (a := 0)
      refine lv_iload_n hx hb dX11_partnerAt_12 rfl (lv_at hl 1 rfl) ?_
      refine lv_bipush (v := 40) hx hb dX11_partnerAt_13 (by decide) ?_
      refine lv_icmp_ge (tgt := 27) hx hb dX11_partnerAt_15 (by decide) (fun c_6 => ?_) (fun c_6 => ?_)
      · have hz := rfl (a := 0)
        refine lv_null hx hb dX11_partnerAt_27 ?_
        have hI_7 : (0 : Int) ≤ (k1 : Int32).toInt := inltI rfl rfl c_1
        have hI_8 : (k1 : Int32).toInt < ((x3 : Nat) : Int) := inleI (nI_toInt (by omega)) rfl c_3
        have hI_9 : (40 : Int) ≤ (k1 : Int32).toInt := ileI rfl rfl c_6
        rw [hQ]
        exact W.aret (v := .null) hx hb hr (Or.inl ⟨_, rfl⟩) (Or.inl rfl) (fun t ht hW9 => ⟨⟨none, (), rfl, ⟨iskN.none, ⟨(fun b9 q9 => by cases q9), fun _ q9 => by omega⟩⟩, ⟨by rw [ht]; exact hP, hD⟩⟩, hS.F ht⟩) hS.2.2 dX11_partnerAt_28
      · have hz := rfl (a := 0)
        refine lv_aload_n hx hb dX11_partnerAt_18 rfl (lv_at hl 0 rfl) ?_
        refine va_get (D := D) (ci := 11) (v := .ref x2) (C := RX11) (T := TX11) (N := 11) hx hb hg inG11 hown hK hP 0 rfl rfl 2 (by decide) (hg _ wd_339) (fun _ h9 => h9) rfl dX11_partnerAt_19 ?_
        refine lv_iload_n hx hb dX11_partnerAt_22 rfl (lv_at hl 1 rfl) ?_
        obtain ⟨f10, hM10, hf10⟩ := hW.open_19 i2
        have hi_11 : vp_in k1 40 := (inb k1 40 (by omega) c_1 c_6)
        refine pg_aldq hx hb hK hP i2.1 5 hM10 rfl hi_11 dX11_partnerAt_23 ?_
        obtain ⟨q_12, ho_13⟩ : ∃ q : Option Nat, q = f10 (k1 : Int32).toNatClampNeg := ⟨_, rfl⟩
        rw [← ho_13]
        have hq_14 : iskN K L q_12 4 0 := by rw [ho_13]; exact hf10 _ (vp_lt hi_11)
        rcases q_12 with _ | bq_12
        · have hz := rfl (a := 0)
          refine lv_goto (tgt := 28) hx hb dX11_partnerAt_24 (by decide) ?_
          have hI_16 : (0 : Int) ≤ (k1 : Int32).toInt := inltI rfl rfl c_1
          have hI_17 : (k1 : Int32).toInt < ((x3 : Nat) : Int) := inleI (nI_toInt (by omega)) rfl c_3
          have hI_18 : (k1 : Int32).toInt < (40 : Int) := inleI rfl rfl c_6
          have hck : ((k1 : Int32).toNatClampNeg : Int) = k1.toInt := clT (by omega)
          rw [hQ]
          exact W.aret (v := .null) hx hb hr (Or.inl ⟨_, rfl⟩) (Or.inl rfl) (fun t ht hW9 => ⟨⟨none, (), rfl, ⟨iskN.none, ⟨(fun b9 q9 => by cases q9), fun _ q9 => by obtain ⟨a9, e9, _⟩ := hPX k1.toNatClampNeg (by omega); rw [RFc_of hM10] at e9; exact absurd (ho_13.trans e9) (by intro z9; cases z9)⟩⟩, ⟨by rw [ht]; exact hP, hD⟩⟩, hS.F ht⟩) hS.2.2 dX11_partnerAt_28
        · have hb_15 := hq_14 bq_12 rfl
          refine lv_goto (tgt := 28) hx hb dX11_partnerAt_24 (by decide) ?_
          have hI_19 : (0 : Int) ≤ (k1 : Int32).toInt := inltI rfl rfl c_1
          have hI_20 : (k1 : Int32).toInt < ((x3 : Nat) : Int) := inleI (nI_toInt (by omega)) rfl c_3
          have hI_21 : (k1 : Int32).toInt < (40 : Int) := inleI rfl rfl c_6
          rw [hQ]
          exact W.aret (v := .ref bq_12) hx hb hr (Or.inl ⟨_, rfl⟩) (Or.inr ⟨_, rfl⟩) (fun t ht hW9 => ⟨⟨(some bq_12), (), rfl, ⟨iskN.some hb_15, ⟨(fun b9 q9 => by cases q9; exact ⟨by omega, by rw [RFc_of hM10]; exact ho_13.symm⟩), (fun q9 => by cases q9)⟩⟩, ⟨by rw [ht]; exact hP, hD⟩⟩, hS.F ht⟩) hS.2.2 dX11_partnerAt_28
set_option maxHeartbeats 4000000 in
set_option maxRecDepth 100000 in
theorem e_isOwnedBy (l : Launch) (D : va_G) (cy : Nat → ClassId) (K : Kp) (L : List Nat) (M : Hp) (sz : Nat) (oa : Nat) (k1 : Nat) (hW : WOK cy K L M) (ia : isk K L oa 2 0) (hk1 : k1 < 8) (hob : (0 ≤ (cV 2 M oa 15).toInt ∧ (cV 2 M oa 15).toInt < 256)) : Met l yX2_isOwnedBy (wsM yX2_isOwnedBy cX2_isOwnedBy 2 (some .boolean)) ({ frames := 0, cells := 0, slots := 0, locals := 0 }) (va_Pc [.ref oa, .int (nI k1)] (PG D cy [] L M sz)) (va_Qi (fun (r : Int32) (_ : Unit) => (r = 1 ∧ (BT (cV 2 M oa 15) k1)) ∨ (r = 0 ∧ ¬ (BT (cV 2 M oa 15) k1))) (fun _ t => PQ D [] L M (va_A ([] ++ va_pl L M) sz) t) (va_A ([] ++ va_pl L M) sz)) 0 0 (va_A ([] ++ va_pl L M) sz) := by
  refine Met.ofW (cc := cX2_isOwnedBy) (maxL := 2) (ret := (some .boolean)) (by decide) rfl ?_
  intro p e s m args below meth c s₁ B hml hv
  obtain ⟨rfl, hsz, hP, hK, hD0, hN⟩ := hv
  have hx := B.exec
  have hb := B.bytes
  have hr := B.returns
  have hts := atoms_spec (ws := (wsM yX2_isOwnedBy cX2_isOwnedBy 2 (some .boolean))) B.pre
  have hg : ∀ w ∈ lw_good, w.before _ s = true := fun w h => hts w (List.mem_cons_of_mem _ h)
  have hown : s.vm.findClass RX2 = some m.cls := findClass_of_methodNamed B.named
  have hlocks := B.notSynchronized
  subst hsz
  have hD := hD0.self (sz := s.heap.size)
  generalize hAe : va_A ([] ++ va_pl L M) s.heap.size = A at hD ⊢
  have hA : ∀ q : Nat, s.heap.size ≤ q → A q := fun q h => by rw [← hAe]; exact Or.inr h
  have hS : va_S A s.heap s.heap [] := va_S.rf
  have hl := lv_entry ([.ref oa, .int (nI k1)]) (n := 2) (Nat.le_of_ble_eq_true rfl)
  rw [lg_entry_eq]
  generalize (lg_sl ([.ref oa, .int (nI k1)]) ++ List.replicate (2 - (lg_sl ([.ref oa, .int (nI k1)])).length) Slot.unset).toArray = ls at hl ⊢
  refine W.nameQ (fun Q hQ => ?_)
  refine W.nameR (fun R hR => ?_)
  have hRf : 0 ≤ R.frames := by rw [hR]; exact Nat.le_of_ble_eq_true rfl
  have hRl : 0 ≤ R.locals := by rw [hR]; exact Nat.le_of_ble_eq_true rfl
  have hRc : 0 ≤ R.cells := by rw [hR]; exact Nat.le_of_ble_eq_true rfl
  have hRs : 0 ≤ R.slots := by rw [hR]; exact Nat.le_of_ble_eq_true rfl
  have hl : lv_has ls 2 [(0, .ref oa), (1, .int (nI k1))] := hl
  refine lv_aload_n hx hb dX2_isOwnedBy_0 rfl (lv_at hl 0 rfl) ?_
  obtain ⟨v1_0, v1_1, v1_2, v1_3, v1_4, v1_5, v1_6, v1_7, v1_8, v1_9, v1_10, v1_11, v1_12, v1_13, v1_14, v1_15, v1_16, v1_17, v1_18, v1_19, hM1, h1_3, h1_4, h1_5, h1_6, h1_7, h1_8, h1_9, h1_10, h1_11, h1_12, h1_13, h1_16, h1_17, h1_18, h1_19⟩ := hW.open_2 ia
  refine pg_get (D := D) (ci := 2) (v := .int v1_15) (C := RX2) (T := TX2) (N := 20) hx hb hg inG2 hown hK hP ia.1 hM1 rfl 15 (by decide) (hg _ wd_61) (fun _ h9 => h9) rfl dX2_isOwnedBy_1 ?_
  refine lv_iload_n hx hb dX2_isOwnedBy_4 rfl (lv_at hl 1 rfl) ?_
  refine lv_ishr hx hb dX2_isOwnedBy_5 ?_
  refine lv_topi (fun f_2 ef_2 => ?_)
  refine lv_iconst (v := 1) hx hb dX2_isOwnedBy_6 (by decide) ?_
  refine lv_iand hx hb dX2_isOwnedBy_7 ?_
  refine lv_topi (fun f_3 ef_3 => ?_)
  refine lv_iconst (v := 1) hx hb dX2_isOwnedBy_8 (by decide) ?_
  refine lv_icmp_ne (tgt := 16) hx hb dX2_isOwnedBy_9 (by decide) (fun c_4 => ?_) (fun c_4 => ?_)
  · have hz := rfl (a := 0)
    refine lv_iconst (v := 0) hx hb dX2_isOwnedBy_16 (by decide) ?_
    have hcv : cV 2 M oa 15 = v1_15 := cV_of hM1 rfl
    rw [hcv] at hob
    have hbt := BT_of hob.1 hob.2 hk1
    rw [← ef_2, ← ef_3] at hbt
    rw [hQ]
    exact W.zret (v := 0) hx hb hr rfl (fun t ht hW9 => ⟨⟨0, (), rfl, (Or.inr ⟨rfl, by rw [hcv]; exact fun q9 => c_4 (hbt.mpr q9)⟩), ⟨by rw [ht]; exact hP, hD⟩⟩, hS.F ht⟩) hS.2.2 dX2_isOwnedBy_17
  · have hz := rfl (a := 0)
    refine lv_iconst (v := 1) hx hb dX2_isOwnedBy_12 (by decide) ?_
    refine lv_goto (tgt := 17) hx hb dX2_isOwnedBy_13 (by decide) ?_
    have hcv : cV 2 M oa 15 = v1_15 := cV_of hM1 rfl
    rw [hcv] at hob
    have hbt := BT_of hob.1 hob.2 hk1
    rw [← ef_2, ← ef_3] at hbt
    rw [hQ]
    exact W.zret (v := 1) hx hb hr rfl (fun t ht hW9 => ⟨⟨1, (), rfl, (Or.inl ⟨rfl, by rw [hcv]; exact hbt.mp c_4⟩), ⟨by rw [ht]; exact hP, hD⟩⟩, hS.F ht⟩) hS.2.2 dX2_isOwnedBy_17
set_option maxHeartbeats 4000000 in
set_option maxRecDepth 100000 in
theorem e_fill58 (l : Launch) (D : va_G) (cy : Nat → ClassId) (K : Kp) (L : List Nat) (M : Hp) (sz : Nat) (k1 : Nat) (k2 : Int32) (hW : WOK cy K L M) (ik1 : isk K L k1 58 8) : Met l yJ7_fill_53178 (wsM yJ7_fill_53178 cJ7_fill_53178 4 none) ({ frames := 0, cells := 0, slots := 0, locals := 0 }) (va_Pc [.ref k1, .int k2] (PG D cy [] L M sz)) (va_Qv (fun (M9 : Hp) => WOK cy K L M9 ∧ fr K L [58] M M9 ∧ (∀ i : Nat, i < 8 → IFc (M9 k1) i = k2) ∧ (True)) (fun M9 t => PQ D [] L M9 (va_A ([] ++ va_pl L M) sz) t) (va_A ([] ++ va_pl L M) sz)) 0 0 (va_A ([] ++ va_pl L M) sz) := by
  refine Met.ofW (cc := cJ7_fill_53178) (maxL := 4) (ret := none) (by decide) rfl ?_
  intro p e s m args below meth c s₁ B hml hv
  obtain ⟨rfl, hsz, hP, hK, hD0, hN⟩ := hv
  have hx := B.exec
  have hb := B.bytes
  have hr := B.returns
  have hts := atoms_spec (ws := (wsM yJ7_fill_53178 cJ7_fill_53178 4 none)) B.pre
  have hg : ∀ w ∈ lw_good, w.before _ s = true := fun w h => hts w (List.mem_cons_of_mem _ h)
  have hown : s.vm.findClass RJ7 = some m.cls := findClass_of_methodNamed B.named
  have hlocks := B.notSynchronized
  subst hsz
  have hD := hD0.self (sz := s.heap.size)
  generalize hAe : va_A ([] ++ va_pl L M) s.heap.size = A at hD ⊢
  have hA : ∀ q : Nat, s.heap.size ≤ q → A q := fun q h => by rw [← hAe]; exact Or.inr h
  have hS : va_S A s.heap s.heap [] := va_S.rf
  have hl := lv_entry ([.ref k1, .int k2]) (n := 4) (Nat.le_of_ble_eq_true rfl)
  rw [lg_entry_eq]
  generalize (lg_sl ([.ref k1, .int k2]) ++ List.replicate (4 - (lg_sl ([.ref k1, .int k2])).length) Slot.unset).toArray = ls at hl ⊢
  refine W.nameQ (fun Q hQ => ?_)
  refine W.nameR (fun R hR => ?_)
  have hRf : 0 ≤ R.frames := by rw [hR]; exact Nat.le_of_ble_eq_true rfl
  have hRl : 0 ≤ R.locals := by rw [hR]; exact Nat.le_of_ble_eq_true rfl
  have hRc : 0 ≤ R.cells := by rw [hR]; exact Nat.le_of_ble_eq_true rfl
  have hRs : 0 ≤ R.slots := by rw [hR]; exact Nat.le_of_ble_eq_true rfl
  have hF : fr K L [58] M M := fr.rf
  have hl : lv_has ls 4 [(0, .ref k1), (1, .int k2)] := hl
  refine lv_iconst (v := 0) hx hb dJ7_fill_53178_0 (by decide) ?_
  refine lv_istore_n (lv' := [(2, .int 0), (0, .ref k1), (1, .int k2)]) hx hb dJ7_fill_53178_1 rfl hl (by decide) rfl (fun ls hl => ?_)
  refine lv_aload_n hx hb dJ7_fill_53178_2 rfl (lv_at hl 1 rfl) ?_
  obtain ⟨f1, hM1⟩ := hW.open_58 ik1
  refine pg_alen (v := 8) hx hb hK hP ik1.1 0 hM1 rfl (by rfl) dJ7_fill_53178_3 ?_
  refine lv_istore_n (lv' := [(3, .int 8), (2, .int 0), (0, .ref k1), (1, .int k2)]) hx hb dJ7_fill_53178_4 rfl hl (by decide) rfl (fun ls hl => ?_)
  have key_2 : ∀ (fu_4 : Nat) (v2w5 : Nat) (gFw5 : Nat → Int32) (M_8 : Hp) (H_9 : Heap) (locs : List Loc) (ls : Array Slot), 8 - v2w5 < fu_4 → M_8 k1 = .inl (cy 14, 8, .inl (gFw5)) → v2w5 ≤ 8 → (∀ i : Nat, i < v2w5 → gFw5 i = k2) → WOK cy K L M_8 → fr K L [58] M M_8 → va_P D vwCl ([] ++ va_pl L M_8) H_9 → va_D A ([] ++ va_pl L M_8) → va_S A s.heap H_9 locs → lv_has ls 4 [(3, .int 8), (2, .int (nI v2w5)), (0, .ref k1), (1, .int k2)] → W p l e R s m ([.ref k1, .int k2] : List Value).toArray below meth c H_9 locs 0 0 Q (F0 m 5 ls []) := by
    intro fu_4
    induction fu_4 with
    | zero => intro v2w5 gFw5 M_8 H_9 locs ls h; exact absurd h (Nat.not_lt_zero _)
    | succ fu_4 ih_3 =>
      intro v2w5 gFw5 M_8 H_9 locs ls hfu hM_10 hx_6 hx_7 hW hF hP hD hS hl
      refine lv_iload_n hx hb dJ7_fill_53178_5 rfl (lv_at hl 1 rfl) ?_
      refine lv_iload_n hx hb dJ7_fill_53178_6 rfl (lv_at hl 0 rfl) ?_
      refine lv_icmp_ge (tgt := 20) hx hb dJ7_fill_53178_7 (by decide) (fun c_11 => ?_) (fun c_11 => ?_)
      · have hz := rfl (a := 0)
        have n_12 : 8 ≤ v2w5 := (iLE (a := 8) (b := v2w5) (by omega) (by omega)).mp c_11
        rw [hQ]
        exact W.vret hx hb hr (fun t ht hW9 => ⟨⟨M_8, rfl, ⟨hW, hF, (fun i hi => by rw [IFc_of hM_10]; exact hx_7 i (by omega)), trivial⟩, ⟨by rw [ht]; exact hP, hD⟩⟩, hS.F ht⟩) hS.2.2 dJ7_fill_53178_20
      · have hz := rfl (a := 0)
        have n_13 : ¬ (8 ≤ v2w5) := fun q => c_11 ((iLE (a := 8) (b := v2w5) (by omega) (by omega)).mpr q)
        refine lv_aload_n hx hb dJ7_fill_53178_10 rfl (lv_at hl 2 rfl) ?_
        refine lv_iload_n hx hb dJ7_fill_53178_11 rfl (lv_at hl 1 rfl) ?_
        refine lv_iload_n hx hb dJ7_fill_53178_12 rfl (lv_at hl 3 rfl) ?_
        refine pg_iast hx hb hK hP hD hS ik1.1 0 hM_10 rfl (inbN v2w5 8 (by omega) (by omega)) dJ7_fill_53178_13 (fun H_14 locs hP hD hS => ?_)
        obtain ⟨M_15, eM_15⟩ : ∃ M1 : Hp, M1 = va_up M_8 k1 (.inl (cy 14, 8, .inl (upd gFw5 ((nI v2w5) : Int32).toNatClampNeg k2))) := ⟨_, rfl⟩
        have hP : va_P D vwCl ([] ++ va_pl L M_15) H_14 := by rw [eM_15]; exact hP
        have hD : va_D A ([] ++ va_pl L M_15) := by rw [eM_15]; exact hD
        have hW : WOK cy K L M_15 := by rw [eM_15]; exact hW.up_58 ik1 ⟨_, rfl⟩
        have hF : fr K L [58] M M_15 := by rw [eM_15]; exact hF.up ik1 (by decide)
        have hM_16 : M_15 k1 = .inl (cy 14, 8, .inl (upd gFw5 ((nI v2w5) : Int32).toNatClampNeg k2)) := by rw [eM_15]; exact va_up_self _ _ _
        obtain ⟨f_17, ef_17⟩ : ∃ f : Nat → Int32, f = upd gFw5 ((nI v2w5) : Int32).toNatClampNeg k2 := ⟨_, rfl⟩
        rw [← ef_17] at hM_16
        refine lv_iinc (v := (nI (v2w5 + 1))) (lv' := [(2, .int (nI (v2w5 + 1))), (3, .int 8), (0, .ref k1), (1, .int k2)]) hx hb dJ7_fill_53178_14 hl (k := 1) rfl (nI_1 v2w5) (by decide) rfl (fun ls hl => ?_)
        refine lv_goto (tgt := 5) hx hb dJ7_fill_53178_17 (by decide) ?_
        exact ih_3 (v2w5 + 1) f_17 M_15 H_14 _ _ (by omega) hM_16 (by omega) (by rw [ef_17]; exact fill0 hx_7 (nI_cl (by omega))) hW hF hP hD hS (lv_sub hl [1, 0, 2, 3] rfl)
  exact key_2 (8 - 0 + 1) 0 f1 M s.heap _ _ (by omega) hM1 (by omega) (fun i h => absurd h (Nat.not_lt_zero _)) hW hF hP hD hS (lv_sub hl [0, 1, 2, 3] rfl)
set_option maxHeartbeats 4000000 in
set_option maxRecDepth 100000 in
theorem e_mark (l : Launch) (D : va_G) (cy : Nat → ClassId) (K : Kp) (L : List Nat) (M : Hp) (sz : Nat) (oa : Nat) (k1 : Nat) (k2 : Nat) (k3 : Nat) (y0 : Nat) (y1 : Nat) (y2 : Int32) (hW : WOK cy K L M) (ia : isk K L oa 5 0) (ik1 : isk K L k1 2 0) (hk2 : k2 ≤ 8) (hk3 : k3 < 1000) (hob : (0 ≤ (cV 2 M k1 15).toInt ∧ (cV 2 M k1 15).toInt < 256)) (hMy : M oa = (b5_14 y0 y1 y2)) (hy0 : isk K L y0 58 8) (hy1 : isk K L y1 59 8) : Met l yX5_markOwners (wsM yX5_markOwners cX5_markOwners 5 none) ({ frames := 1, cells := 0, slots := 0, locals := 21 }) (va_Pc [.ref oa, .ref k1, .int (nI k2), .int (nI k3)] (PG D cy [] L M sz)) (va_Qv (fun (M9 : Hp) => WOK cy K L M9 ∧ fr K L [58] M M9 ∧ (MKF (cV 2 M k1 15) (nI k3) (IFc (M y0)) (IFc (M9 y0)) k2) ∧ (True)) (fun M9 t => PQ D [] L M9 (va_A ([] ++ va_pl L M) sz) t) (va_A ([] ++ va_pl L M) sz)) 0 0 (va_A ([] ++ va_pl L M) sz) := by
  refine Met.ofW (cc := cX5_markOwners) (maxL := 5) (ret := none) (by decide) rfl ?_
  intro p e s m args below meth c s₁ B hml hv
  obtain ⟨rfl, hsz, hP, hK, hD0, hN⟩ := hv
  have hx := B.exec
  have hb := B.bytes
  have hr := B.returns
  have hts := atoms_spec (ws := (wsM yX5_markOwners cX5_markOwners 5 none)) B.pre
  have hg : ∀ w ∈ lw_good, w.before _ s = true := fun w h => hts w (List.mem_cons_of_mem _ h)
  have hown : s.vm.findClass RX5 = some m.cls := findClass_of_methodNamed B.named
  have hlocks := B.notSynchronized
  subst hsz
  have hD := hD0.self (sz := s.heap.size)
  generalize hAe : va_A ([] ++ va_pl L M) s.heap.size = A at hD ⊢
  have hA : ∀ q : Nat, s.heap.size ≤ q → A q := fun q h => by rw [← hAe]; exact Or.inr h
  have hS : va_S A s.heap s.heap [] := va_S.rf
  have hl := lv_entry ([.ref oa, .ref k1, .int (nI k2), .int (nI k3)]) (n := 5) (Nat.le_of_ble_eq_true rfl)
  rw [lg_entry_eq]
  generalize (lg_sl ([.ref oa, .ref k1, .int (nI k2), .int (nI k3)]) ++ List.replicate (5 - (lg_sl ([.ref oa, .ref k1, .int (nI k2), .int (nI k3)])).length) Slot.unset).toArray = ls at hl ⊢
  refine W.nameQ (fun Q hQ => ?_)
  refine W.nameR (fun R hR => ?_)
  have hRf : 1 ≤ R.frames := by rw [hR]; exact Nat.le_of_ble_eq_true rfl
  have hRl : 21 ≤ R.locals := by rw [hR]; exact Nat.le_of_ble_eq_true rfl
  have hRc : 0 ≤ R.cells := by rw [hR]; exact Nat.le_of_ble_eq_true rfl
  have hRs : 0 ≤ R.slots := by rw [hR]; exact Nat.le_of_ble_eq_true rfl
  have hF : fr K L [58] M M := fr.rf
  have hl : lv_has ls 5 [(0, .ref oa), (1, .ref k1), (2, .int (nI k2)), (3, .int (nI k3))] := hl
  refine lv_iconst (v := 0) hx hb dX5_markOwners_0 (by decide) ?_
  refine lv_istore (lv' := [(4, .int 0), (0, .ref oa), (1, .ref k1), (2, .int (nI k2)), (3, .int (nI k3))]) hx hb dX5_markOwners_1 hl (by decide) rfl (fun ls hl => ?_)
  obtain ⟨f1, hM1⟩ := hW.open_58 hy0
  have key_2 : ∀ (fu_4 : Nat) (v4w5 : Nat) (gFw5 : Nat → Int32) (M_8 : Hp) (H_9 : Heap) (locs : List Loc) (ls : Array Slot), 8 - v4w5 < fu_4 → M_8 oa = (b5_14 y0 y1 y2) → M_8 y0 = .inl (cy 14, 8, .inl (gFw5)) → v4w5 ≤ k2 → MKF (cV 2 M k1 15) (nI k3) (IFc (M y0)) gFw5 v4w5 → WOK cy K L M_8 → fr K L [58] M M_8 → va_P D vwCl ([] ++ va_pl L M_8) H_9 → va_D A ([] ++ va_pl L M_8) → va_S A s.heap H_9 locs → lv_has ls 5 [(4, .int (nI v4w5)), (0, .ref oa), (1, .ref k1), (2, .int (nI k2)), (3, .int (nI k3))] → W p l e R s m ([.ref oa, .ref k1, .int (nI k2), .int (nI k3)] : List Value).toArray below meth c H_9 locs 0 0 Q (F0 m 3 ls []) := by
    intro fu_4
    induction fu_4 with
    | zero => intro v4w5 gFw5 M_8 H_9 locs ls h; exact absurd h (Nat.not_lt_zero _)
    | succ fu_4 ih_3 =>
      intro v4w5 gFw5 M_8 H_9 locs ls hfu hM_10 hM_11 hx_6 hx_7 hW hF hP hD hS hl
      refine lv_iload hx hb dX5_markOwners_3 (lv_at hl 0 rfl) ?_
      refine lv_iload_n hx hb dX5_markOwners_5 rfl (lv_at hl 3 rfl) ?_
      refine lv_icmp_ge (tgt := 49) hx hb dX5_markOwners_6 (by decide) (fun c_12 => ?_) (fun c_12 => ?_)
      · have hz := rfl (a := 0)
        have n_13 : k2 ≤ v4w5 := (iLE (a := k2) (b := v4w5) (by omega) (by omega)).mp c_12
        rw [hQ]
        exact W.vret hx hb hr (fun t ht hW9 => ⟨⟨M_8, rfl, ⟨hW, hF, (by rw [IFc_of hM_11]; have h9 := hx_7; rw [show v4w5 = k2 by omega] at h9; exact h9), trivial⟩, ⟨by rw [ht]; exact hP, hD⟩⟩, hS.F ht⟩) hS.2.2 dX5_markOwners_49
      · have hz := rfl (a := 0)
        have n_14 : ¬ (k2 ≤ v4w5) := fun q => c_12 ((iLE (a := k2) (b := v4w5) (by omega) (by omega)).mpr q)
        refine lv_iload hx hb dX5_markOwners_9 (lv_at hl 0 rfl) ?_
        refine lv_bipush (v := 8) hx hb dX5_markOwners_11 (by decide) ?_
        refine lv_icmp_ge (tgt := 49) hx hb dX5_markOwners_13 (by decide) (fun c_15 => ?_) (fun c_15 => ?_)
        · have hz := rfl (a := 0)
          have n_16 : 8 ≤ v4w5 := (iLE (a := 8) (b := v4w5) (by omega) (by omega)).mp c_15
          rw [hQ]
          exact W.vret hx hb hr (fun t ht hW9 => ⟨⟨M_8, rfl, ⟨hW, hF, (by rw [IFc_of hM_11]; have h9 := hx_7; rw [show v4w5 = k2 by omega] at h9; exact h9), trivial⟩, ⟨by rw [ht]; exact hP, hD⟩⟩, hS.F ht⟩) hS.2.2 dX5_markOwners_49
        · have hz := rfl (a := 0)
          have n_17 : ¬ (8 ≤ v4w5) := fun q => c_15 ((iLE (a := 8) (b := v4w5) (by omega) (by omega)).mpr q)
          refine lv_aload_n hx hb dX5_markOwners_16 rfl (lv_at hl 1 rfl) ?_
          have hFq : fr K L [58] M M_8 := hF
          refine pg_get (D := D) (ci := 5) (v := .ref y0) (C := RX5) (T := TX5) (N := 3) hx hb hg inG5 hown hK hP ia.1 hM_10 rfl 0 (by decide) (hg _ wd_298) (fun _ h9 => h9) rfl dX5_markOwners_17 ?_
          refine lv_iload hx hb dX5_markOwners_20 (lv_at hl 0 rfl) ?_
          refine pg_iald hx hb hK hP hy0.1 0 hM_11 rfl (inbN v4w5 8 (by omega) (by omega)) dX5_markOwners_22 ?_
          refine lv_topi (fun f_18 ef_18 => ?_)
          refine lv_if_ne (tgt := 43) hx hb dX5_markOwners_23 (by decide) (fun c_19 => ?_) (fun c_19 => ?_)
          · have hz := rfl (a := 0)
            refine lv_iinc (v := (nI (v4w5 + 1))) (lv' := [(4, .int (nI (v4w5 + 1))), (0, .ref oa), (1, .ref k1), (2, .int (nI k2)), (3, .int (nI k3))]) hx hb dX5_markOwners_43 hl (k := 0) rfl (nI_1 v4w5) (by decide) rfl (fun ls hl => ?_)
            refine lv_goto (tgt := 3) hx hb dX5_markOwners_46 (by decide) ?_
            exact ih_3 (v4w5 + 1) gFw5 M_8 H_9 _ _ (by omega) hM_10 hM_11 (by omega) (MKF.no hx_7 (fun q9 => c_19 (by rw [ef_18, nI_cl (by omega), MKF.at hx_7 (by omega) (Nat.le_refl _)]; exact q9.1))) hW hF hP hD hS (lv_sub hl [0, 1, 2, 3, 4] rfl)
          · have hz := rfl (a := 0)
            refine lv_aload_n hx hb dX5_markOwners_26 rfl (lv_at hl 2 rfl) ?_
            refine lv_iload hx hb dX5_markOwners_27 (lv_at hl 0 rfl) ?_
            obtain ⟨v20_0, v20_1, v20_2, v20_3, v20_4, v20_5, v20_6, v20_7, v20_8, v20_9, v20_10, v20_11, v20_12, v20_13, v20_14, v20_15, v20_16, v20_17, v20_18, v20_19, hM20, h20_3, h20_4, h20_5, h20_6, h20_7, h20_8, h20_9, h20_10, h20_11, h20_12, h20_13, h20_16, h20_17, h20_18, h20_19⟩ := hW.open_2 ik1
            have hPc : va_P D vwCl ([] ++ va_pl L M_8) H_9 := hP
            have hDc : va_D A ([] ++ va_pl L M_8) := hD
            have hFc : ∀ q, va_A ([] ++ va_pl L M_8) H_9.size q → A q := pg_free hDc hS hA
            refine va_calli (va_runV (As := [.int (nI v4w5)]) (rest := []) ⟨hx, hb, hml, hown, hg⟩ (e_isOwnedBy l D cy K L M_8 H_9.size k1 v4w5  hW ik1 (by omega) (by rw [cV_eq (hF.at ik1 (by decide))]; exact hob)) (cwV 1 hg (gV wd_299 wd_300 wd_301 wd_57 wd_302) rfl rfl rfl (by decide +kernel) ⟨(Nat.le_trans (Nat.le_of_ble_eq_true rfl) hRf), (Nat.le_trans (Nat.le_of_ble_eq_true rfl) hRl)⟩) ⟨PG.blind, pg_recv hK hP ik1.1 hM20 rfl, fun U hU hW => ⟨rfl, PG.at hPc hK hDc hN hU hW⟩⟩ rfl rfl hl.1 rfl (lv_room (Nat.le_of_ble_eq_true rfl)) dX5_markOwners_29 ⟨(Nat.le_trans (Nat.le_of_ble_eq_true rfl) hRc), (Nat.le_trans (Nat.le_of_ble_eq_true rfl) hRs)⟩) hS (fun q _ h => hFc q h) hFc (fun r_22 M_23 t H_21 locs ht hvm hw hB hz1 hk1 hS => ?_)
            have hp_24 := hw
            obtain ⟨hP1, hD1⟩ := hB
            rw [ht] at hP1
            have hP : va_P D vwCl ([] ++ va_pl L M_8) H_21 := hP1
            have hD : va_D A ([] ++ va_pl L M_8) := hD1.mono hFc
            rcases hp_24 with ⟨rfl, c_25⟩ | ⟨rfl, c_26⟩
            · have hz := rfl (a := 0)
              refine lv_if_eq (tgt := 43) hx hb dX5_markOwners_32 (by decide) (fun c_27 => absurd c_27 (by decide)) (fun _ => ?_)
              refine lv_aload_n hx hb dX5_markOwners_35 rfl (lv_at hl 1 rfl) ?_
              refine pg_get (D := D) (ci := 5) (v := .ref y0) (C := RX5) (T := TX5) (N := 3) hx hb hg inG5 hown hK hP ia.1 hM_10 rfl 0 (by decide) (hg _ wd_298) (fun _ h9 => h9) rfl dX5_markOwners_36 ?_
              refine lv_iload hx hb dX5_markOwners_39 (lv_at hl 0 rfl) ?_
              refine lv_iload_n hx hb dX5_markOwners_41 rfl (lv_at hl 4 rfl) ?_
              refine pg_iast hx hb hK hP hD hS hy0.1 0 hM_11 rfl (inbN v4w5 8 (by omega) (by omega)) dX5_markOwners_42 (fun H_28 locs hP hD hS => ?_)
              obtain ⟨M_29, eM_29⟩ : ∃ M1 : Hp, M1 = va_up M_8 y0 (.inl (cy 14, 8, .inl (upd gFw5 ((nI v4w5) : Int32).toNatClampNeg (nI k3)))) := ⟨_, rfl⟩
              have hP : va_P D vwCl ([] ++ va_pl L M_29) H_28 := by rw [eM_29]; exact hP
              have hD : va_D A ([] ++ va_pl L M_29) := by rw [eM_29]; exact hD
              have hW : WOK cy K L M_29 := by rw [eM_29]; exact hW.up_58 hy0 ⟨_, rfl⟩
              have hF : fr K L [58] M M_29 := by rw [eM_29]; exact hF.up hy0 (by decide)
              have hM_30 : M_29 y0 = .inl (cy 14, 8, .inl (upd gFw5 ((nI v4w5) : Int32).toNatClampNeg (nI k3))) := by rw [eM_29]; exact va_up_self _ _ _
              have hM_31 : M_29 oa = (b5_14 y0 y1 y2) := by rw [eM_29, va_up_ne _ _ (ia.neT hy0 (by decide))]; exact hM_10
              have hM_32 : M_29 k1 = (b2_2 v20_0 v20_1 v20_2 v20_3 (nI v20_4) (nI v20_5) v20_6 v20_7 v20_8 (nI v20_9) v20_10 (nI v20_11) v20_12 v20_13 v20_14 v20_15 v20_16 v20_17 v20_18 v20_19) := by rw [eM_29, va_up_ne _ _ (ik1.neT hy0 (by decide))]; exact hM20
              obtain ⟨f_33, ef_33⟩ : ∃ f : Nat → Int32, f = upd gFw5 ((nI v4w5) : Int32).toNatClampNeg (nI k3) := ⟨_, rfl⟩
              rw [← ef_33] at hM_30
              refine lv_iinc (v := (nI (v4w5 + 1))) (lv' := [(4, .int (nI (v4w5 + 1))), (0, .ref oa), (1, .ref k1), (2, .int (nI k2)), (3, .int (nI k3))]) hx hb dX5_markOwners_43 hl (k := 0) rfl (nI_1 v4w5) (by decide) rfl (fun ls hl => ?_)
              refine lv_goto (tgt := 3) hx hb dX5_markOwners_46 (by decide) ?_
              exact ih_3 (v4w5 + 1) f_33 M_29 H_28 _ _ (by omega) hM_31 hM_30 (by omega) (by rw [ef_33]; exact MKF.yes hx_7 (nI_cl (by omega)) (by rw [← MKF.at hx_7 (by omega) (Nat.le_refl _), ← nI_cl (t := v4w5) (by omega), ← ef_18]; exact c_19) (by have h9 := c_25; rw [cV_eq (hFq.at ik1 (by decide))] at h9; exact h9)) hW hF hP hD hS (lv_sub hl [0, 1, 2, 3, 4] rfl)
            · have hz := rfl (a := 0)
              refine lv_if_eq (tgt := 43) hx hb dX5_markOwners_32 (by decide) (fun _ => ?_) (fun c_34 => absurd c_34 (by decide))
              refine lv_iinc (v := (nI (v4w5 + 1))) (lv' := [(4, .int (nI (v4w5 + 1))), (0, .ref oa), (1, .ref k1), (2, .int (nI k2)), (3, .int (nI k3))]) hx hb dX5_markOwners_43 hl (k := 0) rfl (nI_1 v4w5) (by decide) rfl (fun ls hl => ?_)
              refine lv_goto (tgt := 3) hx hb dX5_markOwners_46 (by decide) ?_
              exact ih_3 (v4w5 + 1) gFw5 M_8 H_21 _ _ (by omega) hM_10 hM_11 (by omega) (MKF.no hx_7 (fun q9 => c_26 (by rw [cV_eq (hF.at ik1 (by decide))]; exact q9.2))) hW hF hP hD hS (lv_sub hl [0, 1, 2, 3, 4] rfl)
  exact key_2 (8 - 0 + 1) 0 f1 M s.heap _ _ (by omega) hMy hM1 (by omega) (by rw [IFc_of hM1]; exact MKF.fst _ _ _) hW hF hP hD hS (lv_sub hl [0, 1, 2, 3, 4] rfl)
set_option maxHeartbeats 4000000 in
set_option maxRecDepth 100000 in
theorem e_measure (l : Launch) (D : va_G) (cy : Nat → ClassId) (K : Kp) (L : List Nat) (M : Hp) (sz : Nat) (oa : Nat) (k1 : Nat) (k2 : Nat) (k3 : Nat) (ow : Nat → Nat → Prop) (y0 : Nat) (y1 : Nat) (y2 : Int32) (hW : WOK cy K L M) (ia : isk K L oa 5 0) (ik1 : isk K L k1 17 8) (hk2 : k2 ≤ 8) (hk3 : k3 < 8) (hOW : OWQ k1 k2 ow M) (hMy : M oa = (b5_14 y0 y1 y2)) (hy0 : isk K L y0 58 8) (hy1 : isk K L y1 59 8) : Met l yX5_measure (wsM yX5_measure cX5_measure 7 none) ({ frames := 2, cells := 0, slots := 0, locals := 45 }) (va_Pc [.ref oa, .ref k1, .int (nI k2), .int (nI k3)] (PG D cy [] L M sz)) (va_Qv (fun (M9 : Hp) => WOK cy K L M9 ∧ fr K L [58] M M9 ∧ (∃ D9, LKf (IFc (M9 y0)) D9 ∧ CI ow k2 k3 D9 8 0) ∧ (True)) (fun M9 t => PQ D [] L M9 (va_A ([] ++ va_pl L M) sz) t) (va_A ([] ++ va_pl L M) sz)) 0 0 (va_A ([] ++ va_pl L M) sz) := by
  refine Met.ofW (cc := cX5_measure) (maxL := 7) (ret := none) (by decide) rfl ?_
  intro p e s m args below meth c s₁ B hml hv
  obtain ⟨rfl, hsz, hP, hK, hD0, hN⟩ := hv
  have hx := B.exec
  have hb := B.bytes
  have hr := B.returns
  have hts := atoms_spec (ws := (wsM yX5_measure cX5_measure 7 none)) B.pre
  have hg : ∀ w ∈ lw_good, w.before _ s = true := fun w h => hts w (List.mem_cons_of_mem _ h)
  have hown : s.vm.findClass RX5 = some m.cls := findClass_of_methodNamed B.named
  have hlocks := B.notSynchronized
  subst hsz
  have hD := hD0.self (sz := s.heap.size)
  generalize hAe : va_A ([] ++ va_pl L M) s.heap.size = A at hD ⊢
  have hA : ∀ q : Nat, s.heap.size ≤ q → A q := fun q h => by rw [← hAe]; exact Or.inr h
  have hS : va_S A s.heap s.heap [] := va_S.rf
  have hl := lv_entry ([.ref oa, .ref k1, .int (nI k2), .int (nI k3)]) (n := 7) (Nat.le_of_ble_eq_true rfl)
  rw [lg_entry_eq]
  generalize (lg_sl ([.ref oa, .ref k1, .int (nI k2), .int (nI k3)]) ++ List.replicate (7 - (lg_sl ([.ref oa, .ref k1, .int (nI k2), .int (nI k3)])).length) Slot.unset).toArray = ls at hl ⊢
  refine W.nameQ (fun Q hQ => ?_)
  refine W.nameR (fun R hR => ?_)
  have hRf : 2 ≤ R.frames := by rw [hR]; exact Nat.le_of_ble_eq_true rfl
  have hRl : 45 ≤ R.locals := by rw [hR]; exact Nat.le_of_ble_eq_true rfl
  have hRc : 0 ≤ R.cells := by rw [hR]; exact Nat.le_of_ble_eq_true rfl
  have hRs : 0 ≤ R.slots := by rw [hR]; exact Nat.le_of_ble_eq_true rfl
  have hF : fr K L [58] M M := fr.rf
  have hl : lv_has ls 7 [(0, .ref oa), (1, .ref k1), (2, .int (nI k2)), (3, .int (nI k3))] := hl
  refine lv_aload_n hx hb dX5_measure_0 rfl (lv_at hl 0 rfl) ?_
  refine pg_get (D := D) (ci := 5) (v := .ref y0) (C := RX5) (T := TX5) (N := 3) hx hb hg inG5 hown hK hP ia.1 hMy rfl 0 (by decide) (hg _ wd_298) (fun _ h9 => h9) rfl dX5_measure_1 ?_
  refine lv_iconst (v := 0) hx hb dX5_measure_4 (by decide) ?_
  have hPc : va_P D vwCl ([] ++ va_pl L M) s.heap := hP
  have hDc : va_D A ([] ++ va_pl L M) := hD
  have hFc : ∀ q, va_A ([] ++ va_pl L M) s.heap.size q → A q := pg_free hDc hS hA
  refine va_callv (va_runS (As := [.ref y0, .int 0]) (rest := []) ⟨hx, hb, hml, hown, hg⟩ (e_fill58 l D cy K L M s.heap.size y0 0  hW hy0) (va_cwS 2 hg (gS wd_303 wd_304 wd_159 wd_305) rfl rfl rfl (by decide +kernel) ⟨(Nat.le_trans (Nat.le_of_ble_eq_true rfl) hRf), (Nat.le_trans (Nat.le_of_ble_eq_true rfl) hRl)⟩) ⟨PG.blind, fun U hU hW => ⟨rfl, PG.at hPc hK hDc hN hU hW⟩⟩ rfl rfl hl.1 rfl (lv_room (Nat.le_of_ble_eq_true rfl)) dX5_measure_5 ⟨(Nat.le_trans (Nat.le_of_ble_eq_true rfl) hRc), (Nat.le_trans (Nat.le_of_ble_eq_true rfl) hRs)⟩) hS (fun q _ h => hFc q h) hFc (fun M_3 t H_1 locs ht hvm hw hB hz1 hk1 hS => ?_)
  obtain ⟨hW, hF2, hVP, hp_4⟩ := hw
  obtain ⟨hP1, hD1⟩ := hB
  rw [ht] at hP1
  have hP : va_P D vwCl ([] ++ va_pl L M_3) H_1 := hP1
  have hD : va_D A ([] ++ va_pl L M_3) := hD1.mono hFc
  have hM_5 : M_3 oa = (b5_14 y0 y1 y2) := (hF2.at ia (by decide)).trans hMy
  have hF : fr K L [58] M M_3 := hF.tr hF2 (by decide)
  have hfl := hVP
  refine lv_aload_n hx hb dX5_measure_8 rfl (lv_at hl 0 rfl) ?_
  refine pg_get (D := D) (ci := 5) (v := .ref y0) (C := RX5) (T := TX5) (N := 3) hx hb hg inG5 hown hK hP ia.1 hM_5 rfl 0 (by decide) (hg _ wd_298) (fun _ h9 => h9) rfl dX5_measure_9 ?_
  refine lv_iload_n hx hb dX5_measure_12 rfl (lv_at hl 3 rfl) ?_
  refine lv_iconst (v := 1) hx hb dX5_measure_13 (by decide) ?_
  obtain ⟨f6, hM6⟩ := hW.open_58 hy0
  have hfl2 : ∀ i : Nat, i < 8 → f6 i = 0 := fun i hi => by have h9 := hfl i hi; rw [IFc_of hM6] at h9; exact h9
  refine pg_iast hx hb hK hP hD hS hy0.1 0 hM6 rfl (inbN k3 8 (by omega) (by omega)) dX5_measure_14 (fun H_7 locs hP hD hS => ?_)
  obtain ⟨M_8, eM_8⟩ : ∃ M1 : Hp, M1 = va_up M_3 y0 (.inl (cy 14, 8, .inl (upd f6 ((nI k3) : Int32).toNatClampNeg 1))) := ⟨_, rfl⟩
  have hP : va_P D vwCl ([] ++ va_pl L M_8) H_7 := by rw [eM_8]; exact hP
  have hD : va_D A ([] ++ va_pl L M_8) := by rw [eM_8]; exact hD
  have hW : WOK cy K L M_8 := by rw [eM_8]; exact hW.up_58 hy0 ⟨_, rfl⟩
  have hF : fr K L [58] M M_8 := by rw [eM_8]; exact hF.up hy0 (by decide)
  have hM_9 : M_8 y0 = .inl (cy 14, 8, .inl (upd f6 ((nI k3) : Int32).toNatClampNeg 1)) := by rw [eM_8]; exact va_up_self _ _ _
  have hM_10 : M_8 oa = (b5_14 y0 y1 y2) := by rw [eM_8, va_up_ne _ _ (ia.neT hy0 (by decide))]; exact hM_5
  obtain ⟨f_11, ef_11⟩ : ∃ f : Nat → Int32, f = upd f6 ((nI k3) : Int32).toNatClampNeg 1 := ⟨_, rfl⟩
  rw [← ef_11] at hM_9
  have hLK0 : LKf f_11 (va_up (fun _ => 0) k3 1) := by rw [ef_11]; exact LKf.fst hfl2 (nI_cl (by omega))
  refine lv_iconst (v := 1) hx hb dX5_measure_15 (by decide) ?_
  refine lv_istore (lv' := [(4, .int 1), (0, .ref oa), (1, .ref k1), (2, .int (nI k2)), (3, .int (nI k3))]) hx hb dX5_measure_16 hl (by decide) rfl (fun ls hl => ?_)
  have key_12 : ∀ (fu_14 : Nat) (v4w15 : Nat) (gFw15 : Nat → Int32) (gDw15 : Nat → Nat) (M_20 : Hp) (H_21 : Heap) (locs : List Loc) (ls : Array Slot), 8 - v4w15 < fu_14 → M_20 oa = (b5_14 y0 y1 y2) → M_20 y0 = .inl (cy 14, 8, .inl (gFw15)) → 1 ≤ v4w15 → v4w15 ≤ 8 → LKf gFw15 gDw15 → CI ow k2 k3 gDw15 v4w15 0 → WOK cy K L M_20 → fr K L [58] M M_20 → va_P D vwCl ([] ++ va_pl L M_20) H_21 → va_D A ([] ++ va_pl L M_20) → va_S A s.heap H_21 locs → lv_has ls 7 [(4, .int (nI v4w15)), (0, .ref oa), (1, .ref k1), (2, .int (nI k2)), (3, .int (nI k3))] → W p l e R s m ([.ref oa, .ref k1, .int (nI k2), .int (nI k3)] : List Value).toArray below meth c H_21 locs 0 0 Q (F0 m 18 ls []) := by
    intro fu_14
    induction fu_14 with
    | zero => intro v4w15 gFw15 gDw15 M_20 H_21 locs ls h; exact absurd h (Nat.not_lt_zero _)
    | succ fu_14 ih_13 =>
      intro v4w15 gFw15 gDw15 M_20 H_21 locs ls hfu hM_22 hM_23 hx_16 hx_17 hx_18 hx_19 hW hF hP hD hS hl
      refine lv_iload hx hb dX5_measure_18 (lv_at hl 0 rfl) ?_
      refine lv_bipush (v := 8) hx hb dX5_measure_20 (by decide) ?_
      refine lv_icmp_ge (tgt := 87) hx hb dX5_measure_22 (by decide) (fun c_24 => ?_) (fun c_24 => ?_)
      · have hz := rfl (a := 0)
        have n_25 : 8 ≤ v4w15 := (iLE (a := 8) (b := v4w15) (by omega) (by omega)).mp c_24
        rw [hQ]
        exact W.vret hx hb hr (fun t ht hW9 => ⟨⟨M_20, rfl, ⟨hW, hF, ⟨gDw15, (by rw [IFc_of hM_23]; exact hx_18), (by have h9 := hx_19; rw [show v4w15 = 8 by omega] at h9; exact h9)⟩, trivial⟩, ⟨by rw [ht]; exact hP, hD⟩⟩, hS.F ht⟩) hS.2.2 dX5_measure_87
      · have hz := rfl (a := 0)
        have n_26 : ¬ (8 ≤ v4w15) := fun q => c_24 ((iLE (a := 8) (b := v4w15) (by omega) (by omega)).mpr q)
        refine lv_iconst (v := 0) hx hb dX5_measure_25 (by decide) ?_
        refine lv_istore (lv' := [(5, .int 0), (4, .int (nI v4w15)), (0, .ref oa), (1, .ref k1), (2, .int (nI k2)), (3, .int (nI k3))]) hx hb dX5_measure_26 hl (by decide) rfl (fun ls hl => ?_)
        have key_27 : ∀ (fu_29 : Nat) (v5w30 : Nat) (gFw30 : Nat → Int32) (gDw30 : Nat → Nat) (M_34 : Hp) (H_35 : Heap) (locs : List Loc) (ls : Array Slot), 8 - v5w30 < fu_29 → M_34 oa = (b5_14 y0 y1 y2) → M_34 y0 = .inl (cy 14, 8, .inl (gFw30)) → v5w30 ≤ k2 → LKf gFw30 gDw30 → CI ow k2 k3 gDw30 v4w15 v5w30 → WOK cy K L M_34 → fr K L [58] M M_34 → va_P D vwCl ([] ++ va_pl L M_34) H_35 → va_D A ([] ++ va_pl L M_34) → va_S A s.heap H_35 locs → lv_has ls 7 [(5, .int (nI v5w30)), (4, .int (nI v4w15)), (0, .ref oa), (1, .ref k1), (2, .int (nI k2)), (3, .int (nI k3))] → W p l e R s m ([.ref oa, .ref k1, .int (nI k2), .int (nI k3)] : List Value).toArray below meth c H_35 locs 0 0 Q (F0 m 28 ls []) := by
          intro fu_29
          induction fu_29 with
          | zero => intro v5w30 gFw30 gDw30 M_34 H_35 locs ls h; exact absurd h (Nat.not_lt_zero _)
          | succ fu_29 ih_28 =>
            intro v5w30 gFw30 gDw30 M_34 H_35 locs ls hfu hM_36 hM_37 hx_31 hx_32 hx_33 hW hF hP hD hS hl
            refine lv_iload hx hb dX5_measure_28 (lv_at hl 0 rfl) ?_
            refine lv_iload_n hx hb dX5_measure_30 rfl (lv_at hl 4 rfl) ?_
            refine lv_icmp_ge (tgt := 81) hx hb dX5_measure_31 (by decide) (fun c_38 => ?_) (fun c_38 => ?_)
            · have hz := rfl (a := 0)
              have n_39 : k2 ≤ v5w30 := (iLE (a := k2) (b := v5w30) (by omega) (by omega)).mp c_38
              refine lv_iinc (v := (nI (v4w15 + 1))) (lv' := [(4, .int (nI (v4w15 + 1))), (5, .int (nI v5w30)), (0, .ref oa), (1, .ref k1), (2, .int (nI k2)), (3, .int (nI k3))]) hx hb dX5_measure_81 hl (k := 1) rfl (nI_1 v4w15) (by decide) rfl (fun ls hl => ?_)
              refine lv_goto (tgt := 18) hx hb dX5_measure_84 (by decide) ?_
              exact ih_13 (v4w15 + 1) gFw30 gDw30 M_34 H_35 _ _ (by omega) hM_36 hM_37 (by omega) (by omega) hx_32 (CI.nxt hx_33 (by omega)) hW hF hP hD hS (lv_sub hl [0, 2, 3, 4, 5] rfl)
            · have hz := rfl (a := 0)
              have n_40 : ¬ (k2 ≤ v5w30) := fun q => c_38 ((iLE (a := k2) (b := v5w30) (by omega) (by omega)).mpr q)
              refine lv_iload hx hb dX5_measure_34 (lv_at hl 0 rfl) ?_
              refine lv_bipush (v := 8) hx hb dX5_measure_36 (by decide) ?_
              refine lv_icmp_ge (tgt := 81) hx hb dX5_measure_38 (by decide) (fun c_41 => ?_) (fun c_41 => ?_)
              · have hz := rfl (a := 0)
                have n_42 : 8 ≤ v5w30 := (iLE (a := 8) (b := v5w30) (by omega) (by omega)).mp c_41
                refine lv_iinc (v := (nI (v4w15 + 1))) (lv' := [(4, .int (nI (v4w15 + 1))), (5, .int (nI v5w30)), (0, .ref oa), (1, .ref k1), (2, .int (nI k2)), (3, .int (nI k3))]) hx hb dX5_measure_81 hl (k := 1) rfl (nI_1 v4w15) (by decide) rfl (fun ls hl => ?_)
                refine lv_goto (tgt := 18) hx hb dX5_measure_84 (by decide) ?_
                exact ih_13 (v4w15 + 1) gFw30 gDw30 M_34 H_35 _ _ (by omega) hM_36 hM_37 (by omega) (by omega) hx_32 (CI.nxt hx_33 (by omega)) hW hF hP hD hS (lv_sub hl [0, 2, 3, 4, 5] rfl)
              · have hz := rfl (a := 0)
                have n_43 : ¬ (8 ≤ v5w30) := fun q => c_41 ((iLE (a := 8) (b := v5w30) (by omega) (by omega)).mpr q)
                refine lv_aload_n hx hb dX5_measure_41 rfl (lv_at hl 3 rfl) ?_
                refine lv_iload hx hb dX5_measure_42 (lv_at hl 0 rfl) ?_
                obtain ⟨f44, hM44, hf44⟩ := hW.open_17 ik1
                have hi_45 : vp_in (nI v5w30) 8 := (inbN v5w30 8 (by omega) (by omega))
                refine pg_aldq hx hb hK hP ik1.1 3 hM44 rfl hi_45 dX5_measure_44 ?_
                obtain ⟨q_46, ho_47⟩ : ∃ q : Option Nat, q = f44 ((nI v5w30) : Int32).toNatClampNeg := ⟨_, rfl⟩
                rw [← ho_47]
                have hq_48 : iskN K L q_46 2 0 := by rw [ho_47]; exact hf44 _ (vp_lt hi_45)
                rcases q_46 with _ | bq_46
                · have hz := rfl (a := 0)
                  refine lv_astoreN (lv' := [(6, .null), (5, .int (nI v5w30)), (4, .int (nI v4w15)), (0, .ref oa), (1, .ref k1), (2, .int (nI k2)), (3, .int (nI k3))]) hx hb dX5_measure_45 hl (by decide) rfl (fun ls hl => ?_)
                  refine lv_aloadN hx hb dX5_measure_47 (lv_at hl 0 rfl) ?_
                  refine lv_ifnullN (tgt := 75) hx hb dX5_measure_49 (by decide) ?_
                  obtain ⟨h9, e9, _⟩ := hOW v5w30 (by omega)
                  have hbad : False := by rw [← hF.at ik1 (by decide), RFc_of hM44] at e9; have h8 := ho_47; rw [nI_cl (by omega), e9] at h8; cases h8
                  refine lv_iinc (v := (nI (v5w30 + 1))) (lv' := [(5, .int (nI (v5w30 + 1))), (6, .null), (4, .int (nI v4w15)), (0, .ref oa), (1, .ref k1), (2, .int (nI k2)), (3, .int (nI k3))]) hx hb dX5_measure_75 hl (k := 1) rfl (nI_1 v5w30) (by decide) rfl (fun ls hl => ?_)
                  refine lv_goto (tgt := 28) hx hb dX5_measure_78 (by decide) ?_
                  exact ih_28 (v5w30 + 1) gFw30 gDw30 M_34 H_35 _ _ (by omega) hM_36 hM_37 (by omega) hx_32 hbad.elim hW hF hP hD hS (lv_sub hl [0, 2, 3, 4, 5, 6] rfl)
                · have hb_49 := hq_48 bq_46 rfl
                  refine lv_astore (lv' := [(6, .ref bq_46), (5, .int (nI v5w30)), (4, .int (nI v4w15)), (0, .ref oa), (1, .ref k1), (2, .int (nI k2)), (3, .int (nI k3))]) hx hb dX5_measure_45 hl (by decide) rfl (fun ls hl => ?_)
                  refine lv_aload hx hb dX5_measure_47 (lv_at hl 0 rfl) ?_
                  refine lv_ifnull hx hb dX5_measure_49 ?_
                  refine lv_aload_n hx hb dX5_measure_52 rfl (lv_at hl 3 rfl) ?_
                  refine pg_get (D := D) (ci := 5) (v := .ref y0) (C := RX5) (T := TX5) (N := 3) hx hb hg inG5 hown hK hP ia.1 hM_36 rfl 0 (by decide) (hg _ wd_298) (fun _ h9 => h9) rfl dX5_measure_53 ?_
                  refine lv_iload hx hb dX5_measure_56 (lv_at hl 1 rfl) ?_
                  refine pg_iald hx hb hK hP hy0.1 0 hM_37 rfl (inbN v5w30 8 (by omega) (by omega)) dX5_measure_58 ?_
                  refine lv_topi (fun f_50 ef_50 => ?_)
                  refine lv_iload hx hb dX5_measure_59 (lv_at hl 2 rfl) ?_
                  refine lv_icmp_ne (tgt := 75) hx hb dX5_measure_61 (by decide) (fun c_51 => ?_) (fun c_51 => ?_)
                  · have hz := rfl (a := 0)
                    refine lv_iinc (v := (nI (v5w30 + 1))) (lv' := [(5, .int (nI (v5w30 + 1))), (6, .ref bq_46), (4, .int (nI v4w15)), (0, .ref oa), (1, .ref k1), (2, .int (nI k2)), (3, .int (nI k3))]) hx hb dX5_measure_75 hl (k := 1) rfl (nI_1 v5w30) (by decide) rfl (fun ls hl => ?_)
                    refine lv_goto (tgt := 28) hx hb dX5_measure_78 (by decide) ?_
                    exact ih_28 (v5w30 + 1) gFw30 gDw30 M_34 H_35 _ _ (by omega) hM_36 hM_37 (by omega) hx_32 (CI.no hx_33 (fun q9 => c_51 (by rw [ef_50, nI_cl (by omega), hx_32 v5w30 (by omega), q9]))) hW hF hP hD hS (lv_sub hl [0, 2, 3, 4, 5, 6] rfl)
                  · have hz := rfl (a := 0)
                    obtain ⟨h9, e9, g90, g91, g92⟩ := hOW v5w30 (by omega)
                    have hbq : h9 = bq_46 := by rw [← hF.at ik1 (by decide), RFc_of hM44] at e9; have h8 := (Eq.symm ho_47); rw [nI_cl (by omega)] at h8; exact Option.some.inj (e9.symm.trans h8)
                    rw [hbq] at g90 g91 g92
                    have hcb : cV 2 M_34 bq_46 15 = cV 2 M bq_46 15 := cV_eq (hF.at hb_49 (by decide))
                    have hobc : 0 ≤ (cV 2 M_34 bq_46 15).toInt ∧ (cV 2 M_34 bq_46 15).toInt < 256 := by rw [hcb]; exact ⟨g90, g91⟩
                    have hw9 : ∀ a, a < 8 → (BT (cV 2 M_34 bq_46 15) a ↔ ow a v5w30) := by rw [hcb]; exact g92
                    have hDk := hx_33.1 v5w30 (by omega)
                    have hDs : gDw30 v5w30 = v4w15 := (iEQ (a := gDw30 v5w30) (b := v4w15) (by omega) (by omega)).mp (by rw [← hx_32 v5w30 (by omega), ← nI_cl (t := v5w30) (by omega), ← ef_50]; exact c_51)
                    refine lv_aload_n hx hb dX5_measure_64 rfl (lv_at hl 3 rfl) ?_
                    refine lv_aload hx hb dX5_measure_65 (lv_at hl 0 rfl) ?_
                    refine lv_iload_n hx hb dX5_measure_67 rfl (lv_at hl 5 rfl) ?_
                    refine lv_iload hx hb dX5_measure_68 (lv_at hl 2 rfl) ?_
                    refine lv_iconst (v := 1) hx hb dX5_measure_70 (by decide) ?_
                    refine lv_iadd hx hb dX5_measure_71 ?_
                    refine lv_topi (fun f_52 ef_52 => ?_)
                    obtain rfl : f_52 = (nI (v4w15 + 1)) := ef_52.trans (nI_add v4w15 1)
                    have hPc : va_P D vwCl ([] ++ va_pl L M_34) H_35 := hP
                    have hDc : va_D A ([] ++ va_pl L M_34) := hD
                    have hFc : ∀ q, va_A ([] ++ va_pl L M_34) H_35.size q → A q := pg_free hDc hS hA
                    refine va_callv (va_runV (As := [.ref bq_46, .int (nI k2), .int (nI (v4w15 + 1))]) (rest := []) ⟨hx, hb, hml, hown, hg⟩ (e_mark l D cy K L M_34 H_35.size oa bq_46 k2 (v4w15 + 1) y0 y1 y2 hW ia hb_49 hk2 (by omega) hobc hM_36 hy0 hy1) (cwV 3 hg (gV wd_306 wd_307 wd_308 wd_309 wd_310) rfl rfl rfl (by decide +kernel) ⟨(Nat.le_trans (Nat.le_of_ble_eq_true rfl) hRf), (Nat.le_trans (Nat.le_of_ble_eq_true rfl) hRl)⟩) ⟨PG.blind, pg_recv hK hP ia.1 hM_36 rfl, fun U hU hW => ⟨rfl, PG.at hPc hK hDc hN hU hW⟩⟩ rfl rfl hl.1 rfl (lv_room (Nat.le_of_ble_eq_true rfl)) dX5_measure_72 ⟨(Nat.le_trans (Nat.le_of_ble_eq_true rfl) hRc), (Nat.le_trans (Nat.le_of_ble_eq_true rfl) hRs)⟩) hS (fun q _ h => hFc q h) hFc (fun M_55 t H_53 locs ht hvm hw hB hz1 hk1 hS => ?_)
                    obtain ⟨hW, hF2, hVP, hp_56⟩ := hw
                    obtain ⟨hP1, hD1⟩ := hB
                    rw [ht] at hP1
                    have hP : va_P D vwCl ([] ++ va_pl L M_55) H_53 := hP1
                    have hD : va_D A ([] ++ va_pl L M_55) := hD1.mono hFc
                    have hM_57 : M_55 oa = (b5_14 y0 y1 y2) := (hF2.at ia (by decide)).trans hM_36
                    have hM_58 : M_55 k1 = .inl (cy 17, 8, .inr (.inr (.inr (.inr (f44))))) := (hF2.at ik1 (by decide)).trans hM44
                    have hF : fr K L [58] M M_55 := hF.tr hF2 (by decide)
                    have hmk := hVP
                    rw [IFc_of hM_37] at hmk
                    obtain ⟨D9, hLK9, hCI9⟩ := markCI hx_33 hx_32 hk2 (by omega) hk3 (by omega) (by omega) hDs hw9 hmk
                    refine lv_iinc (v := (nI (v5w30 + 1))) (lv' := [(5, .int (nI (v5w30 + 1))), (6, .ref bq_46), (4, .int (nI v4w15)), (0, .ref oa), (1, .ref k1), (2, .int (nI k2)), (3, .int (nI k3))]) hx hb dX5_measure_75 hl (k := 1) rfl (nI_1 v5w30) (by decide) rfl (fun ls hl => ?_)
                    refine lv_goto (tgt := 28) hx hb dX5_measure_78 (by decide) ?_
                    obtain ⟨f59, hM59⟩ := hW.open_58 hy0
                    exact ih_28 (v5w30 + 1) f59 D9 M_55 H_53 _ _ (by omega) hM_57 hM59 (by omega) (by have h9 := hLK9; rw [IFc_of hM59] at h9; exact h9) hCI9 hW hF hP hD hS (lv_sub hl [0, 2, 3, 4, 5, 6] rfl)
        exact key_27 (8 - 0 + 1) 0 gFw15 gDw15 M_20 H_21 _ _ (by omega) hM_22 hM_23 (by omega) hx_18 hx_19 hW hF hP hD hS (lv_sub hl [0, 1, 2, 3, 4, 5] rfl)
  exact key_12 (8 - 1 + 1) 1 f_11 (va_up (fun _ => 0) k3 1) M_8 H_7 _ _ (by omega) hM_10 hM_9 (by omega) (by omega) hLK0 (CI.fst ow k2 k3) hW hF hP hD hS (lv_sub hl [0, 1, 2, 3, 4] rfl)
set_option maxHeartbeats 4000000 in
set_option maxRecDepth 100000 in
theorem e_next (l : Launch) (D : va_G) (cy : Nat → ClassId) (K : Kp) (L : List Nat) (M : Hp) (sz : Nat) (oa : Nat) (k1 : Nat) (k2 : Nat) (k3 : Nat) (k4 : Nat) (ow : Nat → Nat → Prop) (Dt : Nat → Nat) (y0 : Nat) (y1 : Nat) (y2 : Int32) (hW : WOK cy K L M) (ia : isk K L oa 5 0) (ik1 : isk K L k1 17 8) (hk2 : k2 ≤ 8) (hk3 : k3 < 8) (hOW : OWQ k1 k2 ow M) (hLK : LKf (IFc (M y0)) Dt) (hCI : CI ow k2 k4 Dt 8 0) (hD1 : 1 ≤ Dt k3) (hMy : M oa = (b5_14 y0 y1 y2)) (hy0 : isk K L y0 58 8) (hy1 : isk K L y1 59 8) : Met l yX5_nextTowards (wsM yX5_nextTowards cX5_nextTowards 7 (some .int)) ({ frames := 1, cells := 0, slots := 0, locals := 21 }) (va_Pc [.ref oa, .ref k1, .int (nI k2), .int (nI k3)] (PG D cy [] L M sz)) (va_Qi (fun (r : Int32) (_ : Unit) => (r = (nxI ow k2 k4 Dt k3))) (fun _ t => PQ D [] L M (va_A ([] ++ va_pl L M) sz) t) (va_A ([] ++ va_pl L M) sz)) 0 0 (va_A ([] ++ va_pl L M) sz) := by
  refine Met.ofW (cc := cX5_nextTowards) (maxL := 7) (ret := (some .int)) (by decide) rfl ?_
  intro p e s m args below meth c s₁ B hml hv
  obtain ⟨rfl, hsz, hP, hK, hD0, hN⟩ := hv
  have hx := B.exec
  have hb := B.bytes
  have hr := B.returns
  have hts := atoms_spec (ws := (wsM yX5_nextTowards cX5_nextTowards 7 (some .int))) B.pre
  have hg : ∀ w ∈ lw_good, w.before _ s = true := fun w h => hts w (List.mem_cons_of_mem _ h)
  have hown : s.vm.findClass RX5 = some m.cls := findClass_of_methodNamed B.named
  have hlocks := B.notSynchronized
  subst hsz
  have hD := hD0.self (sz := s.heap.size)
  generalize hAe : va_A ([] ++ va_pl L M) s.heap.size = A at hD ⊢
  have hA : ∀ q : Nat, s.heap.size ≤ q → A q := fun q h => by rw [← hAe]; exact Or.inr h
  have hS : va_S A s.heap s.heap [] := va_S.rf
  have hl := lv_entry ([.ref oa, .ref k1, .int (nI k2), .int (nI k3)]) (n := 7) (Nat.le_of_ble_eq_true rfl)
  rw [lg_entry_eq]
  generalize (lg_sl ([.ref oa, .ref k1, .int (nI k2), .int (nI k3)]) ++ List.replicate (7 - (lg_sl ([.ref oa, .ref k1, .int (nI k2), .int (nI k3)])).length) Slot.unset).toArray = ls at hl ⊢
  refine W.nameQ (fun Q hQ => ?_)
  refine W.nameR (fun R hR => ?_)
  have hRf : 1 ≤ R.frames := by rw [hR]; exact Nat.le_of_ble_eq_true rfl
  have hRl : 21 ≤ R.locals := by rw [hR]; exact Nat.le_of_ble_eq_true rfl
  have hRc : 0 ≤ R.cells := by rw [hR]; exact Nat.le_of_ble_eq_true rfl
  have hRs : 0 ≤ R.slots := by rw [hR]; exact Nat.le_of_ble_eq_true rfl
  have hl : lv_has ls 7 [(0, .ref oa), (1, .ref k1), (2, .int (nI k2)), (3, .int (nI k3))] := hl
  have hD8 := hCI.le8 hk2 hk3
  obtain ⟨d9, hd9⟩ : ∃ d9, Dt k3 = d9 + 1 := ⟨Dt k3 - 1, by omega⟩
  refine lv_iload_n hx hb dX5_nextTowards_0 rfl (lv_at hl 3 rfl) ?_
  refine lv_if_lt (tgt := 21) hx hb dX5_nextTowards_1 (by decide) (fun c_1 => absurd c_1 (nI_pos (by omega))) (fun _ => ?_)
  refine lv_iload_n hx hb dX5_nextTowards_4 rfl (lv_at hl 3 rfl) ?_
  refine lv_bipush (v := 8) hx hb dX5_nextTowards_5 (by decide) ?_
  refine lv_icmp_ge (tgt := 21) hx hb dX5_nextTowards_7 (by decide) (fun c_2 => ?_) (fun c_2 => ?_)
  · have hz := rfl (a := 0)
    have n_3 : 8 ≤ k3 := (iLE (a := 8) (b := k3) (by omega) (by omega)).mp c_2
    exfalso
    omega
  · have hz := rfl (a := 0)
    have n_4 : ¬ (8 ≤ k3) := fun q => c_2 ((iLE (a := 8) (b := k3) (by omega) (by omega)).mpr q)
    refine lv_aload_n hx hb dX5_nextTowards_10 rfl (lv_at hl 0 rfl) ?_
    refine pg_get (D := D) (ci := 5) (v := .ref y0) (C := RX5) (T := TX5) (N := 3) hx hb hg inG5 hown hK hP ia.1 hMy rfl 0 (by decide) (hg _ wd_298) (fun _ h9 => h9) rfl dX5_nextTowards_11 ?_
    refine lv_iload_n hx hb dX5_nextTowards_14 rfl (lv_at hl 3 rfl) ?_
    obtain ⟨f5, hM5⟩ := hW.open_58 hy0
    refine pg_iald hx hb hK hP hy0.1 0 hM5 rfl (inbN k3 8 (by omega) (by omega)) dX5_nextTowards_15 ?_
    refine lv_topi (fun f_6 ef_6 => ?_)
    have hfd : f_6 = nI (d9 + 1) := by rw [ef_6, nI_cl (by omega), ← hd9]; have h9 := hLK k3 hk3; rw [IFc_of hM5] at h9; exact h9
    refine lv_iconst (v := 1) hx hb dX5_nextTowards_16 (by decide) ?_
    refine lv_isub hx hb dX5_nextTowards_17 ?_
    refine lv_topi (fun f_7 ef_7 => ?_)
    refine lv_goto (tgt := 22) hx hb dX5_nextTowards_18 (by decide) ?_
    have hnd : f_7 = nI d9 := by rw [ef_7, hfd]; exact nIp (by omega)
    have hsv9 := Eq.symm hnd
    subst hsv9
    refine lv_istore (lv' := [(4, .int (nI d9)), (0, .ref oa), (1, .ref k1), (2, .int (nI k2)), (3, .int (nI k3))]) hx hb dX5_nextTowards_22 hl (by decide) rfl (fun ls hl => ?_)
    refine lv_iconst (v := 0) hx hb dX5_nextTowards_24 (by decide) ?_
    refine lv_istore (lv' := [(5, .int 0), (4, .int (nI d9)), (0, .ref oa), (1, .ref k1), (2, .int (nI k2)), (3, .int (nI k3))]) hx hb dX5_nextTowards_25 hl (by decide) rfl (fun ls hl => ?_)
    have key_8 : ∀ (fu_10 : Nat) (v5w11 : Nat) (H_14 : Heap) (locs : List Loc) (ls : Array Slot), 8 - v5w11 < fu_10 → v5w11 ≤ 8 → (∀ k : Nat, k < v5w11 → k < k2 → ¬ (ow k3 k ∧ Dt k = d9)) → WOK cy K L M → va_P D vwCl ([] ++ va_pl L M) H_14 → va_D A ([] ++ va_pl L M) → va_S A s.heap H_14 locs → lv_has ls 7 [(5, .int (nI v5w11)), (4, .int (nI d9)), (0, .ref oa), (1, .ref k1), (2, .int (nI k2)), (3, .int (nI k3))] → W p l e R s m ([.ref oa, .ref k1, .int (nI k2), .int (nI k3)] : List Value).toArray below meth c H_14 locs 0 0 Q (F0 m 27 ls []) := by
      intro fu_10
      induction fu_10 with
      | zero => intro v5w11 H_14 locs ls h; exact absurd h (Nat.not_lt_zero _)
      | succ fu_10 ih_9 =>
        intro v5w11 H_14 locs ls hfu hx_12 hx_13 hW hP hD hS hl
        refine lv_iload hx hb dX5_nextTowards_27 (lv_at hl 0 rfl) ?_
        refine lv_iload_n hx hb dX5_nextTowards_29 rfl (lv_at hl 4 rfl) ?_
        refine lv_icmp_ge (tgt := 86) hx hb dX5_nextTowards_30 (by decide) (fun c_15 => ?_) (fun c_15 => ?_)
        · have hz := rfl (a := 0)
          have n_16 : k2 ≤ v5w11 := (iLE (a := k2) (b := v5w11) (by omega) (by omega)).mp c_15
          refine lv_iconst (v := (-1)) hx hb dX5_nextTowards_86 (by decide) ?_
          rw [hQ]
          exact W.iret (v := (-1)) hx hb hr (fun t ht hW9 => ⟨⟨(-1), (), rfl, (hCI.nxn hk3 hk2 hd9 (by omega) hx_13), ⟨by rw [ht]; exact hP, hD⟩⟩, hS.F ht⟩) hS.2.2 dX5_nextTowards_87
        · have hz := rfl (a := 0)
          have n_17 : ¬ (k2 ≤ v5w11) := fun q => c_15 ((iLE (a := k2) (b := v5w11) (by omega) (by omega)).mpr q)
          refine lv_iload hx hb dX5_nextTowards_33 (lv_at hl 0 rfl) ?_
          refine lv_bipush (v := 8) hx hb dX5_nextTowards_35 (by decide) ?_
          refine lv_icmp_ge (tgt := 86) hx hb dX5_nextTowards_37 (by decide) (fun c_18 => ?_) (fun c_18 => ?_)
          · have hz := rfl (a := 0)
            have n_19 : 8 ≤ v5w11 := (iLE (a := 8) (b := v5w11) (by omega) (by omega)).mp c_18
            refine lv_iconst (v := (-1)) hx hb dX5_nextTowards_86 (by decide) ?_
            rw [hQ]
            exact W.iret (v := (-1)) hx hb hr (fun t ht hW9 => ⟨⟨(-1), (), rfl, (hCI.nxn hk3 hk2 hd9 (by omega) hx_13), ⟨by rw [ht]; exact hP, hD⟩⟩, hS.F ht⟩) hS.2.2 dX5_nextTowards_87
          · have hz := rfl (a := 0)
            have n_20 : ¬ (8 ≤ v5w11) := fun q => c_18 ((iLE (a := 8) (b := v5w11) (by omega) (by omega)).mpr q)
            refine lv_iload hx hb dX5_nextTowards_40 (lv_at hl 1 rfl) ?_
            refine lv_if_le (tgt := 86) hx hb dX5_nextTowards_42 (by decide) (fun c_21 => ?_) (fun c_21 => ?_)
            · have hz := rfl (a := 0)
              have n_22 : d9 ≤ 0 := (iLE (a := d9) (b := 0) (by omega) (by omega)).mp c_21
              refine lv_iconst (v := (-1)) hx hb dX5_nextTowards_86 (by decide) ?_
              rw [hQ]
              exact W.iret (v := (-1)) hx hb hr (fun t ht hW9 => ⟨⟨(-1), (), rfl, (hCI.nxn hk3 hk2 hd9 (by omega) hx_13), ⟨by rw [ht]; exact hP, hD⟩⟩, hS.F ht⟩) hS.2.2 dX5_nextTowards_87
            · have hz := rfl (a := 0)
              have n_23 : ¬ (d9 ≤ 0) := fun q => c_21 ((iLE (a := d9) (b := 0) (by omega) (by omega)).mpr q)
              refine lv_aload_n hx hb dX5_nextTowards_45 rfl (lv_at hl 3 rfl) ?_
              refine lv_iload hx hb dX5_nextTowards_46 (lv_at hl 0 rfl) ?_
              obtain ⟨f24, hM24, hf24⟩ := hW.open_17 ik1
              have hi_25 : vp_in (nI v5w11) 8 := (inbN v5w11 8 (by omega) (by omega))
              refine pg_aldq hx hb hK hP ik1.1 3 hM24 rfl hi_25 dX5_nextTowards_48 ?_
              obtain ⟨q_26, ho_27⟩ : ∃ q : Option Nat, q = f24 ((nI v5w11) : Int32).toNatClampNeg := ⟨_, rfl⟩
              rw [← ho_27]
              have hq_28 : iskN K L q_26 2 0 := by rw [ho_27]; exact hf24 _ (vp_lt hi_25)
              rcases q_26 with _ | bq_26
              · have hz := rfl (a := 0)
                refine lv_astoreN (lv' := [(6, .null), (5, .int (nI v5w11)), (4, .int (nI d9)), (0, .ref oa), (1, .ref k1), (2, .int (nI k2)), (3, .int (nI k3))]) hx hb dX5_nextTowards_49 hl (by decide) rfl (fun ls hl => ?_)
                refine lv_aloadN hx hb dX5_nextTowards_51 (lv_at hl 0 rfl) ?_
                refine lv_ifnullN (tgt := 80) hx hb dX5_nextTowards_53 (by decide) ?_
                refine lv_iinc (v := (nI (v5w11 + 1))) (lv' := [(5, .int (nI (v5w11 + 1))), (6, .null), (4, .int (nI d9)), (0, .ref oa), (1, .ref k1), (2, .int (nI k2)), (3, .int (nI k3))]) hx hb dX5_nextTowards_80 hl (k := 1) rfl (nI_1 v5w11) (by decide) rfl (fun ls hl => ?_)
                refine lv_goto (tgt := 27) hx hb dX5_nextTowards_83 (by decide) ?_
                exact ih_9 (v5w11 + 1) H_14 _ _ (by omega) (by omega) (fun k hk hk2 => by by_cases z9 : ¬ k = v5w11; exact hx_13 k (by omega) hk2; have z9 := Classical.not_not.mp z9; subst z9; obtain ⟨h9, e9, _⟩ := hOW k (by omega); exfalso; rw [RFc_of hM24] at e9; have h8 := ho_27; rw [nI_cl (by omega), e9] at h8; cases h8) hW hP hD hS (lv_sub hl [0, 2, 3, 4, 5, 6] rfl)
              · have hb_29 := hq_28 bq_26 rfl
                refine lv_astore (lv' := [(6, .ref bq_26), (5, .int (nI v5w11)), (4, .int (nI d9)), (0, .ref oa), (1, .ref k1), (2, .int (nI k2)), (3, .int (nI k3))]) hx hb dX5_nextTowards_49 hl (by decide) rfl (fun ls hl => ?_)
                refine lv_aload hx hb dX5_nextTowards_51 (lv_at hl 0 rfl) ?_
                refine lv_ifnull hx hb dX5_nextTowards_53 ?_
                refine lv_aload_n hx hb dX5_nextTowards_56 rfl (lv_at hl 3 rfl) ?_
                refine pg_get (D := D) (ci := 5) (v := .ref y0) (C := RX5) (T := TX5) (N := 3) hx hb hg inG5 hown hK hP ia.1 hMy rfl 0 (by decide) (hg _ wd_298) (fun _ h9 => h9) rfl dX5_nextTowards_57 ?_
                refine lv_iload hx hb dX5_nextTowards_60 (lv_at hl 1 rfl) ?_
                refine pg_iald hx hb hK hP hy0.1 0 hM5 rfl (inbN v5w11 8 (by omega) (by omega)) dX5_nextTowards_62 ?_
                refine lv_topi (fun f_30 ef_30 => ?_)
                refine lv_iload hx hb dX5_nextTowards_63 (lv_at hl 2 rfl) ?_
                have hfn : f_30 = nI (Dt v5w11) := by rw [ef_30, nI_cl (by omega)]; have h9 := hLK v5w11 (by omega); rw [IFc_of hM5] at h9; exact h9
                have hDn9 := hCI.le8 hk2 (a := v5w11) (by omega)
                refine lv_icmp_ne (tgt := 80) hx hb dX5_nextTowards_65 (by decide) (fun c_31 => ?_) (fun c_31 => ?_)
                · have hz := rfl (a := 0)
                  refine lv_iinc (v := (nI (v5w11 + 1))) (lv' := [(5, .int (nI (v5w11 + 1))), (6, .ref bq_26), (4, .int (nI d9)), (0, .ref oa), (1, .ref k1), (2, .int (nI k2)), (3, .int (nI k3))]) hx hb dX5_nextTowards_80 hl (k := 1) rfl (nI_1 v5w11) (by decide) rfl (fun ls hl => ?_)
                  refine lv_goto (tgt := 27) hx hb dX5_nextTowards_83 (by decide) ?_
                  exact ih_9 (v5w11 + 1) H_14 _ _ (by omega) (by omega) (fun k hk hk2 => by by_cases z9 : ¬ k = v5w11; exact hx_13 k (by omega) hk2; have z9 := Classical.not_not.mp z9; subst z9; exact fun q9 => (fun q9 => c_31 (by rw [hfn, q9])) q9.2) hW hP hD hS (lv_sub hl [0, 2, 3, 4, 5, 6] rfl)
                · have hz := rfl (a := 0)
                  obtain ⟨h9, e9, g90, g91, g92⟩ := hOW v5w11 (by omega)
                  have hbq : h9 = bq_26 := by rw [RFc_of hM24] at e9; have h8 := (Eq.symm ho_27); rw [nI_cl (by omega)] at h8; exact Option.some.inj (e9.symm.trans h8)
                  rw [hbq] at g90 g91 g92
                  refine lv_aload hx hb dX5_nextTowards_68 (lv_at hl 0 rfl) ?_
                  refine lv_iload_n hx hb dX5_nextTowards_70 rfl (lv_at hl 6 rfl) ?_
                  obtain ⟨v32_0, v32_1, v32_2, v32_3, v32_4, v32_5, v32_6, v32_7, v32_8, v32_9, v32_10, v32_11, v32_12, v32_13, v32_14, v32_15, v32_16, v32_17, v32_18, v32_19, hM32, h32_3, h32_4, h32_5, h32_6, h32_7, h32_8, h32_9, h32_10, h32_11, h32_12, h32_13, h32_16, h32_17, h32_18, h32_19⟩ := hW.open_2 hb_29
                  have hPc : va_P D vwCl ([] ++ va_pl L M) H_14 := hP
                  have hDc : va_D A ([] ++ va_pl L M) := hD
                  have hFc : ∀ q, va_A ([] ++ va_pl L M) H_14.size q → A q := pg_free hDc hS hA
                  refine va_calli (va_runV (As := [.int (nI k3)]) (rest := []) ⟨hx, hb, hml, hown, hg⟩ (e_isOwnedBy l D cy K L M H_14.size bq_26 k3  hW hb_29 hk3 ⟨g90, g91⟩) (cwV 1 hg (gV wd_299 wd_300 wd_301 wd_57 wd_302) rfl rfl rfl (by decide +kernel) ⟨(Nat.le_trans (Nat.le_of_ble_eq_true rfl) hRf), (Nat.le_trans (Nat.le_of_ble_eq_true rfl) hRl)⟩) ⟨PG.blind, pg_recv hK hP hb_29.1 hM32 rfl, fun U hU hW => ⟨rfl, PG.at hPc hK hDc hN hU hW⟩⟩ rfl rfl hl.1 rfl (lv_room (Nat.le_of_ble_eq_true rfl)) dX5_nextTowards_71 ⟨(Nat.le_trans (Nat.le_of_ble_eq_true rfl) hRc), (Nat.le_trans (Nat.le_of_ble_eq_true rfl) hRs)⟩) hS (fun q _ h => hFc q h) hFc (fun r_34 M_35 t H_33 locs ht hvm hw hB hz1 hk1 hS => ?_)
                  have hp_36 := hw
                  obtain ⟨hP1, hD1⟩ := hB
                  rw [ht] at hP1
                  have hP : va_P D vwCl ([] ++ va_pl L M) H_33 := hP1
                  have hD : va_D A ([] ++ va_pl L M) := hD1.mono hFc
                  rcases hp_36 with ⟨rfl, c_37⟩ | ⟨rfl, c_38⟩
                  · have hz := rfl (a := 0)
                    refine lv_if_eq (tgt := 80) hx hb dX5_nextTowards_74 (by decide) (fun c_39 => absurd c_39 (by decide)) (fun _ => ?_)
                    refine lv_iload hx hb dX5_nextTowards_77 (lv_at hl 1 rfl) ?_
                    rw [hQ]
                    exact W.iret (v := (nI v5w11)) hx hb hr (fun t ht hW9 => ⟨⟨(nI v5w11), (), rfl, (hCI.nxi hk2 hk3 hd9 (by omega) (by omega) ((iEQ (a := Dt v5w11) (b := d9) (by omega) (by omega)).mp (by rw [← hfn]; exact c_31)) ((g92 k3 hk3).mp c_37) hx_13), ⟨by rw [ht]; exact hP, hD⟩⟩, hS.F ht⟩) hS.2.2 dX5_nextTowards_79
                  · have hz := rfl (a := 0)
                    refine lv_if_eq (tgt := 80) hx hb dX5_nextTowards_74 (by decide) (fun _ => ?_) (fun c_40 => absurd c_40 (by decide))
                    refine lv_iinc (v := (nI (v5w11 + 1))) (lv' := [(5, .int (nI (v5w11 + 1))), (6, .ref bq_26), (4, .int (nI d9)), (0, .ref oa), (1, .ref k1), (2, .int (nI k2)), (3, .int (nI k3))]) hx hb dX5_nextTowards_80 hl (k := 1) rfl (nI_1 v5w11) (by decide) rfl (fun ls hl => ?_)
                    refine lv_goto (tgt := 27) hx hb dX5_nextTowards_83 (by decide) ?_
                    exact ih_9 (v5w11 + 1) H_33 _ _ (by omega) (by omega) (fun k hk hk2 => by by_cases z9 : ¬ k = v5w11; exact hx_13 k (by omega) hk2; have z9 := Classical.not_not.mp z9; subst z9; exact fun q9 => c_38 ((g92 k3 hk3).mpr q9.1)) hW hP hD hS (lv_sub hl [0, 2, 3, 4, 5, 6] rfl)
    exact key_8 (8 - 0 + 1) 0 s.heap _ _ (by omega) (by omega) (fun k hk => absurd hk (Nat.not_lt_zero _)) hW hP hD hS (lv_sub hl [0, 1, 2, 3, 4, 5] rfl)
set_option maxHeartbeats 4000000 in
set_option maxRecDepth 100000 in
theorem e_forget (l : Launch) (D : va_G) (cy : Nat → ClassId) (K : Kp) (L : List Nat) (M : Hp) (sz : Nat) (oa : Nat) (hW : WOK cy K L M) (ia : isk K L oa 5 0) : Met l yX5_forget (wsM yX5_forget cX5_forget 1 none) ({ frames := 0, cells := 0, slots := 0, locals := 0 }) (va_Pc [.ref oa] (PG D cy [] L M sz)) (va_Qv (fun (M9 : Hp) => WOK cy K L M9 ∧ fr K L [5] M M9 ∧ (RGC M9 oa (fun _ => -1)) ∧ (True)) (fun M9 t => PQ D [] L M9 (va_A ([] ++ va_pl L M) sz) t) (va_A ([] ++ va_pl L M) sz)) 0 0 (va_A ([] ++ va_pl L M) sz) := by
  refine Met.ofW (cc := cX5_forget) (maxL := 1) (ret := none) (by decide) rfl ?_
  intro p e s m args below meth c s₁ B hml hv
  obtain ⟨rfl, hsz, hP, hK, hD0, hN⟩ := hv
  have hx := B.exec
  have hb := B.bytes
  have hr := B.returns
  have hts := atoms_spec (ws := (wsM yX5_forget cX5_forget 1 none)) B.pre
  have hg : ∀ w ∈ lw_good, w.before _ s = true := fun w h => hts w (List.mem_cons_of_mem _ h)
  have hown : s.vm.findClass RX5 = some m.cls := findClass_of_methodNamed B.named
  have hlocks := B.notSynchronized
  subst hsz
  have hD := hD0.self (sz := s.heap.size)
  generalize hAe : va_A ([] ++ va_pl L M) s.heap.size = A at hD ⊢
  have hA : ∀ q : Nat, s.heap.size ≤ q → A q := fun q h => by rw [← hAe]; exact Or.inr h
  have hS : va_S A s.heap s.heap [] := va_S.rf
  have hl := lv_entry ([.ref oa]) (n := 1) (Nat.le_of_ble_eq_true rfl)
  rw [lg_entry_eq]
  generalize (lg_sl ([.ref oa]) ++ List.replicate (1 - (lg_sl ([.ref oa])).length) Slot.unset).toArray = ls at hl ⊢
  refine W.nameQ (fun Q hQ => ?_)
  refine W.nameR (fun R hR => ?_)
  have hRf : 0 ≤ R.frames := by rw [hR]; exact Nat.le_of_ble_eq_true rfl
  have hRl : 0 ≤ R.locals := by rw [hR]; exact Nat.le_of_ble_eq_true rfl
  have hRc : 0 ≤ R.cells := by rw [hR]; exact Nat.le_of_ble_eq_true rfl
  have hRs : 0 ≤ R.slots := by rw [hR]; exact Nat.le_of_ble_eq_true rfl
  have hF : fr K L [5] M M := fr.rf
  have hl : lv_has ls 1 [(0, .ref oa)] := hl
  refine lv_aload_n hx hb dX5_forget_0 rfl (lv_at hl 0 rfl) ?_
  refine lv_iconst (v := 0) hx hb dX5_forget_1 (by decide) ?_
  obtain ⟨v2_0, v2_1, v2_2, hM2, h2_0, h2_1⟩ := hW.open_5 ia
  refine pg_put (D := D) (ci := 5) (v := .int 0) (ty := .int) (C := RX5) (T := TX5) (N := 3) hx hb hg inG5 tyX5 tyX5_ok nmX5 hown hK hP hD hS ia.1 hM2 rfl 2 (by decide) (hg _ wd_296) (fun _ h9 => h9) rfl (by decide +kernel) rfl rfl (Nat.le_of_ble_eq_true rfl) dX5_forget_2 (fun H_1 locs hP hD hS => ?_)
  obtain ⟨M_3, eM_3⟩ : ∃ M1 : Hp, M1 = va_up M oa ((b5_14 v2_0 v2_1 0)) := ⟨_, rfl⟩
  have hP : va_P D vwCl ([] ++ va_pl L M_3) H_1 := by rw [eM_3]; exact hP
  have hD : va_D A ([] ++ va_pl L M_3) := by rw [eM_3]; exact hD
  have hW : WOK cy K L M_3 := by rw [eM_3]; exact hW.up_5 ia ⟨v2_0, v2_1, 0, rfl, h2_0, h2_1⟩
  have hF : fr K L [5] M M_3 := by rw [eM_3]; exact hF.up ia (by decide)
  have hM_4 : M_3 oa = (b5_14 v2_0 v2_1 0) := by rw [eM_3]; exact va_up_self _ _ _
  rw [hQ]
  exact W.vret hx hb hr (fun t ht hW9 => ⟨⟨M_3, rfl, ⟨hW, hF, ⟨0, by omega, (by rw [cV_of (j := 2) hM_4 rfl]; rfl), fun i => if_neg (Nat.not_lt_zero i)⟩, trivial⟩, ⟨by rw [ht]; exact hP, hD⟩⟩, hS.F ht⟩) hS.2.2 dX5_forget_5
set_option maxHeartbeats 4000000 in
set_option maxRecDepth 100000 in
theorem e_step (l : Launch) (D : va_G) (cy : Nat → ClassId) (K : Kp) (L : List Nat) (M : Hp) (sz : Nat) (oa : Nat) (k1 : Int32) (CA : Nat → Int32) (y0 : Nat) (y1 : Nat) (y2 : Int32) (hW : WOK cy K L M) (ia : isk K L oa 5 0) (hRG : RGC M oa CA) (hMy : M oa = (b5_14 y0 y1 y2)) (hy0 : isk K L y0 58 8) (hy1 : isk K L y1 59 8) : Met l yX5_houseAtStep (wsM yX5_houseAtStep cX5_houseAtStep 2 (some .int)) ({ frames := 0, cells := 0, slots := 0, locals := 0 }) (va_Pc [.ref oa, .int k1] (PG D cy [] L M sz)) (va_Qi (fun (r : Int32) (_ : Unit) => (r = (cirA CA k1))) (fun _ t => PQ D [] L M (va_A ([] ++ va_pl L M) sz) t) (va_A ([] ++ va_pl L M) sz)) 0 0 (va_A ([] ++ va_pl L M) sz) := by
  refine Met.ofW (cc := cX5_houseAtStep) (maxL := 2) (ret := (some .int)) (by decide) rfl ?_
  intro p e s m args below meth c s₁ B hml hv
  obtain ⟨rfl, hsz, hP, hK, hD0, hN⟩ := hv
  have hx := B.exec
  have hb := B.bytes
  have hr := B.returns
  have hts := atoms_spec (ws := (wsM yX5_houseAtStep cX5_houseAtStep 2 (some .int))) B.pre
  have hg : ∀ w ∈ lw_good, w.before _ s = true := fun w h => hts w (List.mem_cons_of_mem _ h)
  have hown : s.vm.findClass RX5 = some m.cls := findClass_of_methodNamed B.named
  have hlocks := B.notSynchronized
  subst hsz
  have hD := hD0.self (sz := s.heap.size)
  generalize hAe : va_A ([] ++ va_pl L M) s.heap.size = A at hD ⊢
  have hA : ∀ q : Nat, s.heap.size ≤ q → A q := fun q h => by rw [← hAe]; exact Or.inr h
  have hS : va_S A s.heap s.heap [] := va_S.rf
  have hl := lv_entry ([.ref oa, .int k1]) (n := 2) (Nat.le_of_ble_eq_true rfl)
  rw [lg_entry_eq]
  generalize (lg_sl ([.ref oa, .int k1]) ++ List.replicate (2 - (lg_sl ([.ref oa, .int k1])).length) Slot.unset).toArray = ls at hl ⊢
  refine W.nameQ (fun Q hQ => ?_)
  refine W.nameR (fun R hR => ?_)
  have hRf : 0 ≤ R.frames := by rw [hR]; exact Nat.le_of_ble_eq_true rfl
  have hRl : 0 ≤ R.locals := by rw [hR]; exact Nat.le_of_ble_eq_true rfl
  have hRc : 0 ≤ R.cells := by rw [hR]; exact Nat.le_of_ble_eq_true rfl
  have hRs : 0 ≤ R.slots := by rw [hR]; exact Nat.le_of_ble_eq_true rfl
  have hl : lv_has ls 2 [(0, .ref oa), (1, .int k1)] := hl
  obtain ⟨n9, hn8, hcl, hct⟩ := hRG
  rw [cV_of (j := 2) hMy rfl] at hcl
  have hy2i : (y2 : Int32).toInt = (n9 : Int) := by rw [hcl]; exact nI_toInt (by omega)
  refine lv_iload_n hx hb dX5_houseAtStep_0 rfl (lv_at hl 1 rfl) ?_
  refine lv_if_lt (tgt := 27) hx hb dX5_houseAtStep_1 (by decide) (fun c_1 => ?_) (fun c_1 => ?_)
  · have hz := rfl (a := 0)
    refine lv_iconst (v := (-1)) hx hb dX5_houseAtStep_27 (by decide) ?_
    have hI_2 : (k1 : Int32).toInt < (0 : Int) := iltI rfl rfl c_1
    rw [hQ]
    exact W.iret (v := (-1)) hx hb hr (fun t ht hW9 => ⟨⟨(-1), (), rfl, (by unfold cirA; by_cases z9 : 0 ≤ k1.toInt ∧ k1.toInt < 8; rw [if_pos z9]; have hck := clT z9.1; have h9 := hct k1.toNatClampNeg; rw [if_neg (by omega)] at h9; exact h9; rw [if_neg z9]), ⟨by rw [ht]; exact hP, hD⟩⟩, hS.F ht⟩) hS.2.2 dX5_houseAtStep_28
  · have hz := rfl (a := 0)
    refine lv_iload_n hx hb dX5_houseAtStep_4 rfl (lv_at hl 1 rfl) ?_
    refine lv_aload_n hx hb dX5_houseAtStep_5 rfl (lv_at hl 0 rfl) ?_
    refine pg_get (D := D) (ci := 5) (v := .int y2) (C := RX5) (T := TX5) (N := 3) hx hb hg inG5 hown hK hP ia.1 hMy rfl 2 (by decide) (hg _ wd_296) (fun _ h9 => h9) rfl dX5_houseAtStep_6 ?_
    refine lv_icmp_ge (tgt := 27) hx hb dX5_houseAtStep_9 (by decide) (fun c_3 => ?_) (fun c_3 => ?_)
    · have hz := rfl (a := 0)
      refine lv_iconst (v := (-1)) hx hb dX5_houseAtStep_27 (by decide) ?_
      have hI_4 : (0 : Int) ≤ (k1 : Int32).toInt := inltI rfl rfl c_1
      have hI_5 : (y2 : Int32).toInt ≤ (k1 : Int32).toInt := ileI rfl rfl c_3
      rw [hQ]
      exact W.iret (v := (-1)) hx hb hr (fun t ht hW9 => ⟨⟨(-1), (), rfl, (by unfold cirA; by_cases z9 : 0 ≤ k1.toInt ∧ k1.toInt < 8; rw [if_pos z9]; have hck := clT z9.1; have h9 := hct k1.toNatClampNeg; rw [if_neg (by omega)] at h9; exact h9; rw [if_neg z9]), ⟨by rw [ht]; exact hP, hD⟩⟩, hS.F ht⟩) hS.2.2 dX5_houseAtStep_28
    · have hz := rfl (a := 0)
      refine lv_iload_n hx hb dX5_houseAtStep_12 rfl (lv_at hl 1 rfl) ?_
      refine lv_bipush (v := 8) hx hb dX5_houseAtStep_13 (by decide) ?_
      refine lv_icmp_ge (tgt := 27) hx hb dX5_houseAtStep_15 (by decide) (fun c_6 => ?_) (fun c_6 => ?_)
      · have hz := rfl (a := 0)
        refine lv_iconst (v := (-1)) hx hb dX5_houseAtStep_27 (by decide) ?_
        have hI_7 : (0 : Int) ≤ (k1 : Int32).toInt := inltI rfl rfl c_1
        have hI_8 : (k1 : Int32).toInt < (y2 : Int32).toInt := inleI rfl rfl c_3
        have hI_9 : (8 : Int) ≤ (k1 : Int32).toInt := ileI rfl rfl c_6
        rw [hQ]
        exact W.iret (v := (-1)) hx hb hr (fun t ht hW9 => ⟨⟨(-1), (), rfl, (by unfold cirA; by_cases z9 : 0 ≤ k1.toInt ∧ k1.toInt < 8; rw [if_pos z9]; have hck := clT z9.1; have h9 := hct k1.toNatClampNeg; rw [if_neg (by omega)] at h9; exact h9; rw [if_neg z9]), ⟨by rw [ht]; exact hP, hD⟩⟩, hS.F ht⟩) hS.2.2 dX5_houseAtStep_28
      · have hz := rfl (a := 0)
        refine lv_aload_n hx hb dX5_houseAtStep_18 rfl (lv_at hl 0 rfl) ?_
        refine pg_get (D := D) (ci := 5) (v := .ref y1) (C := RX5) (T := TX5) (N := 3) hx hb hg inG5 hown hK hP ia.1 hMy rfl 1 (by decide) (hg _ wd_297) (fun _ h9 => h9) rfl dX5_houseAtStep_19 ?_
        refine lv_iload_n hx hb dX5_houseAtStep_22 rfl (lv_at hl 1 rfl) ?_
        obtain ⟨f10, hM10⟩ := hW.open_59 hy1
        refine pg_iald hx hb hK hP hy1.1 0 hM10 rfl (inb k1 8 (by omega) c_1 c_6) dX5_houseAtStep_23 ?_
        refine lv_topi (fun f_11 ef_11 => ?_)
        refine lv_goto (tgt := 28) hx hb dX5_houseAtStep_24 (by decide) ?_
        have hI_12 : (0 : Int) ≤ (k1 : Int32).toInt := inltI rfl rfl c_1
        have hI_13 : (k1 : Int32).toInt < (y2 : Int32).toInt := inleI rfl rfl c_3
        have hI_14 : (k1 : Int32).toInt < (8 : Int) := inleI rfl rfl c_6
        rw [hQ]
        exact W.iret (v := f_11) hx hb hr (fun t ht hW9 => ⟨⟨f_11, (), rfl, (by unfold cirA; have hck : ((k1 : Int32).toNatClampNeg : Int) = k1.toInt := clT (by omega); rw [if_pos (by omega)]; have h9 := hct k1.toNatClampNeg; rw [if_pos (by omega), rA_of (j := 1) hMy rfl, IFc_of hM10] at h9; rw [← h9]; exact ef_11), ⟨by rw [ht]; exact hP, hD⟩⟩, hS.F ht⟩) hS.2.2 dX5_houseAtStep_28
set_option maxHeartbeats 4000000 in
set_option maxRecDepth 100000 in
theorem e_trace (l : Launch) (D : va_G) (cy : Nat → ClassId) (K : Kp) (L : List Nat) (M : Hp) (sz : Nat) (oa : Nat) (k1 : Nat) (k2 : Nat) (k3 : Nat) (k4 : Nat) (ow : Nat → Nat → Prop) (y0 : Nat) (y1 : Nat) (y2 : Int32) (hW : WOK cy K L M) (ia : isk K L oa 5 0) (ik1 : isk K L k1 17 8) (hk2 : k2 ≤ 8) (hk3 : k3 < 8) (hk4 : k4 < 8) (hOW : OWQ k1 k2 ow M) (hMy : M oa = (b5_14 y0 y1 y2)) (hy0 : isk K L y0 58 8) (hy1 : isk K L y1 59 8) : Met l yX5_trace (wsM yX5_trace cX5_trace 7 (some .boolean)) ({ frames := 3, cells := 0, slots := 0, locals := 71 }) (va_Pc [.ref oa, .ref k1, .int (nI k2), .int (nI k3), .int (nI k4)] (PG D cy [] L M sz)) (va_Qi (fun (r : Int32) (M9 : Hp) => WOK cy K L M9 ∧ fr K L [5, 58, 59] M M9 ∧ ((¬ RCH ow k2 k4 k3 → RGS M M9 oa) ∧ (RCH ow k2 k4 k3 → RGC M9 oa (cirF ow k2 k4 k3))) ∧ ((r = 1 ∧ (RCH ow k2 k4 k3)) ∨ (r = 0 ∧ ¬ (RCH ow k2 k4 k3)))) (fun M9 t => PQ D [] L M9 (va_A ([] ++ va_pl L M) sz) t) (va_A ([] ++ va_pl L M) sz)) 0 0 (va_A ([] ++ va_pl L M) sz) := by
  refine Met.ofW (cc := cX5_trace) (maxL := 7) (ret := (some .boolean)) (by decide) rfl ?_
  intro p e s m args below meth c s₁ B hml hv
  obtain ⟨rfl, hsz, hP, hK, hD0, hN⟩ := hv
  have hx := B.exec
  have hb := B.bytes
  have hr := B.returns
  have hts := atoms_spec (ws := (wsM yX5_trace cX5_trace 7 (some .boolean))) B.pre
  have hg : ∀ w ∈ lw_good, w.before _ s = true := fun w h => hts w (List.mem_cons_of_mem _ h)
  have hown : s.vm.findClass RX5 = some m.cls := findClass_of_methodNamed B.named
  have hlocks := B.notSynchronized
  subst hsz
  have hD := hD0.self (sz := s.heap.size)
  generalize hAe : va_A ([] ++ va_pl L M) s.heap.size = A at hD ⊢
  have hA : ∀ q : Nat, s.heap.size ≤ q → A q := fun q h => by rw [← hAe]; exact Or.inr h
  have hS : va_S A s.heap s.heap [] := va_S.rf
  have hl := lv_entry ([.ref oa, .ref k1, .int (nI k2), .int (nI k3), .int (nI k4)]) (n := 7) (Nat.le_of_ble_eq_true rfl)
  rw [lg_entry_eq]
  generalize (lg_sl ([.ref oa, .ref k1, .int (nI k2), .int (nI k3), .int (nI k4)]) ++ List.replicate (7 - (lg_sl ([.ref oa, .ref k1, .int (nI k2), .int (nI k3), .int (nI k4)])).length) Slot.unset).toArray = ls at hl ⊢
  refine W.nameQ (fun Q hQ => ?_)
  refine W.nameR (fun R hR => ?_)
  have hRf : 3 ≤ R.frames := by rw [hR]; exact Nat.le_of_ble_eq_true rfl
  have hRl : 71 ≤ R.locals := by rw [hR]; exact Nat.le_of_ble_eq_true rfl
  have hRc : 0 ≤ R.cells := by rw [hR]; exact Nat.le_of_ble_eq_true rfl
  have hRs : 0 ≤ R.slots := by rw [hR]; exact Nat.le_of_ble_eq_true rfl
  have hF : fr K L [5, 58, 59] M M := fr.rf
  have hl : lv_has ls 7 [(0, .ref oa), (1, .ref k1), (2, .int (nI k2)), (3, .int (nI k3)), (4, .int (nI k4))] := hl
  have hW0 := hW
  refine lv_iload_n hx hb dX5_trace_0 rfl (lv_at hl 3 rfl) ?_
  refine lv_if_lt (tgt := 22) hx hb dX5_trace_1 (by decide) (fun c_1 => absurd c_1 (nI_pos (by omega))) (fun _ => ?_)
  refine lv_iload_n hx hb dX5_trace_4 rfl (lv_at hl 3 rfl) ?_
  refine lv_bipush (v := 8) hx hb dX5_trace_5 (by decide) ?_
  refine lv_icmp_ge (tgt := 22) hx hb dX5_trace_7 (by decide) (fun c_2 => ?_) (fun c_2 => ?_)
  · have hz := rfl (a := 0)
    have n_3 : 8 ≤ k3 := (iLE (a := 8) (b := k3) (by omega) (by omega)).mp c_2
    refine lv_iconst (v := 0) hx hb dX5_trace_22 (by decide) ?_
    rw [hQ]
    exact W.zret (v := 0) hx hb hr rfl (fun t ht hW9 => ⟨⟨0, M, rfl, ⟨hW, hF, (by exfalso; omega), (by exfalso; omega)⟩, ⟨by rw [ht]; exact hP, hD⟩⟩, hS.F ht⟩) hS.2.2 dX5_trace_23
  · have hz := rfl (a := 0)
    have n_4 : ¬ (8 ≤ k3) := fun q => c_2 ((iLE (a := 8) (b := k3) (by omega) (by omega)).mpr q)
    refine lv_iload hx hb dX5_trace_10 (lv_at hl 4 rfl) ?_
    refine lv_if_lt (tgt := 22) hx hb dX5_trace_12 (by decide) (fun c_5 => absurd c_5 (nI_pos (by omega))) (fun _ => ?_)
    refine lv_iload hx hb dX5_trace_15 (lv_at hl 4 rfl) ?_
    refine lv_bipush (v := 8) hx hb dX5_trace_17 (by decide) ?_
    refine lv_icmp_lt (tgt := 24) hx hb dX5_trace_19 (by decide) (fun c_6 => ?_) (fun c_6 => ?_)
    · have hz := rfl (a := 0)
      have n_7 : k4 < 8 := (iLT (a := k4) (b := 8) (by omega) (by omega)).mp c_6
      refine lv_aload_n hx hb dX5_trace_24 rfl (lv_at hl 0 rfl) ?_
      refine lv_aload_n hx hb dX5_trace_25 rfl (lv_at hl 1 rfl) ?_
      refine lv_iload_n hx hb dX5_trace_26 rfl (lv_at hl 2 rfl) ?_
      refine lv_iload hx hb dX5_trace_27 (lv_at hl 4 rfl) ?_
      have hPc : va_P D vwCl ([] ++ va_pl L M) s.heap := hP
      have hDc : va_D A ([] ++ va_pl L M) := hD
      have hFc : ∀ q, va_A ([] ++ va_pl L M) s.heap.size q → A q := pg_free hDc hS hA
      refine va_callv (va_runV (As := [.ref k1, .int (nI k2), .int (nI k4)]) (rest := []) ⟨hx, hb, hml, hown, hg⟩ (e_measure l D cy K L M s.heap.size oa k1 k2 k4 ow y0 y1 y2 hW ia ik1 hk2 hk4 hOW hMy hy0 hy1) (cwV 3 hg (gV wd_311 wd_312 wd_313 wd_309 wd_314) rfl rfl rfl (by decide +kernel) ⟨(Nat.le_trans (Nat.le_of_ble_eq_true rfl) hRf), (Nat.le_trans (Nat.le_of_ble_eq_true rfl) hRl)⟩) ⟨PG.blind, pg_recv hK hP ia.1 hMy rfl, fun U hU hW => ⟨rfl, PG.at hPc hK hDc hN hU hW⟩⟩ rfl rfl hl.1 rfl (lv_room (Nat.le_of_ble_eq_true rfl)) dX5_trace_29 ⟨(Nat.le_trans (Nat.le_of_ble_eq_true rfl) hRc), (Nat.le_trans (Nat.le_of_ble_eq_true rfl) hRs)⟩) hS (fun q _ h => hFc q h) hFc (fun M_10 t H_8 locs ht hvm hw hB hz1 hk1 hS => ?_)
      obtain ⟨hW, hF2, hVP, hp_11⟩ := hw
      obtain ⟨hP1, hD1⟩ := hB
      rw [ht] at hP1
      have hP : va_P D vwCl ([] ++ va_pl L M_10) H_8 := hP1
      have hD : va_D A ([] ++ va_pl L M_10) := hD1.mono hFc
      have hM_12 : M_10 oa = (b5_14 y0 y1 y2) := (hF2.at ia (by decide)).trans hMy
      have hF : fr K L [5, 58, 59] M M_10 := hF.tr hF2 (by decide)
      obtain ⟨D9, hLK9, hCI9⟩ := hVP
      have hRS := RGS.of hW0 ia hF2 (by decide) (by decide)
      refine lv_aload_n hx hb dX5_trace_32 rfl (lv_at hl 0 rfl) ?_
      refine pg_get (D := D) (ci := 5) (v := .ref y0) (C := RX5) (T := TX5) (N := 3) hx hb hg inG5 hown hK hP ia.1 hM_12 rfl 0 (by decide) (hg _ wd_298) (fun _ h9 => h9) rfl dX5_trace_33 ?_
      refine lv_iload_n hx hb dX5_trace_36 rfl (lv_at hl 3 rfl) ?_
      obtain ⟨f13, hM13⟩ := hW.open_58 hy0
      refine pg_iald hx hb hK hP hy0.1 0 hM13 rfl (inbN k3 8 (by omega) (by omega)) dX5_trace_37 ?_
      refine lv_topi (fun f_14 ef_14 => ?_)
      have hLKf : LKf f13 D9 := by have h9 := hLK9; rw [IFc_of hM13] at h9; exact h9
      have hfd : f_14 = nI (D9 k3) := by rw [ef_14, nI_cl (by omega)]; exact hLKf k3 (by omega)
      have hD9 := hCI9.1 k3 (by omega)
      have hD8 := hCI9.le8 hk2 hk3
      refine lv_if_ne (tgt := 43) hx hb dX5_trace_38 (by decide) (fun c_15 => ?_) (fun c_15 => ?_)
      · have hz := rfl (a := 0)
        have hD1 : 1 ≤ D9 k3 := Nat.pos_of_ne_zero (fun q9 => c_15 (by rw [hfd, q9]; rfl))
        refine lv_iload_n hx hb dX5_trace_43 rfl (lv_at hl 3 rfl) ?_
        refine lv_istore (lv' := [(5, .int (nI k3)), (0, .ref oa), (1, .ref k1), (2, .int (nI k2)), (3, .int (nI k3)), (4, .int (nI k4))]) hx hb dX5_trace_44 hl (by decide) rfl (fun ls hl => ?_)
        refine lv_aload_n hx hb dX5_trace_46 rfl (lv_at hl 1 rfl) ?_
        refine lv_bipush (v := 8) hx hb dX5_trace_47 (by decide) ?_
        refine lv_aload_n hx hb dX5_trace_49 rfl (lv_at hl 1 rfl) ?_
        refine pg_get (D := D) (ci := 5) (v := .ref y0) (C := RX5) (T := TX5) (N := 3) hx hb hg inG5 hown hK hP ia.1 hM_12 rfl 0 (by decide) (hg _ wd_298) (fun _ h9 => h9) rfl dX5_trace_50 ?_
        refine lv_iload_n hx hb dX5_trace_53 rfl (lv_at hl 4 rfl) ?_
        refine pg_iald hx hb hK hP hy0.1 0 hM13 rfl (inbN k3 8 (by omega) (by omega)) dX5_trace_54 ?_
        refine lv_topi (fun f_16 ef_16 => ?_)
        have hfe : f_16 = nI (D9 k3) := by rw [ef_16, nI_cl (by omega)]; exact hLKf k3 (by omega)
        refine va_mmin hx hb (by rw [hml]; exact hl.1.symm) hown (hg _ wd_315) (hg _ wd_90) (hg _ wd_12) (hg _ wd_91) (Nat.le_trans (Nat.le_of_ble_eq_true rfl) hRf) (Nat.le_trans (Nat.le_of_ble_eq_true rfl) hRl) (Nat.le_trans (Nat.le_of_ble_eq_true rfl) hRc) (Nat.le_trans (Nat.le_of_ble_eq_true rfl) hRs) dX5_trace_55 ?_
        refine lv_topi (fun f_17 ef_17 => ?_)
        have hm_18 : f_17 ≤ 8 := minL ef_17
        have hxf_17 : ((f_16 : Int32).toInt < (8 : Int) ∧ (f_17 : Int32).toInt = (f_16 : Int32).toInt) ∨ ((8 : Int) ≤ (f_16 : Int32).toInt ∧ (f_17 : Int32).toInt = (8 : Int)) := minx ef_17
        have hfi : (f_16 : Int32).toInt = ((D9 k3 : Nat) : Int) := by rw [hfe]; exact nI_toInt (by omega)
        have hfl : f_17 = nI (D9 k3) := i32_of (by omega) (by omega)
        have hsv9 := Eq.symm hfl
        subst hsv9
        refine pg_put (D := D) (ci := 5) (v := .int (nI (D9 k3))) (ty := .int) (C := RX5) (T := TX5) (N := 3) hx hb hg inG5 tyX5 tyX5_ok nmX5 hown hK hP hD hS ia.1 hM_12 rfl 2 (by decide) (hg _ wd_296) (fun _ h9 => h9) rfl (by decide +kernel) rfl rfl (Nat.le_of_ble_eq_true rfl) dX5_trace_58 (fun H_19 locs hP hD hS => ?_)
        obtain ⟨M_20, eM_20⟩ : ∃ M1 : Hp, M1 = va_up M_10 oa ((b5_14 y0 y1 (nI (D9 k3)))) := ⟨_, rfl⟩
        have hP : va_P D vwCl ([] ++ va_pl L M_20) H_19 := by rw [eM_20]; exact hP
        have hD : va_D A ([] ++ va_pl L M_20) := by rw [eM_20]; exact hD
        have hW : WOK cy K L M_20 := by rw [eM_20]; exact hW.up_5 ia ⟨y0, y1, (nI (D9 k3)), rfl, hy0, hy1⟩
        have hF : fr K L [5, 58, 59] M M_20 := by rw [eM_20]; exact hF.up ia (by decide)
        have hM_21 : M_20 oa = (b5_14 y0 y1 (nI (D9 k3))) := by rw [eM_20]; exact va_up_self _ _ _
        have hM_22 : M_20 y0 = .inl (cy 14, 8, .inl (f13)) := by rw [eM_20, va_up_ne _ _ (hy0.neT ia (by decide))]; exact hM13
        obtain ⟨f23, hM23⟩ := hW.open_59 hy1
        refine lv_iconst (v := 0) hx hb dX5_trace_61 (by decide) ?_
        refine lv_istore (lv' := [(6, .int 0), (5, .int (nI k3)), (0, .ref oa), (1, .ref k1), (2, .int (nI k2)), (3, .int (nI k3)), (4, .int (nI k4))]) hx hb dX5_trace_62 hl (by decide) rfl (fun ls hl => ?_)
        have key_24 : ∀ (fu_26 : Nat) (v5w27 : Int32) (v6w27 : Nat) (gFw27 : Nat → Int32) (M_31 : Hp) (H_32 : Heap) (locs : List Loc) (ls : Array Slot), 8 - v6w27 < fu_26 → M_31 oa = (b5_14 y0 y1 (nI (D9 k3))) → M_31 y0 = .inl (cy 14, 8, .inl (f13)) → M_31 y1 = .inl (cy 14, 8, .inl (gFw27)) → v6w27 ≤ D9 k3 → (∀ j : Nat, j < v6w27 → gFw27 j = nI (wy ow k2 k4 k3 j)) → (v6w27 < D9 k3 → v5w27 = nI (wy ow k2 k4 k3 v6w27)) → WOK cy K L M_31 → fr K L [5, 58, 59] M M_31 → va_P D vwCl ([] ++ va_pl L M_31) H_32 → va_D A ([] ++ va_pl L M_31) → va_S A s.heap H_32 locs → lv_has ls 7 [(6, .int (nI v6w27)), (5, .int v5w27), (0, .ref oa), (1, .ref k1), (2, .int (nI k2)), (3, .int (nI k3)), (4, .int (nI k4))] → W p l e R s m ([.ref oa, .ref k1, .int (nI k2), .int (nI k3), .int (nI k4)] : List Value).toArray below meth c H_32 locs 0 0 Q (F0 m 64 ls []) := by
          intro fu_26
          induction fu_26 with
          | zero => intro v5w27 v6w27 gFw27 M_31 H_32 locs ls h; exact absurd h (Nat.not_lt_zero _)
          | succ fu_26 ih_25 =>
            intro v5w27 v6w27 gFw27 M_31 H_32 locs ls hfu hM_33 hM_34 hM_35 hx_28 hx_29 hx_30 hW hF hP hD hS hl
            refine lv_iload hx hb dX5_trace_64 (lv_at hl 0 rfl) ?_
            refine lv_aload_n hx hb dX5_trace_66 rfl (lv_at hl 2 rfl) ?_
            refine pg_get (D := D) (ci := 5) (v := .int (nI (D9 k3))) (C := RX5) (T := TX5) (N := 3) hx hb hg inG5 hown hK hP ia.1 hM_33 rfl 2 (by decide) (hg _ wd_296) (fun _ h9 => h9) rfl dX5_trace_67 ?_
            refine lv_icmp_ge (tgt := 98) hx hb dX5_trace_70 (by decide) (fun c_36 => ?_) (fun c_36 => ?_)
            · have hz := rfl (a := 0)
              have n_37 : (D9 k3) ≤ v6w27 := (iLE (a := (D9 k3)) (b := v6w27) (by omega) (by omega)).mp c_36
              refine lv_iconst (v := 1) hx hb dX5_trace_98 (by decide) ?_
              rw [hQ]
              exact W.zret (v := 1) hx hb hr rfl (fun t ht hW9 => ⟨⟨1, M_31, rfl, ⟨hW, hF, ⟨fun q9 => absurd (hCI9.snd hk2 (D9 k3) k3 hk3 rfl hD1) q9, fun _ => ⟨D9 k3, hD8, (by rw [cV_of (j := 2) hM_33 rfl]), fun i => by rw [rA_of (j := 1) hM_33 rfl, IFc_of hM_35]; exact hCI9.cir hk2 hk3 hD1 (fun j hj => hx_29 j (by omega)) i⟩⟩, (Or.inl ⟨rfl, hCI9.snd hk2 (D9 k3) k3 hk3 rfl hD1⟩)⟩, ⟨by rw [ht]; exact hP, hD⟩⟩, hS.F ht⟩) hS.2.2 dX5_trace_99
            · have hz := rfl (a := 0)
              have n_38 : ¬ ((D9 k3) ≤ v6w27) := fun q => c_36 ((iLE (a := (D9 k3)) (b := v6w27) (by omega) (by omega)).mpr q)
              have hwl := hCI9.wyl hk2 hk3 v6w27 (by omega)
              obtain ⟨w9, hw9⟩ : ∃ w9, w9 = wy ow k2 k4 k3 v6w27 := ⟨_, rfl⟩
              rw [← hw9] at hwl
              have hwl1 := hwl.1
              have hwl2 := hwl.2
              have hwv : v5w27 = nI w9 := by rw [hw9]; exact hx_30 (by omega)
              have hsv9 := Eq.symm hwv
              subst hsv9
              refine lv_aload_n hx hb dX5_trace_73 rfl (lv_at hl 2 rfl) ?_
              refine pg_get (D := D) (ci := 5) (v := .ref y1) (C := RX5) (T := TX5) (N := 3) hx hb hg inG5 hown hK hP ia.1 hM_33 rfl 1 (by decide) (hg _ wd_297) (fun _ h9 => h9) rfl dX5_trace_74 ?_
              refine lv_iload hx hb dX5_trace_77 (lv_at hl 0 rfl) ?_
              refine lv_iload hx hb dX5_trace_79 (lv_at hl 1 rfl) ?_
              refine pg_iast hx hb hK hP hD hS hy1.1 0 hM_35 rfl (inbN v6w27 8 (by omega) (by omega)) dX5_trace_81 (fun H_39 locs hP hD hS => ?_)
              obtain ⟨M_40, eM_40⟩ : ∃ M1 : Hp, M1 = va_up M_31 y1 (.inl (cy 14, 8, .inl (upd gFw27 ((nI v6w27) : Int32).toNatClampNeg (nI w9)))) := ⟨_, rfl⟩
              have hP : va_P D vwCl ([] ++ va_pl L M_40) H_39 := by rw [eM_40]; exact hP
              have hD : va_D A ([] ++ va_pl L M_40) := by rw [eM_40]; exact hD
              have hW : WOK cy K L M_40 := by rw [eM_40]; exact hW.up_59 hy1 ⟨_, rfl⟩
              have hF : fr K L [5, 58, 59] M M_40 := by rw [eM_40]; exact hF.up hy1 (by decide)
              have hM_41 : M_40 y1 = .inl (cy 14, 8, .inl (upd gFw27 ((nI v6w27) : Int32).toNatClampNeg (nI w9))) := by rw [eM_40]; exact va_up_self _ _ _
              have hM_42 : M_40 oa = (b5_14 y0 y1 (nI (D9 k3))) := by rw [eM_40, va_up_ne _ _ (ia.neT hy1 (by decide))]; exact hM_33
              have hM_43 : M_40 y0 = .inl (cy 14, 8, .inl (f13)) := by rw [eM_40, va_up_ne _ _ (hy0.neT hy1 (by decide))]; exact hM_34
              obtain ⟨f_44, ef_44⟩ : ∃ f : Nat → Int32, f = upd gFw27 ((nI v6w27) : Int32).toNatClampNeg (nI w9) := ⟨_, rfl⟩
              rw [← ef_44] at hM_41
              refine lv_aload_n hx hb dX5_trace_82 rfl (lv_at hl 2 rfl) ?_
              refine lv_aload_n hx hb dX5_trace_83 rfl (lv_at hl 3 rfl) ?_
              refine lv_iload_n hx hb dX5_trace_84 rfl (lv_at hl 4 rfl) ?_
              refine lv_iload hx hb dX5_trace_85 (lv_at hl 1 rfl) ?_
              have hPc : va_P D vwCl ([] ++ va_pl L M_40) H_39 := hP
              have hDc : va_D A ([] ++ va_pl L M_40) := hD
              have hFc : ∀ q, va_A ([] ++ va_pl L M_40) H_39.size q → A q := pg_free hDc hS hA
              refine va_calli (va_runV (As := [.ref k1, .int (nI k2), .int (nI w9)]) (rest := []) ⟨hx, hb, hml, hown, hg⟩ (e_next l D cy K L M_40 H_39.size oa k1 k2 w9 k4 ow D9 y0 y1 (nI (D9 k3)) hW ia ik1 hk2 (by omega) (OWQ.mv hOW hW0 ik1 hk2 hF (by decide) (by decide)) (by rw [IFc_of hM_43]; exact hLKf) hCI9 (by omega) hM_42 hy0 hy1) (cwV 3 hg (gV wd_316 wd_317 wd_318 wd_309 wd_319) rfl rfl rfl (by decide +kernel) ⟨(Nat.le_trans (Nat.le_of_ble_eq_true rfl) hRf), (Nat.le_trans (Nat.le_of_ble_eq_true rfl) hRl)⟩) ⟨PG.blind, pg_recv hK hP ia.1 hM_42 rfl, fun U hU hW => ⟨rfl, PG.at hPc hK hDc hN hU hW⟩⟩ rfl rfl hl.1 rfl (lv_room (Nat.le_of_ble_eq_true rfl)) dX5_trace_87 ⟨(Nat.le_trans (Nat.le_of_ble_eq_true rfl) hRc), (Nat.le_trans (Nat.le_of_ble_eq_true rfl) hRs)⟩) hS (fun q _ h => hFc q h) hFc (fun r_46 M_47 t H_45 locs ht hvm hw hB hz1 hk1 hS => ?_)
              have hp_48 := hw
              obtain ⟨hP1, hD1⟩ := hB
              rw [ht] at hP1
              have hP : va_P D vwCl ([] ++ va_pl L M_40) H_45 := hP1
              have hD : va_D A ([] ++ va_pl L M_40) := hD1.mono hFc
              obtain rfl := hp_48
              refine lv_istore (lv' := [(5, .int (nxI ow k2 k4 D9 w9)), (6, .int (nI v6w27)), (0, .ref oa), (1, .ref k1), (2, .int (nI k2)), (3, .int (nI k3)), (4, .int (nI k4))]) hx hb dX5_trace_90 hl (by decide) rfl (fun ls hl => ?_)
              refine lv_iinc (v := (nI (v6w27 + 1))) (lv' := [(6, .int (nI (v6w27 + 1))), (5, .int (nxI ow k2 k4 D9 w9)), (0, .ref oa), (1, .ref k1), (2, .int (nI k2)), (3, .int (nI k3)), (4, .int (nI k4))]) hx hb dX5_trace_92 hl (k := 1) rfl (nI_1 v6w27) (by decide) rfl (fun ls hl => ?_)
              refine lv_goto (tgt := 64) hx hb dX5_trace_95 (by decide) ?_
              exact ih_25 (nxI ow k2 k4 D9 w9) (v6w27 + 1) f_44 M_40 H_45 _ _ (by omega) hM_42 hM_43 hM_41 (by omega) (by rw [ef_44]; intro j hj; by_cases z9 : j = v6w27; rw [z9, upd_at (nI_cl (by omega)), hw9]; rw [upd_ne _ _ (by rw [nI_cl (by omega)]; exact z9)]; exact hx_29 j (by omega)) (fun q9 => by unfold nxI; rw [if_pos (by omega), hw9]; rfl) hW hF hP hD hS (lv_sub hl [0, 1, 2, 3, 4, 5, 6] rfl)
        exact key_24 (8 - 0 + 1) (nI k3) 0 f23 M_20 H_19 _ _ (by omega) hM_21 hM_22 hM23 (by omega) (fun j hj => absurd hj (Nat.not_lt_zero _)) (fun _ => rfl) hW hF hP hD hS (lv_sub hl [0, 1, 2, 3, 4, 5, 6] rfl)
      · have hz := rfl (a := 0)
        refine lv_iconst (v := 0) hx hb dX5_trace_41 (by decide) ?_
        have hnR : ¬ RCH ow k2 k4 k3 := fun ⟨d9, q9⟩ => by have h8 := hCI9.cpl hk2 d9 k3 hk3 q9; have h7 := c_15; rw [hfd] at h7; have h6 := (iEQ (a := D9 k3) (b := 0) (by omega) (by decide)).mp h7; omega
        rw [hQ]
        exact W.zret (v := 0) hx hb hr rfl (fun t ht hW9 => ⟨⟨0, M_10, rfl, ⟨hW, hF, ⟨fun _ => hRS, fun q9 => absurd q9 (fun ⟨d9, q9⟩ => by have h8 := hCI9.cpl hk2 d9 k3 hk3 q9; have h7 := c_15; rw [hfd] at h7; have h6 := (iEQ (a := D9 k3) (b := 0) (by omega) (by decide)).mp h7; omega)⟩, (Or.inr ⟨rfl, hnR⟩)⟩, ⟨by rw [ht]; exact hP, hD⟩⟩, hS.F ht⟩) hS.2.2 dX5_trace_42
    · have hz := rfl (a := 0)
      have n_49 : ¬ (k4 < 8) := fun q => c_6 ((iLT (a := k4) (b := 8) (by omega) (by omega)).mpr q)
      refine lv_iconst (v := 0) hx hb dX5_trace_22 (by decide) ?_
      rw [hQ]
      exact W.zret (v := 0) hx hb hr rfl (fun t ht hW9 => ⟨⟨0, M, rfl, ⟨hW, hF, (by exfalso; omega), (by exfalso; omega)⟩, ⟨by rw [ht]; exact hP, hD⟩⟩, hS.F ht⟩) hS.2.2 dX5_trace_23
theorem tn1 {M : Hp} {b i t : Nat} (h : RFc (M (rA 2 M b 8)) i = some t) (hi : i < 24) : cax M b 28 i = 1 := by
  show vTn M b i = _
  unfold vTn
  rw [if_pos hi, h]
theorem tnone {M : Hp} {b i : Nat} (h : cax M b 28 i ≠ 1) (hi : i < 24) : RFc (M (rA 2 M b 8)) i = none := by
  cases e : RFc (M (rA 2 M b 8)) i with
  | none => rfl
  | some t => exact absurd (tn1 e hi) h
set_option maxHeartbeats 4000000 in
set_option maxRecDepth 100000 in
theorem e_vacant (l : Launch) (D : va_G) (cy : Nat → ClassId) (K : Kp) (L : List Nat) (M : Hp) (sz : Nat) (oa : Nat) (k1 : Int32) (k2 : Int32) (hW : WOK cy K L M) (ia : isk K L oa 2 0) : Met l yX2_isVacantFrom (wsM yX2_isVacantFrom cX2_isVacantFrom 5 (some .boolean)) ({ frames := 1, cells := 0, slots := 0, locals := 21 }) (va_Pc [.ref oa, .int k1, .int k2] (PG D cy [] L M sz)) (va_Qi (fun (r : Int32) (_ : Unit) => (r = 1 ∧ (∀ i : Nat, (i : Int) < (cV 2 M oa 9).toInt → cax M oa 28 i = 1 → cax M oa 20 i = k1 → ((cax M oa 22 i).toInt ≠ -1 ∧ (cax M oa 22 i).toInt ≤ k2.toInt))) ∨ (r = 0 ∧ ¬ (∀ i : Nat, (i : Int) < (cV 2 M oa 9).toInt → cax M oa 28 i = 1 → cax M oa 20 i = k1 → ((cax M oa 22 i).toInt ≠ -1 ∧ (cax M oa 22 i).toInt ≤ k2.toInt)))) (fun _ t => PQ D [] L M (va_A ([] ++ va_pl L M) sz) t) (va_A ([] ++ va_pl L M) sz)) 0 0 (va_A ([] ++ va_pl L M) sz) := by
  refine Met.ofW (cc := cX2_isVacantFrom) (maxL := 5) (ret := (some .boolean)) (by decide) rfl ?_
  intro p e s m args below meth c s₁ B hml hv
  obtain ⟨rfl, hsz, hP, hK, hD0, hN⟩ := hv
  have hx := B.exec
  have hb := B.bytes
  have hr := B.returns
  have hts := atoms_spec (ws := (wsM yX2_isVacantFrom cX2_isVacantFrom 5 (some .boolean))) B.pre
  have hg : ∀ w ∈ lw_good, w.before _ s = true := fun w h => hts w (List.mem_cons_of_mem _ h)
  have hown : s.vm.findClass RX2 = some m.cls := findClass_of_methodNamed B.named
  have hlocks := B.notSynchronized
  subst hsz
  have hD := hD0.self (sz := s.heap.size)
  generalize hAe : va_A ([] ++ va_pl L M) s.heap.size = A at hD ⊢
  have hA : ∀ q : Nat, s.heap.size ≤ q → A q := fun q h => by rw [← hAe]; exact Or.inr h
  have hS : va_S A s.heap s.heap [] := va_S.rf
  have hl := lv_entry ([.ref oa, .int k1, .int k2]) (n := 5) (Nat.le_of_ble_eq_true rfl)
  rw [lg_entry_eq]
  generalize (lg_sl ([.ref oa, .int k1, .int k2]) ++ List.replicate (5 - (lg_sl ([.ref oa, .int k1, .int k2])).length) Slot.unset).toArray = ls at hl ⊢
  refine W.nameQ (fun Q hQ => ?_)
  refine W.nameR (fun R hR => ?_)
  have hRf : 1 ≤ R.frames := by rw [hR]; exact Nat.le_of_ble_eq_true rfl
  have hRl : 21 ≤ R.locals := by rw [hR]; exact Nat.le_of_ble_eq_true rfl
  have hRc : 0 ≤ R.cells := by rw [hR]; exact Nat.le_of_ble_eq_true rfl
  have hRs : 0 ≤ R.slots := by rw [hR]; exact Nat.le_of_ble_eq_true rfl
  have hl : lv_has ls 5 [(0, .ref oa), (1, .int k1), (2, .int k2)] := hl
  refine lv_iconst (v := 0) hx hb dX2_isVacantFrom_0 (by decide) ?_
  refine lv_istore_n (lv' := [(3, .int 0), (0, .ref oa), (1, .int k1), (2, .int k2)]) hx hb dX2_isVacantFrom_1 rfl hl (by decide) rfl (fun ls hl => ?_)
  obtain ⟨v1_0, v1_1, v1_2, v1_3, v1_4, v1_5, v1_6, v1_7, v1_8, v1_9, v1_10, v1_11, v1_12, v1_13, v1_14, v1_15, v1_16, v1_17, v1_18, v1_19, hM1, h1_3, h1_4, h1_5, h1_6, h1_7, h1_8, h1_9, h1_10, h1_11, h1_12, h1_13, h1_16, h1_17, h1_18, h1_19⟩ := hW.open_2 ia
  have key_2 : ∀ (fu_4 : Nat) (v3w5 : Nat) (H_8 : Heap) (locs : List Loc) (ls : Array Slot), 24 - v3w5 < fu_4 → v3w5 ≤ 24 → (∀ i : Nat, i < v3w5 → cax M oa 28 i = 1 → cax M oa 20 i = k1 → ((cax M oa 22 i).toInt ≠ -1 ∧ (cax M oa 22 i).toInt ≤ k2.toInt)) → WOK cy K L M → va_P D vwCl ([] ++ va_pl L M) H_8 → va_D A ([] ++ va_pl L M) → va_S A s.heap H_8 locs → lv_has ls 5 [(3, .int (nI v3w5)), (0, .ref oa), (1, .int k1), (2, .int k2)] → W p l e R s m ([.ref oa, .int k1, .int k2] : List Value).toArray below meth c H_8 locs 0 0 Q (F0 m 2 ls []) := by
    intro fu_4
    induction fu_4 with
    | zero => intro v3w5 H_8 locs ls h; exact absurd h (Nat.not_lt_zero _)
    | succ fu_4 ih_3 =>
      intro v3w5 H_8 locs ls hfu hx_6 hx_7 hW hP hD hS hl
      refine lv_iload_n hx hb dX2_isVacantFrom_2 rfl (lv_at hl 0 rfl) ?_
      refine lv_aload_n hx hb dX2_isVacantFrom_3 rfl (lv_at hl 1 rfl) ?_
      refine pg_get (D := D) (ci := 2) (v := .int (nI v1_9)) (C := RX2) (T := TX2) (N := 20) hx hb hg inG2 hown hK hP ia.1 hM1 rfl 9 (by decide) (hg _ wd_44) (fun _ h9 => h9) rfl dX2_isVacantFrom_4 ?_
      refine lv_icmp_ge (tgt := 56) hx hb dX2_isVacantFrom_7 (by decide) (fun c_9 => ?_) (fun c_9 => ?_)
      · have hz := rfl (a := 0)
        have n_10 : v1_9 ≤ v3w5 := (iLE (a := v1_9) (b := v3w5) (by omega) (by omega)).mp c_9
        refine lv_iconst (v := 1) hx hb dX2_isVacantFrom_56 (by decide) ?_
        have hA_11 : (cV 2 M oa 0).toInt = (v1_0 : Int32).toInt := by rw [cV_of hM1 rfl]
        have hA_12 : (cV 2 M oa 1).toInt = (v1_1 : Int32).toInt := by rw [cV_of hM1 rfl]
        have hA_13 : (cV 2 M oa 2).toInt = (v1_2 : Int32).toInt := by rw [cV_of hM1 rfl]
        have hA_14 : (cV 2 M oa 4).toInt = ((v1_4 : Nat) : Int) := by rw [cV_of hM1 rfl]; exact nI_toInt (by omega)
        have hA_15 : (cV 2 M oa 5).toInt = ((v1_5 : Nat) : Int) := by rw [cV_of hM1 rfl]; exact nI_toInt (by omega)
        have hA_16 : (cV 2 M oa 9).toInt = ((v1_9 : Nat) : Int) := by rw [cV_of hM1 rfl]; exact nI_toInt (by omega)
        have hA_17 : (cV 2 M oa 11).toInt = ((v1_11 : Nat) : Int) := by rw [cV_of hM1 rfl]; exact nI_toInt (by omega)
        have hA_18 : (cV 2 M oa 15).toInt = (v1_15 : Int32).toInt := by rw [cV_of hM1 rfl]
        have hI_19 : ((v1_9 : Nat) : Int) ≤ ((v3w5 : Nat) : Int) := ileI (nI_toInt (by omega)) (nI_toInt (by omega)) c_9
        rw [hQ]
        exact W.zret (v := 1) hx hb hr rfl (fun t ht hW9 => ⟨⟨1, (), rfl, (Or.inl ⟨rfl, fun i hi h28 h20q => hx_7 i (by omega) h28 h20q⟩), ⟨by rw [ht]; exact hP, hD⟩⟩, hS.F ht⟩) hS.2.2 dX2_isVacantFrom_57
      · have hz := rfl (a := 0)
        have n_20 : ¬ (v1_9 ≤ v3w5) := fun q => c_9 ((iLE (a := v1_9) (b := v3w5) (by omega) (by omega)).mpr q)
        refine lv_aload_n hx hb dX2_isVacantFrom_10 rfl (lv_at hl 1 rfl) ?_
        refine lv_iload_n hx hb dX2_isVacantFrom_11 rfl (lv_at hl 0 rfl) ?_
        have hPc : va_P D vwCl ([] ++ va_pl L M) H_8 := hP
        have hDc : va_D A ([] ++ va_pl L M) := hD
        have hFc : ∀ q, va_A ([] ++ va_pl L M) H_8.size q → A q := pg_free hDc hS hA
        refine va_callq (va_runV (As := [.int (nI v3w5)]) (rest := []) ⟨hx, hb, hml, hown, hg⟩ (e_X2_tenureAt l D cy K L M H_8.size oa (nI v3w5)  hW ia) (cwV 1 hg (gV wd_54 wd_55 wd_56 wd_57 wd_58) rfl rfl rfl (by decide +kernel) ⟨(Nat.le_trans (Nat.le_of_ble_eq_true rfl) hRf), (Nat.le_trans (Nat.le_of_ble_eq_true rfl) hRl)⟩) ⟨PG.blind, pg_recv hK hP ia.1 hM1 rfl, fun U hU hW => ⟨rfl, PG.at hPc hK hDc hN hU hW⟩⟩ rfl rfl hl.1 rfl (lv_room (Nat.le_of_ble_eq_true rfl)) dX2_isVacantFrom_12 ⟨(Nat.le_trans (Nat.le_of_ble_eq_true rfl) hRc), (Nat.le_trans (Nat.le_of_ble_eq_true rfl) hRs)⟩) hS (fun q _ h => hFc q h) hFc (fun r_22 M_23 t H_21 locs ht hvm hw hB hz1 hk1 hS => ?_)
        have hp_24 := hw
        obtain ⟨hP1, hD1⟩ := hB
        rw [ht] at hP1
        have hP : va_P D vwCl ([] ++ va_pl L M) H_21 := hP1
        have hD : va_D A ([] ++ va_pl L M) := hD1.mono hFc
        obtain ⟨hp_24, hqx⟩ := hp_24
        rcases r_22 with _ | b_25
        · have hz := rfl (a := 0)
          have hqt := hqx
          refine lv_astoreN (lv' := [(4, .null), (3, .int (nI v3w5)), (0, .ref oa), (1, .int k1), (2, .int k2)]) hx hb dX2_isVacantFrom_15 hl (by decide) rfl (fun ls hl => ?_)
          refine lv_aloadN hx hb dX2_isVacantFrom_17 (lv_at hl 0 rfl) ?_
          refine lv_ifnullN (tgt := 50) hx hb dX2_isVacantFrom_19 (by decide) ?_
          refine lv_iinc (v := (nI (v3w5 + 1))) (lv' := [(3, .int (nI (v3w5 + 1))), (4, .null), (0, .ref oa), (1, .int k1), (2, .int k2)]) hx hb dX2_isVacantFrom_50 hl (k := 1) rfl (nI_1 v3w5) (by decide) rfl (fun ls hl => ?_)
          refine lv_goto (tgt := 2) hx hb dX2_isVacantFrom_53 (by decide) ?_
          have hA_26 : (cV 2 M oa 0).toInt = (v1_0 : Int32).toInt := by rw [cV_of hM1 rfl]
          have hA_27 : (cV 2 M oa 1).toInt = (v1_1 : Int32).toInt := by rw [cV_of hM1 rfl]
          have hA_28 : (cV 2 M oa 2).toInt = (v1_2 : Int32).toInt := by rw [cV_of hM1 rfl]
          have hA_29 : (cV 2 M oa 4).toInt = ((v1_4 : Nat) : Int) := by rw [cV_of hM1 rfl]; exact nI_toInt (by omega)
          have hA_30 : (cV 2 M oa 5).toInt = ((v1_5 : Nat) : Int) := by rw [cV_of hM1 rfl]; exact nI_toInt (by omega)
          have hA_31 : (cV 2 M oa 9).toInt = ((v1_9 : Nat) : Int) := by rw [cV_of hM1 rfl]; exact nI_toInt (by omega)
          have hA_32 : (cV 2 M oa 11).toInt = ((v1_11 : Nat) : Int) := by rw [cV_of hM1 rfl]; exact nI_toInt (by omega)
          have hA_33 : (cV 2 M oa 15).toInt = (v1_15 : Int32).toInt := by rw [cV_of hM1 rfl]
          have hI_34 : ((v3w5 : Nat) : Int) < ((v1_9 : Nat) : Int) := inleI (nI_toInt (by omega)) (nI_toInt (by omega)) c_9
          exact ih_3 (v3w5 + 1) H_21 _ _ (by omega) (by omega) (fun i hi h28 h20q => by by_cases z9 : ¬ i = v3w5; exact hx_7 i (by omega) h28 h20q; have z9 := Classical.not_not.mp z9; subst z9; exfalso; rcases hqt.2 rfl with q9 | q9; exact q9 (by rw [nI_toInt (by omega)]; omega); rw [nI_cl (by omega)] at q9; rw [tn0 q9 (by omega)] at h28; exact absurd h28 (by decide)) hW hP hD hS (lv_sub hl [0, 2, 3, 4] rfl)
        · have hb_35 := hp_24 b_25 rfl
          have hqt := hqx
          refine lv_astore (lv' := [(4, .ref b_25), (3, .int (nI v3w5)), (0, .ref oa), (1, .int k1), (2, .int k2)]) hx hb dX2_isVacantFrom_15 hl (by decide) rfl (fun ls hl => ?_)
          refine lv_aload hx hb dX2_isVacantFrom_17 (lv_at hl 0 rfl) ?_
          refine lv_ifnull hx hb dX2_isVacantFrom_19 ?_
          refine lv_aload hx hb dX2_isVacantFrom_22 (lv_at hl 0 rfl) ?_
          obtain ⟨v36_0, v36_1, v36_2, v36_3, v36_4, v36_5, v36_6, v36_7, v36_8, v36_9, v36_10, v36_11, v36_12, v36_13, v36_14, v36_15, hM36, h36_0, h36_1, h36_4, h36_8⟩ := hW.open_9 hb_35
          refine pg_get (D := D) (ci := 9) (v := .int v36_2) (C := RX9) (T := TX9) (N := 16) hx hb hg inG9 hown hK hP hb_35.1 hM36 rfl 2 (by decide) (hg _ wd_59) (fun _ h9 => h9) rfl dX2_isVacantFrom_24 ?_
          refine lv_iload_n hx hb dX2_isVacantFrom_27 rfl (lv_at hl 3 rfl) ?_
          refine lv_icmp_ne (tgt := 50) hx hb dX2_isVacantFrom_28 (by decide) (fun c_37 => ?_) (fun c_37 => ?_)
          · have hz := rfl (a := 0)
            refine lv_iinc (v := (nI (v3w5 + 1))) (lv' := [(3, .int (nI (v3w5 + 1))), (4, .ref b_25), (0, .ref oa), (1, .int k1), (2, .int k2)]) hx hb dX2_isVacantFrom_50 hl (k := 1) rfl (nI_1 v3w5) (by decide) rfl (fun ls hl => ?_)
            refine lv_goto (tgt := 2) hx hb dX2_isVacantFrom_53 (by decide) ?_
            have hI_38 : ((v3w5 : Nat) : Int) < ((v1_9 : Nat) : Int) := inleI (nI_toInt (by omega)) (nI_toInt (by omega)) c_9
            have hI_39 : (v36_2 : Int32).toInt ≠ (k1 : Int32).toInt := ineI rfl rfl c_37
            have hA_40 : (cV 2 M oa 0).toInt = (v1_0 : Int32).toInt := by rw [cV_of hM1 rfl]
            have hA_41 : (cV 2 M oa 1).toInt = (v1_1 : Int32).toInt := by rw [cV_of hM1 rfl]
            have hA_42 : (cV 2 M oa 2).toInt = (v1_2 : Int32).toInt := by rw [cV_of hM1 rfl]
            have hA_43 : (cV 2 M oa 4).toInt = ((v1_4 : Nat) : Int) := by rw [cV_of hM1 rfl]; exact nI_toInt (by omega)
            have hA_44 : (cV 2 M oa 5).toInt = ((v1_5 : Nat) : Int) := by rw [cV_of hM1 rfl]; exact nI_toInt (by omega)
            have hA_45 : (cV 2 M oa 9).toInt = ((v1_9 : Nat) : Int) := by rw [cV_of hM1 rfl]; exact nI_toInt (by omega)
            have hA_46 : (cV 2 M oa 11).toInt = ((v1_11 : Nat) : Int) := by rw [cV_of hM1 rfl]; exact nI_toInt (by omega)
            have hA_47 : (cV 2 M oa 15).toInt = (v1_15 : Int32).toInt := by rw [cV_of hM1 rfl]
            have hA_48 : (cV 9 M b_25 0).toInt = ((v36_0 : Nat) : Int) := by rw [cV_of hM36 rfl]; exact nI_toInt (by omega)
            have hA_49 : (cV 9 M b_25 2).toInt = (v36_2 : Int32).toInt := by rw [cV_of hM36 rfl]
            have hA_50 : (cV 9 M b_25 3).toInt = (v36_3 : Int32).toInt := by rw [cV_of hM36 rfl]
            have hA_51 : (cV 9 M b_25 4).toInt = (v36_4 : Int32).toInt := by rw [cV_of hM36 rfl]
            have hA_52 : (cV 9 M b_25 5).toInt = (v36_5 : Int32).toInt := by rw [cV_of hM36 rfl]
            have hA_53 : (cV 9 M b_25 6).toInt = (v36_6 : Int32).toInt := by rw [cV_of hM36 rfl]
            have hA_54 : (cV 9 M b_25 7).toInt = (v36_7 : Int32).toInt := by rw [cV_of hM36 rfl]
            obtain ⟨hq9, hs9⟩ := hqt.1 b_25 rfl
            rw [nI_cl (by omega)] at hs9
            have hlt := lk_te hs9 (by omega)
            have h20 := congrArg Int32.toInt hlt.2.1
            have h22 := congrArg Int32.toInt hlt.2.2.2.1
            exact ih_3 (v3w5 + 1) H_21 _ _ (by omega) (by omega) (fun i hi h28 h20q => by by_cases z9 : ¬ i = v3w5; exact hx_7 i (by omega) h28 h20q; have z9 := Classical.not_not.mp z9; subst z9; exfalso; exact c_37 (by rw [← h20q, hlt.2.1]; exact (cV_of hM36 rfl).symm)) hW hP hD hS (lv_sub hl [0, 2, 3, 4] rfl)
          · have hz := rfl (a := 0)
            refine lv_aload hx hb dX2_isVacantFrom_31 (lv_at hl 0 rfl) ?_
            have hPc : va_P D vwCl ([] ++ va_pl L M) H_21 := hP
            have hDc : va_D A ([] ++ va_pl L M) := hD
            have hFc : ∀ q, va_A ([] ++ va_pl L M) H_21.size q → A q := pg_free hDc hS hA
            refine va_calli (va_runV (As := []) (rest := []) ⟨hx, hb, hml, hown, hg⟩ (e_X9_hasEnded l D cy K L M H_21.size b_25  hW hb_35) (cwV 0 hg (gV wd_49 wd_50 wd_51 wd_52 wd_53) rfl rfl rfl (by decide +kernel) ⟨(Nat.le_trans (Nat.le_of_ble_eq_true rfl) hRf), (Nat.le_trans (Nat.le_of_ble_eq_true rfl) hRl)⟩) ⟨PG.blind, pg_recv hK hP hb_35.1 hM36 rfl, fun U hU hW => ⟨rfl, PG.at hPc hK hDc hN hU hW⟩⟩ rfl rfl hl.1 rfl (lv_room (Nat.le_of_ble_eq_true rfl)) dX2_isVacantFrom_33 ⟨(Nat.le_trans (Nat.le_of_ble_eq_true rfl) hRc), (Nat.le_trans (Nat.le_of_ble_eq_true rfl) hRs)⟩) hS (fun q _ h => hFc q h) hFc (fun r_56 M_57 t H_55 locs ht hvm hw hB hz1 hk1 hS => ?_)
            have hp_58 := hw
            obtain ⟨hP1, hD1⟩ := hB
            rw [ht] at hP1
            have hP : va_P D vwCl ([] ++ va_pl L M) H_55 := hP1
            have hD : va_D A ([] ++ va_pl L M) := hD1.mono hFc
            rcases hp_58 with ⟨rfl, c_59⟩ | ⟨rfl, c_60⟩
            · have hz := rfl (a := 0)
              refine lv_if_eq (tgt := 48) hx hb dX2_isVacantFrom_36 (by decide) (fun c_61 => absurd c_61 (by decide)) (fun _ => ?_)
              refine lv_aload hx hb dX2_isVacantFrom_39 (lv_at hl 0 rfl) ?_
              refine pg_get (D := D) (ci := 9) (v := .int v36_5) (C := RX9) (T := TX9) (N := 16) hx hb hg inG9 hown hK hP hb_35.1 hM36 rfl 5 (by decide) (hg _ wd_60) (fun _ h9 => h9) rfl dX2_isVacantFrom_41 ?_
              refine lv_iload_n hx hb dX2_isVacantFrom_44 rfl (lv_at hl 4 rfl) ?_
              refine lv_icmp_le (tgt := 50) hx hb dX2_isVacantFrom_45 (by decide) (fun c_62 => ?_) (fun c_62 => ?_)
              · have hz := rfl (a := 0)
                refine lv_iinc (v := (nI (v3w5 + 1))) (lv' := [(3, .int (nI (v3w5 + 1))), (4, .ref b_25), (0, .ref oa), (1, .int k1), (2, .int k2)]) hx hb dX2_isVacantFrom_50 hl (k := 1) rfl (nI_1 v3w5) (by decide) rfl (fun ls hl => ?_)
                refine lv_goto (tgt := 2) hx hb dX2_isVacantFrom_53 (by decide) ?_
                have hI_63 : ((v3w5 : Nat) : Int) < ((v1_9 : Nat) : Int) := inleI (nI_toInt (by omega)) (nI_toInt (by omega)) c_9
                have hI_64 : (v36_2 : Int32).toInt = (k1 : Int32).toInt := ieqI rfl rfl c_37
                have hI_65 : (v36_5 : Int32).toInt ≤ (k2 : Int32).toInt := ileI rfl rfl c_62
                have hA_66 : (cV 2 M oa 0).toInt = (v1_0 : Int32).toInt := by rw [cV_of hM1 rfl]
                have hA_67 : (cV 2 M oa 1).toInt = (v1_1 : Int32).toInt := by rw [cV_of hM1 rfl]
                have hA_68 : (cV 2 M oa 2).toInt = (v1_2 : Int32).toInt := by rw [cV_of hM1 rfl]
                have hA_69 : (cV 2 M oa 4).toInt = ((v1_4 : Nat) : Int) := by rw [cV_of hM1 rfl]; exact nI_toInt (by omega)
                have hA_70 : (cV 2 M oa 5).toInt = ((v1_5 : Nat) : Int) := by rw [cV_of hM1 rfl]; exact nI_toInt (by omega)
                have hA_71 : (cV 2 M oa 9).toInt = ((v1_9 : Nat) : Int) := by rw [cV_of hM1 rfl]; exact nI_toInt (by omega)
                have hA_72 : (cV 2 M oa 11).toInt = ((v1_11 : Nat) : Int) := by rw [cV_of hM1 rfl]; exact nI_toInt (by omega)
                have hA_73 : (cV 2 M oa 15).toInt = (v1_15 : Int32).toInt := by rw [cV_of hM1 rfl]
                have hA_74 : (cV 9 M b_25 0).toInt = ((v36_0 : Nat) : Int) := by rw [cV_of hM36 rfl]; exact nI_toInt (by omega)
                have hA_75 : (cV 9 M b_25 2).toInt = (v36_2 : Int32).toInt := by rw [cV_of hM36 rfl]
                have hA_76 : (cV 9 M b_25 3).toInt = (v36_3 : Int32).toInt := by rw [cV_of hM36 rfl]
                have hA_77 : (cV 9 M b_25 4).toInt = (v36_4 : Int32).toInt := by rw [cV_of hM36 rfl]
                have hA_78 : (cV 9 M b_25 5).toInt = (v36_5 : Int32).toInt := by rw [cV_of hM36 rfl]
                have hA_79 : (cV 9 M b_25 6).toInt = (v36_6 : Int32).toInt := by rw [cV_of hM36 rfl]
                have hA_80 : (cV 9 M b_25 7).toInt = (v36_7 : Int32).toInt := by rw [cV_of hM36 rfl]
                obtain ⟨hq9, hs9⟩ := hqt.1 b_25 rfl
                rw [nI_cl (by omega)] at hs9
                have hlt := lk_te hs9 (by omega)
                have h20 := congrArg Int32.toInt hlt.2.1
                have h22 := congrArg Int32.toInt hlt.2.2.2.1
                exact ih_3 (v3w5 + 1) H_55 _ _ (by omega) (by omega) (fun i hi h28 h20q => by by_cases z9 : ¬ i = v3w5; exact hx_7 i (by omega) h28 h20q; have z9 := Classical.not_not.mp z9; subst z9; exact ⟨by omega, by omega⟩) hW hP hD hS (lv_sub hl [0, 2, 3, 4] rfl)
              · have hz := rfl (a := 0)
                refine lv_iconst (v := 0) hx hb dX2_isVacantFrom_48 (by decide) ?_
                have hA_81 : (cV 2 M oa 0).toInt = (v1_0 : Int32).toInt := by rw [cV_of hM1 rfl]
                have hA_82 : (cV 2 M oa 1).toInt = (v1_1 : Int32).toInt := by rw [cV_of hM1 rfl]
                have hA_83 : (cV 2 M oa 2).toInt = (v1_2 : Int32).toInt := by rw [cV_of hM1 rfl]
                have hA_84 : (cV 2 M oa 4).toInt = ((v1_4 : Nat) : Int) := by rw [cV_of hM1 rfl]; exact nI_toInt (by omega)
                have hA_85 : (cV 2 M oa 5).toInt = ((v1_5 : Nat) : Int) := by rw [cV_of hM1 rfl]; exact nI_toInt (by omega)
                have hA_86 : (cV 2 M oa 9).toInt = ((v1_9 : Nat) : Int) := by rw [cV_of hM1 rfl]; exact nI_toInt (by omega)
                have hA_87 : (cV 2 M oa 11).toInt = ((v1_11 : Nat) : Int) := by rw [cV_of hM1 rfl]; exact nI_toInt (by omega)
                have hA_88 : (cV 2 M oa 15).toInt = (v1_15 : Int32).toInt := by rw [cV_of hM1 rfl]
                have hA_89 : (cV 9 M b_25 0).toInt = ((v36_0 : Nat) : Int) := by rw [cV_of hM36 rfl]; exact nI_toInt (by omega)
                have hA_90 : (cV 9 M b_25 2).toInt = (v36_2 : Int32).toInt := by rw [cV_of hM36 rfl]
                have hA_91 : (cV 9 M b_25 3).toInt = (v36_3 : Int32).toInt := by rw [cV_of hM36 rfl]
                have hA_92 : (cV 9 M b_25 4).toInt = (v36_4 : Int32).toInt := by rw [cV_of hM36 rfl]
                have hA_93 : (cV 9 M b_25 5).toInt = (v36_5 : Int32).toInt := by rw [cV_of hM36 rfl]
                have hA_94 : (cV 9 M b_25 6).toInt = (v36_6 : Int32).toInt := by rw [cV_of hM36 rfl]
                have hA_95 : (cV 9 M b_25 7).toInt = (v36_7 : Int32).toInt := by rw [cV_of hM36 rfl]
                have hI_96 : ((v3w5 : Nat) : Int) < ((v1_9 : Nat) : Int) := inleI (nI_toInt (by omega)) (nI_toInt (by omega)) c_9
                have hI_97 : (v36_2 : Int32).toInt = (k1 : Int32).toInt := ieqI rfl rfl c_37
                have hI_98 : (k2 : Int32).toInt < (v36_5 : Int32).toInt := inleI rfl rfl c_62
                obtain ⟨hq9, hs9⟩ := hqt.1 b_25 rfl
                rw [nI_cl (by omega)] at hs9
                have hlt := lk_te hs9 (by omega)
                have h20 := congrArg Int32.toInt hlt.2.1
                have h22 := congrArg Int32.toInt hlt.2.2.2.1
                rw [hQ]
                exact W.zret (v := 0) hx hb hr rfl (fun t ht hW9 => ⟨⟨0, (), rfl, (Or.inr ⟨rfl, fun q9 => by have h9 := q9 v3w5 (by omega) (tn1 hs9 (by omega)) (by rw [hlt.2.1, cV_of hM36 rfl]; exact c_37); omega⟩), ⟨by rw [ht]; exact hP, hD⟩⟩, hS.F ht⟩) hS.2.2 dX2_isVacantFrom_49
            · have hz := rfl (a := 0)
              refine lv_if_eq (tgt := 48) hx hb dX2_isVacantFrom_36 (by decide) (fun _ => ?_) (fun c_99 => absurd c_99 (by decide))
              refine lv_iconst (v := 0) hx hb dX2_isVacantFrom_48 (by decide) ?_
              have hA_100 : (cV 2 M oa 0).toInt = (v1_0 : Int32).toInt := by rw [cV_of hM1 rfl]
              have hA_101 : (cV 2 M oa 1).toInt = (v1_1 : Int32).toInt := by rw [cV_of hM1 rfl]
              have hA_102 : (cV 2 M oa 2).toInt = (v1_2 : Int32).toInt := by rw [cV_of hM1 rfl]
              have hA_103 : (cV 2 M oa 4).toInt = ((v1_4 : Nat) : Int) := by rw [cV_of hM1 rfl]; exact nI_toInt (by omega)
              have hA_104 : (cV 2 M oa 5).toInt = ((v1_5 : Nat) : Int) := by rw [cV_of hM1 rfl]; exact nI_toInt (by omega)
              have hA_105 : (cV 2 M oa 9).toInt = ((v1_9 : Nat) : Int) := by rw [cV_of hM1 rfl]; exact nI_toInt (by omega)
              have hA_106 : (cV 2 M oa 11).toInt = ((v1_11 : Nat) : Int) := by rw [cV_of hM1 rfl]; exact nI_toInt (by omega)
              have hA_107 : (cV 2 M oa 15).toInt = (v1_15 : Int32).toInt := by rw [cV_of hM1 rfl]
              have hA_108 : (cV 9 M b_25 0).toInt = ((v36_0 : Nat) : Int) := by rw [cV_of hM36 rfl]; exact nI_toInt (by omega)
              have hA_109 : (cV 9 M b_25 2).toInt = (v36_2 : Int32).toInt := by rw [cV_of hM36 rfl]
              have hA_110 : (cV 9 M b_25 3).toInt = (v36_3 : Int32).toInt := by rw [cV_of hM36 rfl]
              have hA_111 : (cV 9 M b_25 4).toInt = (v36_4 : Int32).toInt := by rw [cV_of hM36 rfl]
              have hA_112 : (cV 9 M b_25 5).toInt = (v36_5 : Int32).toInt := by rw [cV_of hM36 rfl]
              have hA_113 : (cV 9 M b_25 6).toInt = (v36_6 : Int32).toInt := by rw [cV_of hM36 rfl]
              have hA_114 : (cV 9 M b_25 7).toInt = (v36_7 : Int32).toInt := by rw [cV_of hM36 rfl]
              have hI_115 : ((v3w5 : Nat) : Int) < ((v1_9 : Nat) : Int) := inleI (nI_toInt (by omega)) (nI_toInt (by omega)) c_9
              have hI_116 : (v36_2 : Int32).toInt = (k1 : Int32).toInt := ieqI rfl rfl c_37
              obtain ⟨hq9, hs9⟩ := hqt.1 b_25 rfl
              rw [nI_cl (by omega)] at hs9
              have hlt := lk_te hs9 (by omega)
              have h20 := congrArg Int32.toInt hlt.2.1
              have h22 := congrArg Int32.toInt hlt.2.2.2.1
              rw [hQ]
              exact W.zret (v := 0) hx hb hr rfl (fun t ht hW9 => ⟨⟨0, (), rfl, (Or.inr ⟨rfl, fun q9 => by have h9 := q9 v3w5 (by omega) (tn1 hs9 (by omega)) (by rw [hlt.2.1, cV_of hM36 rfl]; exact c_37); omega⟩), ⟨by rw [ht]; exact hP, hD⟩⟩, hS.F ht⟩) hS.2.2 dX2_isVacantFrom_49
  exact key_2 (24 - 0 + 1) 0 s.heap _ _ (by omega) (by omega) (fun i h => absurd h (Nat.not_lt_zero _)) hW hP hD hS (lv_sub hl [0, 1, 2, 3] rfl)
