/-- where a stretch begins, of a House's numbers; how many there are -/
def unl (Y : Nat → Nat → Int32) (k : Nat) : Prop := Y 35 k ≠ Y 35 (k - 1) ∨ ∃ m : Nat, m < 24 ∧ Y 36 (24 * k + m) ≠ Y 36 (24 * (k - 1) + m)
def ptn (Y : Nat → Nat → Int32) (d : Int) (n : Nat) : Prop := ∃ t : Nat, t < n ∧ ((Y 21 t).toInt = d ∨ (Y 22 t).toInt = d)
def prn (Y : Nat → Nat → Int32) (d : Int) (n : Nat) : Prop := ∃ k : Nat, 1 ≤ k ∧ k < n ∧ (Y 34 k).toInt = d ∧ unl Y k
def prt (X : Nat → Int) (Y : Nat → Nat → Int32) (d : Int) : Prop := ptn Y d (X 10).toNat ∨ prn Y d (X 11).toNat
theorem ptn_0 {Y : Nat → Nat → Int32} {d : Int} : ¬ ptn Y d 0 := fun ⟨_, h, _⟩ => absurd h (Nat.not_lt_zero _)
theorem ptn_1 {Y : Nat → Nat → Int32} {d : Int} {n : Nat} : ptn Y d (n + 1) ↔ ptn Y d n ∨ (Y 21 n).toInt = d ∨ (Y 22 n).toInt = d := by
  constructor
  · intro ⟨t, h, g⟩
    by_cases q : t = n
    · rw [q] at g
      exact Or.inr g
    · exact Or.inl ⟨t, by omega, g⟩
  · intro h
    rcases h with ⟨t, h, g⟩ | g
    · exact ⟨t, by omega, g⟩
    · exact ⟨n, by omega, g⟩
theorem prn_1 {Y : Nat → Nat → Int32} {d : Int} {n : Nat} (h1 : 1 ≤ n) : prn Y d (n + 1) ↔ prn Y d n ∨ ((Y 34 n).toInt = d ∧ unl Y n) := by
  constructor
  · intro ⟨t, h0, h, g⟩
    by_cases q : t = n
    · rw [q] at g
      exact Or.inr g
    · exact Or.inl ⟨t, h0, by omega, g⟩
  · intro h
    rcases h with ⟨t, h0, h, g⟩ | g
    · exact ⟨t, h0, by omega, g⟩
    · exact ⟨n, h1, by omega, g⟩
/-- the days of n from a on at which a stretch begins -/
noncomputable def nst (P : Int → Prop) (a : Int) (n : Nat) : Nat := (List.range n).countP (fun i : Nat => @decide (i = 0 ∨ P (a + (i : Int))) (Classical.propDecidable _))
theorem nst_0 {P : Int → Prop} {a : Int} : nst P a 0 = 0 := rfl
theorem nst_yes {P : Int → Prop} {a : Int} {n : Nat} (h : n = 0 ∨ P (a + (n : Int))) : nst P a (n + 1) = nst P a n + 1 := by
  have e : @decide (n = 0 ∨ P (a + (n : Int))) (Classical.propDecidable _) = true := @decide_eq_true _ (Classical.propDecidable _) h
  unfold nst
  rw [List.range_succ, List.countP_append, List.countP_singleton, if_pos e]
theorem nst_no {P : Int → Prop} {a : Int} {n : Nat} (h : ¬ (n = 0 ∨ P (a + (n : Int)))) : nst P a (n + 1) = nst P a n := by
  have e : ¬ @decide (n = 0 ∨ P (a + (n : Int))) (Classical.propDecidable _) = true := fun w => h (@of_decide_eq_true _ (Classical.propDecidable _) w)
  unfold nst
  rw [List.range_succ, List.countP_append, List.countP_singleton, if_neg e]
  all_goals rfl
theorem nst_le {P : Int → Prop} {a : Int} {n : Nat} : nst P a n ≤ n := by
  have h := List.countP_le_length (p := fun i : Nat => @decide (i = 0 ∨ P (a + (i : Int))) (Classical.propDecidable _)) (l := List.range n)
  rw [List.length_range] at h
  exact h
theorem ptn_mono {Y : Nat → Nat → Int32} {d : Int} {n m : Nat} (h : n ≤ m) : ptn Y d n → ptn Y d m := fun ⟨t, a, b⟩ => ⟨t, Nat.lt_of_lt_of_le a h, b⟩
theorem prn_mono {Y : Nat → Nat → Int32} {d : Int} {n m : Nat} (h : n ≤ m) : prn Y d n → prn Y d m := fun ⟨k, a0, a, b⟩ => ⟨k, a0, Nat.lt_of_lt_of_le a h, b⟩
theorem prn_0 {Y : Nat → Nat → Int32} {d : Int} : ¬ prn Y d 1 := fun ⟨k, a0, a, _⟩ => by omega
/-- how many stretches a close to day e makes -/
noncomputable def cntC (X : Nat → Int) (Y : Nat → Nat → Int32) (e : Int) : Int := ((nst (prt X Y) (X 1 + 1) (e - X 1).toNat : Nat) : Int) + X 15
theorem prt_cg {X X' : Nat → Int} {Y Y' : Nat → Nat → Int32} {d : Int} (h10 : X' 10 = X 10) (h11 : X' 11 = X 11) (h21 : Y' 21 = Y 21) (h22 : Y' 22 = Y 22) (h34 : Y' 34 = Y 34) (h35 : Y' 35 = Y 35) (h36 : Y' 36 = Y 36) : prt X' Y' d ↔ prt X Y d := by
  unfold prt ptn prn unl
  rw [h10, h11, h21, h22, h34, h35, h36]
theorem prn_end {Y : Nat → Nat → Int32} {d : Int} {v R : Nat} (h : R ≤ v) (h2 : v = 1 ∨ v ≤ R) : prn Y d R ↔ prn Y d v := ⟨prn_mono h, fun q => by
  rcases h2 with z | z
  · rw [z] at q
    exact absurd q prn_0
  · exact prn_mono z q⟩
def unp (Y : Nat → Nat → Int32) (k n : Nat) : Prop := Y 35 k ≠ Y 35 (k - 1) ∨ ∃ m : Nat, m < n ∧ Y 36 (24 * k + m) ≠ Y 36 (24 * (k - 1) + m)
theorem unp_y {Y : Nat → Nat → Int32} {k : Nat} (h : Y 35 k ≠ Y 35 (k - 1)) : ((1 : Int32) = 1 ↔ unp Y k 0) := ⟨fun _ => Or.inl h, fun _ => rfl⟩
theorem unp_n {Y : Nat → Nat → Int32} {k : Nat} (h : Y 35 k = Y 35 (k - 1)) : ((0 : Int32) = 1 ↔ unp Y k 0) := ⟨fun q => absurd q (by decide), fun q => q.elim (fun w => absurd h w) (fun ⟨m, hm, _⟩ => absurd hm (Nat.not_lt_zero _))⟩
theorem unp_1 {Y : Nat → Nat → Int32} {k n : Nat} : unp Y k (n + 1) ↔ unp Y k n ∨ Y 36 (24 * k + n) ≠ Y 36 (24 * (k - 1) + n) := by
  constructor
  · intro h
    rcases h with h | ⟨m, hm, h⟩
    · exact Or.inl (Or.inl h)
    · by_cases q : m = n
      · rw [q] at h
        exact Or.inr h
      · exact Or.inl (Or.inr ⟨m, by omega, h⟩)
  · intro h
    rcases h with h | h
    · rcases h with h | ⟨m, hm, h⟩
      · exact Or.inl h
      · exact Or.inr ⟨m, by omega, h⟩
    · exact Or.inr ⟨n, by omega, h⟩
/-- a flag that tells P tells Q: it stays, is set, is not -/
theorem flY {P Q : Prop} (h : (1 : Int32) = 1 ↔ P) (g : P → Q) : ((1 : Int32) = 1 ↔ Q) := ⟨fun _ => g (h.mp rfl), fun _ => rfl⟩
theorem flS {Q : Prop} (q : Q) : ((1 : Int32) = 1 ↔ Q) := ⟨fun _ => q, fun _ => rfl⟩
theorem flN {P Q : Prop} (h : (0 : Int32) = 1 ↔ P) (g : Q → P) : ((0 : Int32) = 1 ↔ Q) := ⟨fun q => absurd q (by decide), fun q => h.mpr (g q)⟩
theorem nst_cg {P Q : Int → Prop} {a : Int} {n : Nat} (h : ∀ d, P d ↔ Q d) : nst P a n = nst Q a n := by
  have e : P = Q := funext (fun d => propext (h d))
  rw [e]
/-- two rules of the class are unlike -/
def UNL (M : Hp) (a b : Nat) : Prop := cV 6 M a 1 ≠ cV 6 M b 1 ∨ ∃ m : Nat, m < 24 ∧ IFc (M (rA 6 M a 2)) m ≠ IFc (M (rA 6 M b 2)) m
theorem pk_ru {M : Hp} {b i q : Nat} (h : RFc (M (rA 2 M b 10)) i = some q) (hi : i < 16) : cax M b 34 i = cV 6 M q 0 ∧ cax M b 35 i = cV 6 M q 1 ∧ ∀ m, m < 24 → cax M b 36 (24 * i + m) = IFc (M (rA 6 M q 2)) m := by
  refine ⟨?_, ?_, fun m hm => ?_⟩
  · show vRu 0 M b i = _
    unfold vRu
    rw [if_pos hi, h]
  · show vRu 1 M b i = _
    unfold vRu
    rw [if_pos hi, h]
  · show vTm M b (24 * i + m) = _
    unfold vTm
    rw [show (24 * i + m) / 24 = i by omega, show (24 * i + m) % 24 = m by omega, if_pos hi, h]
theorem pk_rn {M : Hp} {b i : Nat} (h : RFc (M (rA 2 M b 10)) i = none) (hi : i < 16) : cax M b 33 i = 0 := by
  show vRn M b i = _
  unfold vRn
  rw [if_pos hi, h]
theorem unl_of {M : Hp} {b k q q' : Nat} (h : RFc (M (rA 2 M b 10)) k = some q) (h' : RFc (M (rA 2 M b 10)) (k - 1) = some q') (hk : k < 16) : unl (cax M b) k ↔ UNL M q q' := by
  have a := pk_ru h hk
  have c := pk_ru h' (by omega)
  unfold unl UNL
  rw [a.2.1, c.2.1]
  refine ⟨fun w => w.imp id (fun ⟨m, hm, w2⟩ => ⟨m, hm, ?_⟩), fun w => w.imp id (fun ⟨m, hm, w2⟩ => ⟨m, hm, ?_⟩)⟩
  · rw [a.2.2 m hm, c.2.2 m hm] at w2
    exact w2
  · rw [a.2.2 m hm, c.2.2 m hm]
    exact w2
/-- the two sides part alike -/
theorem SIM.pdy {k : Nat} {T : Int} {np : Nat} {PK PT : Nat → Int32} {x X : Nat → Int} {y Y : Nat → Nat → Int32} (h : SIM k T np PK PT x y X Y) (d : Int) : prt x y d ↔ prt X Y d := by
  have a : ∀ d, ptn y d (x 10).toNat ↔ ptn Y d (X 10).toNat := fun d => by
    rw [h.x10]
    refine ⟨fun ⟨t, ht, w⟩ => ⟨t, ht, ?_⟩, fun ⟨t, ht, w⟩ => ⟨t, ht, ?_⟩⟩
    · have g := h.te t (by omega)
      rw [g.2.2.1, g.2.2.2.1] at w
      exact w
    · have g := h.te t (by omega)
      rw [g.2.2.1, g.2.2.2.1]
      exact w
  have u : ∀ i : Nat, 1 ≤ i → (i : Int) < X 11 → (unl y i ↔ unl Y i) := fun i h1 hi => by
    have g := h.ru i hi
    have g' := h.ru (i - 1) (by omega)
    unfold unl
    rw [g.2.2.1, g'.2.2.1]
    refine ⟨fun w => w.imp id (fun ⟨m, hm, w2⟩ => ⟨m, hm, ?_⟩), fun w => w.imp id (fun ⟨m, hm, w2⟩ => ⟨m, hm, ?_⟩)⟩
    · rw [g.2.2.2 m hm, g'.2.2.2 m hm] at w2
      exact w2
    · rw [g.2.2.2 m hm, g'.2.2.2 m hm]
      exact w2
  have b : prn y d (x 11).toNat ↔ prn Y d (X 11).toNat := by
    rw [h.x11]
    refine ⟨fun ⟨i, h1, hi, w1, w2⟩ => ⟨i, h1, hi, ?_, (u i h1 (by omega)).mp w2⟩, fun ⟨i, h1, hi, w1, w2⟩ => ⟨i, h1, hi, ?_, (u i h1 (by omega)).mpr w2⟩⟩
    · rw [(h.ru i (by omega)).2.1] at w1
      exact w1
    · rw [(h.ru i (by omega)).2.1]
      exact w1
  unfold prt
  rw [a d, b]
theorem SIM.cnt {k : Nat} {T : Int} {np : Nat} {PK PT : Nat → Int32} {x X : Nat → Int} {y Y : Nat → Nat → Int32} (h : SIM k T np PK PT x y X Y) (e : Int) : cntC x y e = cntC X Y e := by
  unfold cntC
  rw [h.x1, h.x15, nst_cg (fun d => h.pdy d)]
theorem lk_mo {M : Hp} {b i t : Nat} (h : RFc (M (rA 1 M (rA 2 M b 16) 0)) i = some t) (hi : i < 120) : cax M b 38 i = cV 9 M t 0 := by
  show vMo M b i = _
  unfold vMo
  rw [if_pos hi, h]
theorem lk_mo0 {M : Hp} {b i : Nat} (h : RFc (M (rA 1 M (rA 2 M b 16) 0)) i = none) (hi : i < 120) : cax M b 38 i = -1 := by
  show vMo M b i = _
  unfold vMo
  rw [if_pos hi, h]
/-- the moves that a close leaves: behind the day e -/
def bkF (e : Int) (x : Int32 × Int32 × Int32) : Bool := decide (e < x.2.1.toInt)
theorem bk_no {o d s p q r : Nat → Int32} {e : Int} {m n : Nat} (h : trip p q r m = (trip o d s n).filter (bkF e)) (h1 : (d n).toInt ≤ e) : trip p q r m = (trip o d s (n + 1)).filter (bkF e) := by
  rw [trip_s, List.filter_append, ← h]
  have : bkF e (o n, d n, s n) = false := by
    unfold bkF
    exact decide_eq_false (show ¬ e < (d n).toInt by omega)
  rw [List.filter_cons_of_neg (by rw [this]; decide), List.filter_nil, List.append_nil]
theorem bk_yes {o d s p q r : Nat → Int32} {e : Int} {k m n : Nat} {u v w : Int32} (h : trip p q r m = (trip o d s n).filter (bkF e)) (hk : k = m) (h1 : e < (d n).toInt) (hu : u = o n) (hv : v = d n) (hw : w = s n) : trip (upd p k u) (upd q k v) (upd r k w) (m + 1) = (trip o d s (n + 1)).filter (bkF e) := by
  have : bkF e (o n, d n, s n) = true := by
    unfold bkF
    exact decide_eq_true h1
  rw [trip_upd hk, trip_s, List.filter_append, ← h, List.filter_cons_of_pos this, List.filter_nil, hu, hv, hw]
theorem trip_len (o d s : Nat → Int32) (n : Nat) : (trip o d s n).length = n := by
  unfold trip
  rw [List.length_map, List.length_range]
theorem trip_get {o d s : Nat → Int32} {n i : Nat} (hi : i < n) : (trip o d s n)[i]? = some (o i, d i, s i) := by
  unfold trip
  rw [List.getElem?_map, List.getElem?_range hi]
  rfl
theorem trip_eq {a b c a' b' c' : Nat → Int32} {n n' : Nat} (h : trip a b c n = trip a' b' c' n') : n = n' ∧ ∀ i : Nat, i < n → a i = a' i ∧ b i = b' i ∧ c i = c' i := by
  have e : n = n' := by
    have := congrArg List.length h
    rw [trip_len, trip_len] at this
    exact this
  subst e
  refine ⟨rfl, fun i hi => ?_⟩
  have g := (trip_get (o := a) (d := b) (s := c) hi).symm.trans ((congrArg (fun l => l[i]?) h).trans (trip_get (o := a') (d := b') (s := c') hi))
  have g2 := Option.some.inj g
  exact ⟨congrArg Prod.fst g2, congrArg (fun z => z.2.1) g2, congrArg (fun z => z.2.2) g2⟩
theorem trip_mem {o d s : Nat → Int32} {n : Nat} {x : Int32 × Int32 × Int32} (h : x ∈ trip o d s n) : ∃ j, j < n ∧ x = (o j, d j, s j) := by
  unfold trip at h
  obtain ⟨j, h1, h2⟩ := List.mem_map.mp h
  exact ⟨j, List.mem_range.mp h1, h2.symm⟩
theorem trip_in {p q r o d s : Nat → Int32} {m n i : Nat} {f : Int32 × Int32 × Int32 → Bool} (h : trip p q r m = (trip o d s n).filter f) (hi : i < m) : f (p i, q i, r i) = true ∧ ∃ j, j < n ∧ (p i, q i, r i) = (o j, d j, s j) := by
  have g : (p i, q i, r i) ∈ trip p q r m := List.mem_of_getElem? (trip_get hi)
  rw [h] at g
  obtain ⟨g1, g2⟩ := List.mem_filter.mp g
  exact ⟨g2, trip_mem g1⟩
/-- instalments behind a close -/
def insC (a b : Int32) : Int32 := if a.toInt = -1 ∧ 1 < b.toInt then b - 1 else b
def insE (Y : Nat → Nat → Int32) (e : Int) (i : Nat) : Int32 := if (Y 22 i).toInt ≠ -1 ∧ (Y 22 i).toInt ≤ e + 1 then insC (Y 25 i) (Y 23 i) else Y 23 i
theorem mx1 {f y a b : Int32} (e : f = if 1 < y then y else 1) (ey : y = b - 1) (ha : a.toInt = -1) (hb : 0 < b.toInt) : f = insC a b := by
  have hl := Int32.toInt_lt b
  have hy : y.toInt = b.toInt - 1 := isubI (a := b.toInt) (b := 1) rfl rfl ey (by omega) (by omega)
  unfold insC
  by_cases q : 1 < b.toInt
  · rw [if_pos ⟨ha, q⟩]
    by_cases z : 1 < y
    · rw [e, if_pos z, ey]
    · rw [e, if_neg z, ← ey]
      have h1 := Int32.le_iff_toInt_le.mp (Int32.not_lt.mp z)
      rw [show (1 : Int32).toInt = 1 from rfl] at h1
      apply Int32.toInt.inj
      rw [show (1 : Int32).toInt = 1 from rfl]
      omega
  · rw [if_neg (fun w => q w.2)]
    have z : ¬ 1 < y := fun z => by
      have h1 := Int32.lt_iff_toInt_lt.mp z
      rw [show (1 : Int32).toInt = 1 from rfl] at h1
      omega
    rw [e, if_neg z]
    apply Int32.toInt.inj
    rw [show (1 : Int32).toInt = 1 from rfl]
    omega
theorem insC_n {a b : Int32} (h : ¬ (a.toInt = -1 ∧ 1 < b.toInt)) : insC a b = b := by
  unfold insC
  rw [if_neg h]
theorem updI (f : Nat → Int32) (i : Nat) : upd f i (f i) = f := by
  funext j
  by_cases q : j = i
  · rw [q, upd_self]
  · rw [upd_ne _ _ q]
/-- a day lacks a leaf, or a place of it its entry -/
def opD (Y : Nat → Nat → Int32) (d : Nat) : Prop := (Y 2 d).toInt = -1 ∨ (Y 3 d).toInt < (Y 2 d).toInt
/-- j is the first open day behind t, or 1000 -/
def FOD (Y : Nat → Nat → Int32) (t : Int) (j : Nat) : Prop := j ≤ 1000 ∧ t < (j : Int) ∧ (∀ d : Nat, t < (d : Int) → d < j → ¬ opD Y d) ∧ (j < 1000 → opD Y j)
/-- House b, of which House k owns a part, isn't closed far enough for k's year to e -/
def LAGi (PK PT : Nat → Int32) (SX : Nat → Nat → Int) (SY : Nat → Nat → Nat → Int32) (k : Nat) (e : Int) (b i : Nat) : Prop := (i : Int) < SX b 10 ∧ (ownP PK PT (SY b 19 i)).toInt = (k : Int) ∧ (SY b 21 i).toInt ≤ e ∧ SX b 1 < e ∧ ((SY b 22 i).toInt = -1 ∨ SX b 1 < (SY b 22 i - 1).toInt)
def LAG (PK PT : Nat → Int32) (SX : Nat → Nat → Int) (SY : Nat → Nat → Nat → Int32) (k : Nat) (e : Int) (b : Nat) : Prop := ∃ i : Nat, LAGi PK PT SX SY k e b i
/-- which moves a close of the days t + 1 .. e leaves -/
def clk (t e : Int) (x : Int32 × Int32 × Int32) : Bool := !(decide (t + 1 ≤ x.2.1.toInt) && decide (x.2.1.toInt ≤ e))
/-- what close() makes of a House -/
def CLF (e : Int) (X : Nat → Int) (Y : Nat → Nat → Int32) (X' : Nat → Int) (Y' : Nat → Nat → Int32) : Prop := X' 0 = X 0 ∧ X' 1 = e ∧ X' 10 = X 10 ∧ X' 11 = X 11 ∧ X' 12 = X 12 ∧ X' 13 = X 13 + 1 ∧ X' 15 = 0 ∧ X' 16 = 0 ∧ X' 17 = cntC X Y e ∧ (∃ n : Nat, X' 14 = (n : Int) ∧ trip (Y' 38) (Y' 39) (Y' 40) n = (trip (Y 38) (Y 39) (Y 40) (X 14).toNat).filter (clk (X 1) e)) ∧ (∀ j, j ≠ 23 → j ≠ 38 → j ≠ 39 → j ≠ 40 → j ≠ 44 → j ≠ 45 → Y' j = Y j) ∧ (∀ i : Nat, (i : Int) < X 10 → Y' 23 i = insE Y e i) ∧ ∀ r i, X' (lKey r i) = X (lKey r i)
/-- the last day of the first year that isn't closed -/
def enD (X : Nat → Int) (Y : Nat → Nat → Int32) : Int := (Y 37 (X 13).toNat).toInt
def okCl (n : Nat) (PK PT : Nat → Int32) (SX : Nat → Nat → Int) (SY : Nat → Nat → Nat → Int32) (h : Int32) : Prop := okH n h ∧ SX h.toNatClampNeg 13 < SX h.toNatClampNeg 12 ∧ 1 ≤ SX h.toNatClampNeg 11 ∧ (∀ d : Nat, SX h.toNatClampNeg 1 < (d : Int) → (d : Int) ≤ enD (SX h.toNatClampNeg) (SY h.toNatClampNeg) → ¬ opD (SY h.toNatClampNeg) d) ∧ ∀ b, b < n → ¬ LAG PK PT SX SY h.toNatClampNeg (enD (SX h.toNatClampNeg) (SY h.toNatClampNeg)) b
noncomputable def anCl (n : Nat) (PK PT : Nat → Int32) (SX : Nat → Nat → Int) (SY : Nat → Nat → Nat → Int32) (h : Int32) : Int32 := @ite _ (okCl n PK PT SX SY h) (Classical.propDecidable _) (nI (SX h.toNatClampNeg 13).toNat) (-1)
noncomputable def sxCl (n : Nat) (PK PT : Nat → Int32) (SX : Nat → Nat → Int) (SY : Nat → Nat → Nat → Int32) (h : Int32) (X : Nat → Int) : Nat → Nat → Int := @ite _ (okCl n PK PT SX SY h) (Classical.propDecidable _) (va_up SX h.toNatClampNeg X) SX
noncomputable def syCl (n : Nat) (PK PT : Nat → Int32) (SX : Nat → Nat → Int) (SY : Nat → Nat → Nat → Int32) (h : Int32) (Y : Nat → Nat → Int32) : Nat → Nat → Nat → Int32 := @ite _ (okCl n PK PT SX SY h) (Classical.propDecidable _) (va_up SY h.toNatClampNeg Y) SY
/-- what where() tells behind a close -/
def prCl (n : Nat) (SX : Nat → Nat → Int) (h : Int32) : Prop := okH n h ∧ SX h.toNatClampNeg 13 < SX h.toNatClampNeg 12 ∧ 1 ≤ SX h.toNatClampNeg 11
def noOp (SX : Nat → Nat → Int) (SY : Nat → Nat → Nat → Int32) (h : Int32) : Prop := ∀ d : Nat, SX h.toNatClampNeg 1 < (d : Int) → (d : Int) ≤ enD (SX h.toNatClampNeg) (SY h.toNatClampNeg) → ¬ opD (SY h.toNatClampNeg) d
def whOp (SX : Nat → Nat → Int) (SY : Nat → Nat → Nat → Int32) (h : Int32) (j : Nat) : Prop := SX h.toNatClampNeg 1 < (j : Int) ∧ (j : Int) ≤ enD (SX h.toNatClampNeg) (SY h.toNatClampNeg) ∧ opD (SY h.toNatClampNeg) j ∧ ∀ d : Nat, SX h.toNatClampNeg 1 < (d : Int) → d < j → ¬ opD (SY h.toNatClampNeg) d
def whLg (n : Nat) (PK PT : Nat → Int32) (SX : Nat → Nat → Int) (SY : Nat → Nat → Nat → Int32) (h : Int32) (b : Nat) : Prop := b < n ∧ LAG PK PT SX SY h.toNatClampNeg (enD (SX h.toNatClampNeg) (SY h.toNatClampNeg)) b ∧ ∀ c : Nat, c < b → ¬ LAG PK PT SX SY h.toNatClampNeg (enD (SX h.toNatClampNeg) (SY h.toNatClampNeg)) c
def WHR (n : Nat) (PK PT : Nat → Int32) (SX : Nat → Nat → Int) (SY : Nat → Nat → Nat → Int32) (h w : Int32) : Prop := (okCl n PK PT SX SY h ∧ w = -1) ∨ (¬ prCl n SX h ∧ w = -1) ∨ (prCl n SX h ∧ ∃ j : Nat, w = nI j ∧ whOp SX SY h j) ∨ (prCl n SX h ∧ noOp SX SY h ∧ ∃ b : Nat, w = nI b ∧ whLg n PK PT SX SY h b)
theorem WHR.un {n : Nat} {PK PT : Nat → Int32} {SX : Nat → Nat → Int} {SY : Nat → Nat → Nat → Int32} {h w v : Int32} (a : WHR n PK PT SX SY h w) (b : WHR n PK PT SX SY h v) : w = v := by
  have k1 : okCl n PK PT SX SY h → ∀ j, ¬ whOp SX SY h j := fun p j q => p.2.2.2.1 j q.1 q.2.1 q.2.2.1
  have k2 : okCl n PK PT SX SY h → ∀ j, ¬ whLg n PK PT SX SY h j := fun p j q => p.2.2.2.2 j q.1 q.2.1
  have k3 : noOp SX SY h → ∀ j, ¬ whOp SX SY h j := fun p j q => p j q.1 q.2.1 q.2.2.1
  have k4 : ∀ i j, whOp SX SY h i → whOp SX SY h j → i = j := fun i j p q => by
    rcases Nat.lt_trichotomy i j with z | z | z
    · exact absurd p.2.2.1 (q.2.2.2 i p.1 z)
    · exact z
    · exact absurd q.2.2.1 (p.2.2.2 j q.1 z)
  have k5 : ∀ i j, whLg n PK PT SX SY h i → whLg n PK PT SX SY h j → i = j := fun i j p q => by
    rcases Nat.lt_trichotomy i j with z | z | z
    · exact absurd p.2.1 (q.2.2 i z)
    · exact z
    · exact absurd q.2.1 (p.2.2 j z)
  rcases a with ⟨a1, a2⟩ | ⟨a1, a2⟩ | ⟨a1, i, a2, a3⟩ | ⟨a1, a0, i, a2, a3⟩ <;> rcases b with ⟨b1, b2⟩ | ⟨b1, b2⟩ | ⟨b1, j, b2, b3⟩ | ⟨b1, b0, j, b2, b3⟩
  · rw [a2, b2]
  · rw [a2, b2]
  · exact absurd b3 (k1 a1 j)
  · exact absurd b3 (k2 a1 j)
  · rw [a2, b2]
  · rw [a2, b2]
  · exact absurd b1 a1
  · exact absurd b1 a1
  · exact absurd a3 (k1 b1 i)
  · exact absurd a1 b1
  · rw [a2, b2, k4 i j a3 b3]
  · exact absurd a3 (k3 b0 i)
  · exact absurd a3 (k2 b1 i)
  · exact absurd a1 b1
  · exact absurd b3 (k3 a0 j)
  · rw [a2, b2, k5 i j a3 b3]
theorem WHR.ok {n : Nat} {PK PT : Nat → Int32} {SX : Nat → Nat → Int} {SY : Nat → Nat → Nat → Int32} {h : Int32} (a : okCl n PK PT SX SY h) : WHR n PK PT SX SY h (-1) := Or.inl ⟨a, rfl⟩
theorem WHR.np {n : Nat} {PK PT : Nat → Int32} {SX : Nat → Nat → Int} {SY : Nat → Nat → Nat → Int32} {h : Int32} (a : ¬ prCl n SX h) : WHR n PK PT SX SY h (-1) := Or.inr (Or.inl ⟨a, rfl⟩)
theorem WHR.op {n j : Nat} {PK PT : Nat → Int32} {SX : Nat → Nat → Int} {SY : Nat → Nat → Nat → Int32} {h : Int32} (a : prCl n SX h) (b : whOp SX SY h j) : WHR n PK PT SX SY h (nI j) := Or.inr (Or.inr (Or.inl ⟨a, j, rfl, b⟩))
theorem WHR.lg {n j : Nat} {PK PT : Nat → Int32} {SX : Nat → Nat → Int} {SY : Nat → Nat → Nat → Int32} {h : Int32} (a : prCl n SX h) (c : noOp SX SY h) (b : whLg n PK PT SX SY h j) : WHR n PK PT SX SY h (nI j) := Or.inr (Or.inr (Or.inr ⟨a, c, j, rfl, b⟩))
theorem SIM.close {k : Nat} {T : Int} {np : Nat} {PK PT : Nat → Int32} {x x' X X' : Nat → Int} {y y' Y Y' : Nat → Nat → Int32} {n9 : Nat} {g9 : Nat → Int32} {e : Int} (h : SIM k T np PK PT x y X Y) (hT : 0 ≤ T) (hc : CLF e X Y X' Y') (e0 : x' 0 = x 0) (e1 : x' 1 = e) (e10 : x' 10 = x 10) (e11 : x' 11 = x 11) (e12 : x' 12 = x 12) (e13 : x' 13 = x 13 + 1) (e14 : x' 14 = (n9 : Int)) (e15 : x' 15 = 0) (e16 : x' 16 = 0) (e18 : x' 18 = x 18) (e19 : x' 19 = 0) (e20 : x' 20 = x 20) (el : ∀ i, x' (lKey 3 i) = x (lKey 3 i)) (ey : ∀ j, j ≠ 23 → j ≠ 38 → j ≠ 39 → j ≠ 40 → y' j = y j) (e23 : y' 23 = g9) (ht : trip (y' 38) (y' 39) (y' 40) n9 = (trip (y 38) (y 39) (y 40) (x 14).toNat).filter (bkF e)) (hg : ∀ i : Nat, (i : Int) < x 10 → g9 i = insE y e i) : SIM k (T + 1) np PK PT x' y' X' Y' := by
  obtain ⟨c0, c1, c10, c11, c12, c13, c15, c16, _, ⟨n, c14, ct⟩, cy, cg, cl⟩ := hc
  have ya : ∀ j, j ≠ 23 → j ≠ 38 → j ≠ 39 → j ≠ 40 → j ≠ 44 → j ≠ 45 → y' j = y j ∧ Y' j = Y j := fun j a b c d f g => ⟨ey j a b c d, cy j a b c d f g⟩
  have a2 := ya 2 (by decide) (by decide) (by decide) (by decide) (by decide) (by decide)
  have a3 := ya 3 (by decide) (by decide) (by decide) (by decide) (by decide) (by decide)
  have a4 := ya 4 (by decide) (by decide) (by decide) (by decide) (by decide) (by decide)
  have a9 := ya 9 (by decide) (by decide) (by decide) (by decide) (by decide) (by decide)
  have a19 := ya 19 (by decide) (by decide) (by decide) (by decide) (by decide) (by decide)
  have a20 := ya 20 (by decide) (by decide) (by decide) (by decide) (by decide) (by decide)
  have a21 := ya 21 (by decide) (by decide) (by decide) (by decide) (by decide) (by decide)
  have a22 := ya 22 (by decide) (by decide) (by decide) (by decide) (by decide) (by decide)
  have a24 := ya 24 (by decide) (by decide) (by decide) (by decide) (by decide) (by decide)
  have a25 := ya 25 (by decide) (by decide) (by decide) (by decide) (by decide) (by decide)
  have a27 := ya 27 (by decide) (by decide) (by decide) (by decide) (by decide) (by decide)
  have a28 := ya 28 (by decide) (by decide) (by decide) (by decide) (by decide) (by decide)
  have a33 := ya 33 (by decide) (by decide) (by decide) (by decide) (by decide) (by decide)
  have a34 := ya 34 (by decide) (by decide) (by decide) (by decide) (by decide) (by decide)
  have a35 := ya 35 (by decide) (by decide) (by decide) (by decide) (by decide) (by decide)
  have a36 := ya 36 (by decide) (by decide) (by decide) (by decide) (by decide) (by decide)
  have a37 := ya 37 (by decide) (by decide) (by decide) (by decide) (by decide) (by decide)
  have a50 := ya 50 (by decide) (by decide) (by decide) (by decide) (by decide) (by decide)
  have a51 := ya 51 (by decide) (by decide) (by decide) (by decide) (by decide) (by decide)
  have hx14 := h.x14
  have hl : trip (y 38) (y 39) (y 40) (x 14).toNat = trip (Y 38) (Y 39) (Y 40) (X 14).toNat := by
    rw [hx14]
    exact trip_congr (fun i hi => by
      have g := h.mo i (by omega)
      exact ⟨g.1, g.2.1, g.2.2.1⟩)
  have hf : (trip (Y 38) (Y 39) (Y 40) (X 14).toNat).filter (bkF e) = (trip (Y 38) (Y 39) (Y 40) (X 14).toNat).filter (clk (X 1) e) := List.filter_congr (fun z hz => by
    obtain ⟨j, hj, ez⟩ := trip_mem hz
    have g := h.mo j (by omega)
    rw [g.2.1] at g
    have g1 := g.2.2.2.2
    rw [ez]
    unfold bkF clk
    show decide (e < (Y 39 j).toInt) = !(decide (X 1 + 1 ≤ (Y 39 j).toInt) && decide ((Y 39 j).toInt ≤ e))
    rw [decide_eq_true (show X 1 + 1 ≤ (Y 39 j).toInt by omega), Bool.true_and]
    by_cases q : e < (Y 39 j).toInt
    · rw [decide_eq_true q, decide_eq_false (show ¬ (Y 39 j).toInt ≤ e by omega)]
      rfl
    · rw [decide_eq_false q, decide_eq_true (show (Y 39 j).toInt ≤ e by omega)]
      rfl)
  have hq : trip (y' 38) (y' 39) (y' 40) n9 = trip (Y' 38) (Y' 39) (Y' 40) n := by rw [ht, hl, hf, ct]
  obtain ⟨en, hi9⟩ := trip_eq hq
  refine ⟨by rw [e0, c0]; exact h.x0, by rw [e1, c1], by rw [e10, c10]; exact h.x10, by rw [e11, c11]; exact h.x11, by rw [e12, c12]; exact h.x12, by rw [e13, c13, h.x13], by rw [e14, c14, en], by rw [e15, c15], by rw [e16, c16], by rw [e20]; exact h.x20, ?_, ?_, ?_, ?_, ?_, ?_, ?_, ?_, ?_, ?_, ?_, ?_, ⟨?_, ?_, ?_, ?_, ?_, ?_⟩⟩
  · rw [a2.1, a2.2, a3.1, a3.2, a4.1, a4.2]
    exact h.pl
  · rw [c10, a19.1, a19.2, a20.1, a20.2, a21.1, a21.2, a22.1, a22.2, a24.1, a24.2, a25.1, a25.2, a27.1, e23]
    intro i hi
    have g := h.te i hi
    refine ⟨g.1, g.2.1, g.2.2.1, g.2.2.2.1, ?_, g.2.2.2.2.2.1, g.2.2.2.2.2.2.1, g.2.2.2.2.2.2.2⟩
    rw [hg i (by rw [h.x10]; exact hi), cg i hi]
    unfold insE
    rw [g.2.2.2.1, g.2.2.2.2.1, g.2.2.2.2.2.2.1]
  · rw [c10, a28.1]
    exact h.tn
  · rw [c10, a9.2, a50.1, a51.1]
    exact h.se
  · rw [c11, a33.1, a34.1, a34.2, a35.1, a35.2, a36.1, a36.2]
    exact h.ru
  · rw [c12, a37.1, a37.2]
    exact h.en
  · intro i hi
    rw [c14] at hi
    have g := hi9 i (by omega)
    obtain ⟨m1, j, hj, m2⟩ := trip_in ht (show i < n9 by omega)
    have k1 : y' 38 i = y 38 j := congrArg Prod.fst m2
    have k2 := of_decide_eq_true m1
    refine ⟨g.1, g.2.1, g.2.2, ?_, ?_⟩
    · rw [k1]
      exact (h.mo j (by omega)).2.2.2.1
    · rw [c1]
      exact k2
  · intro i hi
    rw [c15] at hi
    omega
  · rw [e16, e19, c16]
    exact ⟨by omega, by omega, fun i hi => by omega⟩
  · rw [c10, a19.2, e18]
    exact h.ow
  · rw [e18]
    exact h.ob
  · rw [c10, a19.2]
    exact h.wh
  · have a26 := ya 26 (by decide) (by decide) (by decide) (by decide) (by decide) (by decide)
    have a29 := ya 29 (by decide) (by decide) (by decide) (by decide) (by decide) (by decide)
    rw [c10, a26.1, a26.2, a29.1, a19.2]
    exact h.ex.tw
  · rw [c10, a22.2]
    intro i hi q
    rw [cg i hi]
    unfold insE
    rw [if_neg (fun z => z.1 (by rw [q]; rfl))]
    exact h.ex.iz i hi q
  · rw [c10]
    intro i hi
    rw [el i, cl 3 i]
    exact h.ex.lo i hi
  · rw [c10]
    intro i h24 hi
    rw [cl 3 i]
    exact h.ex.lz i h24 hi
  · rw [c10]
    intro i hi
    rw [cl 3 i]
    exact h.ex.lb i hi
  · have a60 := ya 60 (by decide) (by decide) (by decide) (by decide) (by decide) (by decide)
    rw [a60.1, a3.2]
    intro d hd m hm
    rw [cl 10]
    exact h.ex.et d hd m hm
/-- a tenure's owner is House K -/
theorem ownK {cy : Nat → ClassId} {B : Nat → Nat × Nat} {K : Kp} {L : List Nat} {x0 n k b t i : Nat} {T : Int} {np : Nat} {PK PT : Nat → Int32} {SX : Nat → Nat → Int} {SY : Nat → Nat → Nat → Int32} {M : Hp} {bo : Nat} (h : CX B K L x0 n T np PK PT SX SY M) (hW : WOK cy K L M) (hn : n ≤ 8) (hk : k < n) (ha : RFc (M x0) k = some b) (it : isk K L t 9 0) (hs : RFc (M (rA 2 M bo 8)) i = some t) (hi : i < 24) : cR 4 M (rA 9 M t 1) 3 = some b ↔ (cax M bo 27 i).toInt = (k : Int) := by
  have e27 : cax M bo 27 i = owN M (cR 4 M (rA 9 M t 1) 3) := (lk_te hs hi).2.2.2.2.2.2.2.2
  have num : ∀ (j z : Nat), j < n → RFc (M x0) j = some z → (cV 2 M z 0).toInt = (j : Int) := fun j z hj hz => by
    have g := (h.at hj hz).x20
    exact g
  rw [e27]
  refine ⟨fun q => ?_, fun q => ?_⟩
  · rw [q]
    exact num k b hk ha
  · cases e : cR 4 M (rA 9 M t 1) 3 with
    | none =>
      rw [e] at q
      have q : (-1 : Int32).toInt = (k : Int) := q
      rw [show (-1 : Int32).toInt = -1 from rfl] at q
      omega
    | some z =>
      rw [e] at q
      have q : (cV 2 M z 0).toInt = (k : Int) := q
      obtain ⟨j, hj, hz⟩ := h.ph _ (KT hW it).1 z e
      rw [num j z hj hz] at q
      have : j = k := by omega
      rw [this, ha] at hz
      exact hz.symm

set_option maxHeartbeats 4000000 in
set_option maxRecDepth 100000 in
theorem e_differs (l : Launch) (D : va_G) (cy : Nat → ClassId) (K : Kp) (L : List Nat) (M : Hp) (sz : Nat) (oa : Nat) (k1 : Nat) (hW : WOK cy K L M) (ia : isk K L oa 6 0) (ik1 : isk K L k1 6 0) : Met l yX6_differsFrom (wsM yX6_differsFrom cX6_differsFrom 3 (some .boolean)) ({ frames := 0, cells := 0, slots := 0, locals := 0 }) (va_Pc [.ref oa, .ref k1] (PG D cy [] L M sz)) (va_Qi (fun (r : Int32) (_ : Unit) => (r = 1 ∧ (UNL M oa k1)) ∨ (r = 0 ∧ ¬ (UNL M oa k1))) (fun _ t => PQ D [] L M (va_A ([] ++ va_pl L M) sz) t) (va_A ([] ++ va_pl L M) sz)) 0 0 (va_A ([] ++ va_pl L M) sz) := by
  refine Met.ofW (cc := cX6_differsFrom) (maxL := 3) (ret := (some .boolean)) (by decide) rfl ?_
  intro p e s m args below meth c s₁ B hml hv
  obtain ⟨rfl, hsz, hP, hK, hD0, hN⟩ := hv
  have hx := B.exec
  have hb := B.bytes
  have hr := B.returns
  have hts := atoms_spec (ws := (wsM yX6_differsFrom cX6_differsFrom 3 (some .boolean))) B.pre
  have hg : ∀ w ∈ lw_good, w.before _ s = true := fun w h => hts w (List.mem_cons_of_mem _ h)
  have hown : s.vm.findClass RX6 = some m.cls := findClass_of_methodNamed B.named
  have hlocks := B.notSynchronized
  subst hsz
  have hD := hD0.self (sz := s.heap.size)
  generalize hAe : va_A ([] ++ va_pl L M) s.heap.size = A at hD ⊢
  have hA : ∀ q : Nat, s.heap.size ≤ q → A q := fun q h => by rw [← hAe]; exact Or.inr h
  have hS : va_S A s.heap s.heap [] := va_S.rf
  have hl := lv_entry ([.ref oa, .ref k1]) (n := 3) (Nat.le_of_ble_eq_true rfl)
  rw [lg_entry_eq]
  generalize (lg_sl ([.ref oa, .ref k1]) ++ List.replicate (3 - (lg_sl ([.ref oa, .ref k1])).length) Slot.unset).toArray = ls at hl ⊢
  refine W.nameQ (fun Q hQ => ?_)
  refine W.nameR (fun R hR => ?_)
  have hRf : 0 ≤ R.frames := by rw [hR]; exact Nat.le_of_ble_eq_true rfl
  have hRl : 0 ≤ R.locals := by rw [hR]; exact Nat.le_of_ble_eq_true rfl
  have hRc : 0 ≤ R.cells := by rw [hR]; exact Nat.le_of_ble_eq_true rfl
  have hRs : 0 ≤ R.slots := by rw [hR]; exact Nat.le_of_ble_eq_true rfl
  have hl : lv_has ls 3 [(0, .ref oa), (1, .ref k1)] := hl
  refine lv_aload_n hx hb dX6_differsFrom_0 rfl (lv_at hl 0 rfl) ?_
  obtain ⟨v1_0, v1_1, v1_2, hM1, h1_2⟩ := hW.open_6 ia
  refine pg_get (D := D) (ci := 6) (v := .int v1_1) (C := RX6) (T := TX6) (N := 3) hx hb hg inG6 hown hK hP ia.1 hM1 rfl 1 (by decide) (hg _ wd_92) (fun _ h9 => h9) rfl dX6_differsFrom_1 ?_
  refine lv_aload_n hx hb dX6_differsFrom_4 rfl (lv_at hl 1 rfl) ?_
  obtain ⟨v2_0, v2_1, v2_2, hM2, h2_2⟩ := hW.open_6 ik1
  refine pg_get (D := D) (ci := 6) (v := .int v2_1) (C := RX6) (T := TX6) (N := 3) hx hb hg inG6 hown hK hP ik1.1 hM2 rfl 1 (by decide) (hg _ wd_92) (fun _ h9 => h9) rfl dX6_differsFrom_5 ?_
  refine lv_icmp_eq (tgt := 13) hx hb dX6_differsFrom_8 (by decide) (fun c_3 => ?_) (fun c_3 => ?_)
  · have hz := rfl (a := 0)
    refine lv_iconst (v := 0) hx hb dX6_differsFrom_13 (by decide) ?_
    refine lv_istore_n (lv' := [(2, .int 0), (0, .ref oa), (1, .ref k1)]) hx hb dX6_differsFrom_14 rfl hl (by decide) rfl (fun ls hl => ?_)
    have key_4 : ∀ (fu_6 : Nat) (v2w7 : Nat) (H_10 : Heap) (locs : List Loc) (ls : Array Slot), 24 - v2w7 < fu_6 → v2w7 ≤ 24 → (∀ m : Nat, m < v2w7 → IFc (M (rA 6 M oa 2)) m = IFc (M (rA 6 M k1 2)) m) → WOK cy K L M → va_P D vwCl ([] ++ va_pl L M) H_10 → va_D A ([] ++ va_pl L M) → va_S A s.heap H_10 locs → lv_has ls 3 [(2, .int (nI v2w7)), (0, .ref oa), (1, .ref k1)] → W p l e R s m ([.ref oa, .ref k1] : List Value).toArray below meth c H_10 locs 0 0 Q (F0 m 15 ls []) := by
      intro fu_6
      induction fu_6 with
      | zero => intro v2w7 H_10 locs ls h; exact absurd h (Nat.not_lt_zero _)
      | succ fu_6 ih_5 =>
        intro v2w7 H_10 locs ls hfu hx_8 hx_9 hW hP hD hS hl
        refine lv_iload_n hx hb dX6_differsFrom_15 rfl (lv_at hl 0 rfl) ?_
        refine lv_aload_n hx hb dX6_differsFrom_16 rfl (lv_at hl 1 rfl) ?_
        refine pg_get (D := D) (ci := 6) (v := .ref v1_2) (C := RX6) (T := TX6) (N := 3) hx hb hg inG6 hown hK hP ia.1 hM1 rfl 2 (by decide) (hg _ wd_93) (fun _ h9 => h9) rfl dX6_differsFrom_17 ?_
        obtain ⟨f11, hM11⟩ := hW.open_54 h1_2
        refine pg_alen (v := 24) hx hb hK hP h1_2.1 0 hM11 rfl (by rfl) dX6_differsFrom_20 ?_
        refine lv_icmp_ge (tgt := 56) hx hb dX6_differsFrom_21 (by decide) (fun c_12 => ?_) (fun c_12 => ?_)
        · have hz := rfl (a := 0)
          have n_13 : 24 ≤ v2w7 := (iLE (a := 24) (b := v2w7) (by omega) (by omega)).mp c_12
          refine lv_iconst (v := 0) hx hb dX6_differsFrom_56 (by decide) ?_
          rw [hQ]
          exact W.zret (v := 0) hx hb hr rfl (fun t ht hW9 => ⟨⟨0, (), rfl, (Or.inr ⟨rfl, fun w9 => by rcases w9 with w9 | ⟨m, hm, w9⟩; exact w9 (by rw [cV_of (j := 1) hM1 rfl, cV_of (j := 1) hM2 rfl]; exact c_3); exact w9 (hx_9 m (by omega))⟩), ⟨by rw [ht]; exact hP, hD⟩⟩, hS.F ht⟩) hS.2.2 dX6_differsFrom_57
        · have hz := rfl (a := 0)
          have n_14 : ¬ (24 ≤ v2w7) := fun q => c_12 ((iLE (a := 24) (b := v2w7) (by omega) (by omega)).mpr q)
          refine lv_iload_n hx hb dX6_differsFrom_24 rfl (lv_at hl 0 rfl) ?_
          refine lv_aload_n hx hb dX6_differsFrom_25 rfl (lv_at hl 2 rfl) ?_
          refine pg_get (D := D) (ci := 6) (v := .ref v2_2) (C := RX6) (T := TX6) (N := 3) hx hb hg inG6 hown hK hP ik1.1 hM2 rfl 2 (by decide) (hg _ wd_93) (fun _ h9 => h9) rfl dX6_differsFrom_26 ?_
          obtain ⟨f15, hM15⟩ := hW.open_54 h2_2
          refine pg_alen (v := 24) hx hb hK hP h2_2.1 0 hM15 rfl (by rfl) dX6_differsFrom_29 ?_
          refine lv_icmp_ge (tgt := 56) hx hb dX6_differsFrom_30 (by decide) (fun c_16 => absurd c_16 c_12) (fun c_16 => ?_)
          refine lv_aload_n hx hb dX6_differsFrom_33 rfl (lv_at hl 1 rfl) ?_
          refine pg_get (D := D) (ci := 6) (v := .ref v1_2) (C := RX6) (T := TX6) (N := 3) hx hb hg inG6 hown hK hP ia.1 hM1 rfl 2 (by decide) (hg _ wd_93) (fun _ h9 => h9) rfl dX6_differsFrom_34 ?_
          refine lv_iload_n hx hb dX6_differsFrom_37 rfl (lv_at hl 0 rfl) ?_
          refine pg_iald hx hb hK hP h1_2.1 0 hM11 rfl (inbN v2w7 24 (by omega) (by omega)) dX6_differsFrom_38 ?_
          refine lv_topi (fun f_17 ef_17 => ?_)
          refine lv_aload_n hx hb dX6_differsFrom_39 rfl (lv_at hl 2 rfl) ?_
          refine pg_get (D := D) (ci := 6) (v := .ref v2_2) (C := RX6) (T := TX6) (N := 3) hx hb hg inG6 hown hK hP ik1.1 hM2 rfl 2 (by decide) (hg _ wd_93) (fun _ h9 => h9) rfl dX6_differsFrom_40 ?_
          refine lv_iload_n hx hb dX6_differsFrom_43 rfl (lv_at hl 0 rfl) ?_
          refine pg_iald hx hb hK hP h2_2.1 0 hM15 rfl (inbN v2w7 24 (by omega) (by omega)) dX6_differsFrom_44 ?_
          refine lv_topi (fun f_18 ef_18 => ?_)
          refine lv_icmp_eq (tgt := 50) hx hb dX6_differsFrom_45 (by decide) (fun c_19 => ?_) (fun c_19 => ?_)
          · have hz := rfl (a := 0)
            refine lv_iinc (v := (nI (v2w7 + 1))) (lv' := [(2, .int (nI (v2w7 + 1))), (0, .ref oa), (1, .ref k1)]) hx hb dX6_differsFrom_50 hl (k := 0) rfl (nI_1 v2w7) (by decide) rfl (fun ls hl => ?_)
            refine lv_goto (tgt := 15) hx hb dX6_differsFrom_53 (by decide) ?_
            exact ih_5 (v2w7 + 1) H_10 _ _ (by omega) (by omega) (fun m hm => by by_cases z9 : ¬ m = v2w7; exact hx_9 m (by omega); rw [Classical.not_not.mp z9, rA_of (j := 2) hM1 rfl, IFc_of hM11, rA_of (j := 2) hM2 rfl, IFc_of hM15]; have h1 := ef_17; have h2 := ef_18; rw [nI_cl (by omega)] at h1 h2; rw [← h1, ← h2]; exact c_19) hW hP hD hS (lv_sub hl [0, 1, 2] rfl)
          · have hz := rfl (a := 0)
            refine lv_iconst (v := 1) hx hb dX6_differsFrom_48 (by decide) ?_
            rw [hQ]
            exact W.zret (v := 1) hx hb hr rfl (fun t ht hW9 => ⟨⟨1, (), rfl, (Or.inl ⟨rfl, Or.inr ⟨v2w7, by omega, fun w9 => c_19 (by rw [rA_of (j := 2) hM1 rfl, IFc_of hM11, rA_of (j := 2) hM2 rfl, IFc_of hM15] at w9; rw [ef_17, ef_18, nI_cl (by omega)]; exact w9)⟩⟩), ⟨by rw [ht]; exact hP, hD⟩⟩, hS.F ht⟩) hS.2.2 dX6_differsFrom_49
    exact key_4 (24 - 0 + 1) 0 s.heap _ _ (by omega) (by omega) (fun m h => absurd h (Nat.not_lt_zero _)) hW hP hD hS (lv_sub hl [0, 1, 2] rfl)
  · have hz := rfl (a := 0)
    refine lv_iconst (v := 1) hx hb dX6_differsFrom_11 (by decide) ?_
    rw [hQ]
    exact W.zret (v := 1) hx hb hr rfl (fun t ht hW9 => ⟨⟨1, (), rfl, (Or.inl ⟨rfl, Or.inl (by rw [cV_of (j := 1) hM1 rfl, cV_of (j := 1) hM2 rfl]; exact c_3)⟩), ⟨by rw [ht]; exact hP, hD⟩⟩, hS.F ht⟩) hS.2.2 dX6_differsFrom_12
set_option maxHeartbeats 4000000 in
set_option maxRecDepth 100000 in
theorem e_parted (l : Launch) (D : va_G) (cy : Nat → ClassId) (K : Kp) (L : List Nat) (M : Hp) (sz : Nat) (oa : Nat) (k1 : Int32) (hW : WOK cy K L M) (ia : isk K L oa 2 0) (h28 : (∀ i : Nat, (i : Int) < cfx M oa 10 → cax M oa 28 i = 1)) (h33 : (∀ i : Nat, (i : Int) < cfx M oa 11 → cax M oa 33 i = 1)) : Met l yX2_isParted (wsM yX2_isParted cX2_isParted 5 (some .boolean)) ({ frames := 1, cells := 0, slots := 0, locals := 22 }) (va_Pc [.ref oa, .int k1] (PG D cy [] L M sz)) (va_Qi (fun (r : Int32) (_ : Unit) => (r = 1 ∧ (prt (cfx M oa) (cax M oa) k1.toInt)) ∨ (r = 0 ∧ ¬ (prt (cfx M oa) (cax M oa) k1.toInt))) (fun _ t => PQ D [] L M (va_A ([] ++ va_pl L M) sz) t) (va_A ([] ++ va_pl L M) sz)) 0 0 (va_A ([] ++ va_pl L M) sz) := by
  refine Met.ofW (cc := cX2_isParted) (maxL := 5) (ret := (some .boolean)) (by decide) rfl ?_
  intro p e s m args below meth c s₁ B hml hv
  obtain ⟨rfl, hsz, hP, hK, hD0, hN⟩ := hv
  have hx := B.exec
  have hb := B.bytes
  have hr := B.returns
  have hts := atoms_spec (ws := (wsM yX2_isParted cX2_isParted 5 (some .boolean))) B.pre
  have hg : ∀ w ∈ lw_good, w.before _ s = true := fun w h => hts w (List.mem_cons_of_mem _ h)
  have hown : s.vm.findClass RX2 = some m.cls := findClass_of_methodNamed B.named
  have hlocks := B.notSynchronized
  subst hsz
  have hD := hD0.self (sz := s.heap.size)
  generalize hAe : va_A ([] ++ va_pl L M) s.heap.size = A at hD ⊢
  have hA : ∀ q : Nat, s.heap.size ≤ q → A q := fun q h => by rw [← hAe]; exact Or.inr h
  have hS : va_S A s.heap s.heap [] := va_S.rf
  have hl := lv_entry ([.ref oa, .int k1]) (n := 5) (Nat.le_of_ble_eq_true rfl)
  rw [lg_entry_eq]
  generalize (lg_sl ([.ref oa, .int k1]) ++ List.replicate (5 - (lg_sl ([.ref oa, .int k1])).length) Slot.unset).toArray = ls at hl ⊢
  refine W.nameQ (fun Q hQ => ?_)
  refine W.nameR (fun R hR => ?_)
  have hRf : 1 ≤ R.frames := by rw [hR]; exact Nat.le_of_ble_eq_true rfl
  have hRl : 22 ≤ R.locals := by rw [hR]; exact Nat.le_of_ble_eq_true rfl
  have hRc : 0 ≤ R.cells := by rw [hR]; exact Nat.le_of_ble_eq_true rfl
  have hRs : 0 ≤ R.slots := by rw [hR]; exact Nat.le_of_ble_eq_true rfl
  have hl : lv_has ls 5 [(0, .ref oa), (1, .int k1)] := hl
  obtain ⟨v1_0, v1_1, v1_2, v1_3, v1_4, v1_5, v1_6, v1_7, v1_8, v1_9, v1_10, v1_11, v1_12, v1_13, v1_14, v1_15, v1_16, v1_17, v1_18, v1_19, hM1, h1_3, h1_4, h1_5, h1_6, h1_7, h1_8, h1_9, h1_10, h1_11, h1_12, h1_13, h1_16, h1_17, h1_18, h1_19⟩ := hW.open_2 ia
  have hc10 : ((v1_9 : Nat) : Int) = cfx M oa 10 := by show _ = (cV 2 M oa 9).toInt; rw [cV_of (j := 9) hM1 rfl, nI_toInt (by omega)]
  have hcc10 : (cV 2 M oa 9).toInt = ((v1_9 : Nat) : Int) := by rw [cV_of (j := 9) hM1 rfl, nI_toInt (by omega)]
  have hc11 : ((v1_11 : Nat) : Int) = cfx M oa 11 := by show _ = (cV 2 M oa 11).toInt; rw [cV_of (j := 11) hM1 rfl, nI_toInt (by omega)]
  have hcc11 : (cV 2 M oa 11).toInt = ((v1_11 : Nat) : Int) := by rw [cV_of (j := 11) hM1 rfl, nI_toInt (by omega)]
  refine lv_iconst (v := 0) hx hb dX2_isParted_0 (by decide) ?_
  refine lv_istore_n (lv' := [(2, .int 0), (0, .ref oa), (1, .int k1)]) hx hb dX2_isParted_1 rfl hl (by decide) rfl (fun ls hl => ?_)
  have key_2 : ∀ (fu_4 : Nat) (v2w5 : Nat) (H_8 : Heap) (locs : List Loc) (ls : Array Slot), 24 - v2w5 < fu_4 → v2w5 ≤ 24 → ¬ ptn (cax M oa) k1.toInt v2w5 → WOK cy K L M → va_P D vwCl ([] ++ va_pl L M) H_8 → va_D A ([] ++ va_pl L M) → va_S A s.heap H_8 locs → lv_has ls 5 [(2, .int (nI v2w5)), (0, .ref oa), (1, .int k1)] → W p l e R s m ([.ref oa, .int k1] : List Value).toArray below meth c H_8 locs 0 0 Q (F0 m 2 ls []) := by
    intro fu_4
    induction fu_4 with
    | zero => intro v2w5 H_8 locs ls h; exact absurd h (Nat.not_lt_zero _)
    | succ fu_4 ih_3 =>
      intro v2w5 H_8 locs ls hfu hx_6 hx_7 hW hP hD hS hl
      refine lv_iload_n hx hb dX2_isParted_2 rfl (lv_at hl 0 rfl) ?_
      refine lv_aload_n hx hb dX2_isParted_3 rfl (lv_at hl 1 rfl) ?_
      refine pg_get (D := D) (ci := 2) (v := .int (nI v1_9)) (C := RX2) (T := TX2) (N := 20) hx hb hg inG2 hown hK hP ia.1 hM1 rfl 9 (by decide) (hg _ wd_44) (fun _ h9 => h9) rfl dX2_isParted_4 ?_
      refine lv_icmp_ge (tgt := 44) hx hb dX2_isParted_7 (by decide) (fun c_9 => ?_) (fun c_9 => ?_)
      · have hz := rfl (a := 0)
        have n_10 : v1_9 ≤ v2w5 := (iLE (a := v1_9) (b := v2w5) (by omega) (by omega)).mp c_9
        have hptn : ¬ ptn (cax M oa) k1.toInt (cfx M oa 10).toNat := fun q9 => hx_7 (ptn_mono (by omega) q9)
        refine lv_iconst (v := 1) hx hb dX2_isParted_44 (by decide) ?_
        refine lv_istore_n (lv' := [(2, .int 1), (0, .ref oa), (1, .int k1)]) hx hb dX2_isParted_45 rfl hl (by decide) rfl (fun ls hl => ?_)
        have key_11 : ∀ (fu_13 : Nat) (v2w14 : Nat) (H_18 : Heap) (locs : List Loc) (ls : Array Slot), 16 - v2w14 < fu_13 → 1 ≤ v2w14 → v2w14 ≤ 16 → ¬ prn (cax M oa) k1.toInt v2w14 → WOK cy K L M → va_P D vwCl ([] ++ va_pl L M) H_18 → va_D A ([] ++ va_pl L M) → va_S A s.heap H_18 locs → lv_has ls 5 [(2, .int (nI v2w14)), (0, .ref oa), (1, .int k1)] → W p l e R s m ([.ref oa, .int k1] : List Value).toArray below meth c H_18 locs 0 0 Q (F0 m 46 ls []) := by
          intro fu_13
          induction fu_13 with
          | zero => intro v2w14 H_18 locs ls h; exact absurd h (Nat.not_lt_zero _)
          | succ fu_13 ih_12 =>
            intro v2w14 H_18 locs ls hfu hx_15 hx_16 hx_17 hW hP hD hS hl
            refine lv_iload_n hx hb dX2_isParted_46 rfl (lv_at hl 0 rfl) ?_
            refine lv_aload_n hx hb dX2_isParted_47 rfl (lv_at hl 1 rfl) ?_
            refine pg_get (D := D) (ci := 2) (v := .int (nI v1_11)) (C := RX2) (T := TX2) (N := 20) hx hb hg inG2 hown hK hP ia.1 hM1 rfl 11 (by decide) (hg _ wd_66) (fun _ h9 => h9) rfl dX2_isParted_48 ?_
            refine lv_icmp_ge (tgt := 111) hx hb dX2_isParted_51 (by decide) (fun c_19 => ?_) (fun c_19 => ?_)
            · have hz := rfl (a := 0)
              have n_20 : v1_11 ≤ v2w14 := (iLE (a := v1_11) (b := v2w14) (by omega) (by omega)).mp c_19
              refine lv_iconst (v := 0) hx hb dX2_isParted_111 (by decide) ?_
              have hI_21 : ((v1_9 : Nat) : Int) ≤ ((v2w5 : Nat) : Int) := ileI (nI_toInt (by omega)) (nI_toInt (by omega)) c_9
              have hI_22 : ((v1_11 : Nat) : Int) ≤ ((v2w14 : Nat) : Int) := ileI (nI_toInt (by omega)) (nI_toInt (by omega)) c_19
              have hA_23 : (cV 2 M oa 0).toInt = (v1_0 : Int32).toInt := by rw [cV_of hM1 rfl]
              have hA_24 : (cV 2 M oa 1).toInt = (v1_1 : Int32).toInt := by rw [cV_of hM1 rfl]
              have hA_25 : (cV 2 M oa 2).toInt = (v1_2 : Int32).toInt := by rw [cV_of hM1 rfl]
              have hA_26 : (cV 2 M oa 4).toInt = ((v1_4 : Nat) : Int) := by rw [cV_of hM1 rfl]; exact nI_toInt (by omega)
              have hA_27 : (cV 2 M oa 5).toInt = ((v1_5 : Nat) : Int) := by rw [cV_of hM1 rfl]; exact nI_toInt (by omega)
              have hA_28 : (cV 2 M oa 9).toInt = ((v1_9 : Nat) : Int) := by rw [cV_of hM1 rfl]; exact nI_toInt (by omega)
              have hA_29 : (cV 2 M oa 11).toInt = ((v1_11 : Nat) : Int) := by rw [cV_of hM1 rfl]; exact nI_toInt (by omega)
              have hA_30 : (cV 2 M oa 15).toInt = (v1_15 : Int32).toInt := by rw [cV_of hM1 rfl]
              rw [hQ]
              exact W.zret (v := 0) hx hb hr rfl (fun t ht hW9 => ⟨⟨0, (), rfl, (Or.inr ⟨rfl, fun w9 => w9.elim hptn (fun q9 => hx_17 (prn_mono (by omega) q9))⟩), ⟨by rw [ht]; exact hP, hD⟩⟩, hS.F ht⟩) hS.2.2 dX2_isParted_112
            · have hz := rfl (a := 0)
              have n_31 : ¬ (v1_11 ≤ v2w14) := fun q => c_19 ((iLE (a := v1_11) (b := v2w14) (by omega) (by omega)).mpr q)
              refine lv_iload_n hx hb dX2_isParted_54 rfl (lv_at hl 0 rfl) ?_
              refine lv_bipush (v := 16) hx hb dX2_isParted_55 (by decide) ?_
              refine lv_icmp_ge (tgt := 111) hx hb dX2_isParted_57 (by decide) (fun c_32 => ?_) (fun c_32 => ?_)
              · have hz := rfl (a := 0)
                have n_33 : 16 ≤ v2w14 := (iLE (a := 16) (b := v2w14) (by omega) (by omega)).mp c_32
                refine lv_iconst (v := 0) hx hb dX2_isParted_111 (by decide) ?_
                have hI_34 : ((v1_9 : Nat) : Int) ≤ ((v2w5 : Nat) : Int) := ileI (nI_toInt (by omega)) (nI_toInt (by omega)) c_9
                have hI_35 : ((v2w14 : Nat) : Int) < ((v1_11 : Nat) : Int) := inleI (nI_toInt (by omega)) (nI_toInt (by omega)) c_19
                have hI_36 : (16 : Int) ≤ ((v2w14 : Nat) : Int) := ileI rfl (nI_toInt (by omega)) c_32
                have hA_37 : (cV 2 M oa 0).toInt = (v1_0 : Int32).toInt := by rw [cV_of hM1 rfl]
                have hA_38 : (cV 2 M oa 1).toInt = (v1_1 : Int32).toInt := by rw [cV_of hM1 rfl]
                have hA_39 : (cV 2 M oa 2).toInt = (v1_2 : Int32).toInt := by rw [cV_of hM1 rfl]
                have hA_40 : (cV 2 M oa 4).toInt = ((v1_4 : Nat) : Int) := by rw [cV_of hM1 rfl]; exact nI_toInt (by omega)
                have hA_41 : (cV 2 M oa 5).toInt = ((v1_5 : Nat) : Int) := by rw [cV_of hM1 rfl]; exact nI_toInt (by omega)
                have hA_42 : (cV 2 M oa 9).toInt = ((v1_9 : Nat) : Int) := by rw [cV_of hM1 rfl]; exact nI_toInt (by omega)
                have hA_43 : (cV 2 M oa 11).toInt = ((v1_11 : Nat) : Int) := by rw [cV_of hM1 rfl]; exact nI_toInt (by omega)
                have hA_44 : (cV 2 M oa 15).toInt = (v1_15 : Int32).toInt := by rw [cV_of hM1 rfl]
                rw [hQ]
                exact W.zret (v := 0) hx hb hr rfl (fun t ht hW9 => ⟨⟨0, (), rfl, (Or.inr ⟨rfl, fun w9 => w9.elim hptn (fun q9 => hx_17 (prn_mono (by omega) q9))⟩), ⟨by rw [ht]; exact hP, hD⟩⟩, hS.F ht⟩) hS.2.2 dX2_isParted_112
              · have hz := rfl (a := 0)
                have n_45 : ¬ (16 ≤ v2w14) := fun q => c_32 ((iLE (a := 16) (b := v2w14) (by omega) (by omega)).mpr q)
                refine lv_aload_n hx hb dX2_isParted_60 rfl (lv_at hl 1 rfl) ?_
                refine pg_get (D := D) (ci := 2) (v := .ref v1_10) (C := RX2) (T := TX2) (N := 20) hx hb hg inG2 hown hK hP ia.1 hM1 rfl 10 (by decide) (hg _ wd_67) (fun _ h9 => h9) rfl dX2_isParted_61 ?_
                refine lv_iload_n hx hb dX2_isParted_64 rfl (lv_at hl 0 rfl) ?_
                obtain ⟨f46, hM46, hf46⟩ := hW.open_20 h1_10
                have hi_47 : vp_in (nI v2w14) 16 := (inbN v2w14 16 (by omega) (by omega))
                refine pg_aldq hx hb hK hP h1_10.1 6 hM46 rfl hi_47 dX2_isParted_65 ?_
                obtain ⟨q_48, ho_49⟩ : ∃ q : Option Nat, q = f46 ((nI v2w14) : Int32).toNatClampNeg := ⟨_, rfl⟩
                rw [← ho_49]
                have hq_50 : iskN K L q_48 6 0 := by rw [ho_49]; exact hf46 _ (vp_lt hi_47)
                rcases q_48 with _ | bq_48
                · have hz := rfl (a := 0)
                  exfalso
                  have h8 := h33 v2w14 (by omega)
                  have hs0 : RFc (M (rA 2 M oa 10)) v2w14 = none := by rw [rA_of (j := 10) hM1 rfl, RFc_of hM46]; have h9 := Eq.symm ho_49; rw [nI_cl (by omega)] at h9; exact h9
                  rw [pk_rn hs0 (by omega)] at h8
                  exact absurd h8 (by decide)
                · have hb_51 := hq_50 bq_48 rfl
                  have hsk : RFc (M (rA 2 M oa 10)) v2w14 = some bq_48 := by rw [rA_of (j := 10) hM1 rfl, RFc_of hM46]; have h9 := (Eq.symm ho_49); rw [nI_cl (by omega)] at h9; exact h9
                  have hr34 : (cax M oa 34 v2w14).toInt = (cV 6 M bq_48 0).toInt := congrArg Int32.toInt (pk_ru hsk (by omega)).1
                  refine lv_astore_n (lv' := [(3, .ref bq_48), (2, .int (nI v2w14)), (0, .ref oa), (1, .int k1)]) hx hb dX2_isParted_66 rfl hl (by decide) rfl (fun ls hl => ?_)
                  refine lv_aload_n hx hb dX2_isParted_67 rfl (lv_at hl 2 rfl) ?_
                  refine pg_get (D := D) (ci := 2) (v := .ref v1_10) (C := RX2) (T := TX2) (N := 20) hx hb hg inG2 hown hK hP ia.1 hM1 rfl 10 (by decide) (hg _ wd_67) (fun _ h9 => h9) rfl dX2_isParted_68 ?_
                  refine lv_iload_n hx hb dX2_isParted_71 rfl (lv_at hl 1 rfl) ?_
                  refine lv_iconst (v := 1) hx hb dX2_isParted_72 (by decide) ?_
                  refine lv_isub hx hb dX2_isParted_73 ?_
                  refine lv_topi (fun f_52 ef_52 => ?_)
                  obtain rfl : f_52 = (nI (v2w14 - 1)) := ef_52.trans (nI_prd (by omega))
                  have hi_53 : vp_in (nI (v2w14 - 1)) 16 := (inbN (v2w14 - 1) 16 (by omega) (by omega))
                  refine pg_aldq hx hb hK hP h1_10.1 6 hM46 rfl hi_53 dX2_isParted_74 ?_
                  obtain ⟨q_54, ho_55⟩ : ∃ q : Option Nat, q = f46 ((nI (v2w14 - 1)) : Int32).toNatClampNeg := ⟨_, rfl⟩
                  rw [← ho_55]
                  have hq_56 : iskN K L q_54 6 0 := by rw [ho_55]; exact hf46 _ (vp_lt hi_53)
                  rcases q_54 with _ | bq_54
                  · have hz := rfl (a := 0)
                    exfalso
                    have h8 := h33 (v2w14 - 1) (by omega)
                    have hs0 : RFc (M (rA 2 M oa 10)) (v2w14 - 1) = none := by rw [rA_of (j := 10) hM1 rfl, RFc_of hM46]; have h9 := Eq.symm ho_55; rw [nI_cl (by omega)] at h9; exact h9
                    rw [pk_rn hs0 (by omega)] at h8
                    exact absurd h8 (by decide)
                  · have hb_57 := hq_56 bq_54 rfl
                    have hsj : RFc (M (rA 2 M oa 10)) (v2w14 - 1) = some bq_54 := by rw [rA_of (j := 10) hM1 rfl, RFc_of hM46]; have h9 := (Eq.symm ho_55); rw [nI_cl (by omega)] at h9; exact h9
                    refine lv_astore (lv' := [(4, .ref bq_54), (3, .ref bq_48), (2, .int (nI v2w14)), (0, .ref oa), (1, .int k1)]) hx hb dX2_isParted_75 hl (by decide) rfl (fun ls hl => ?_)
                    refine lv_aload_n hx hb dX2_isParted_77 rfl (lv_at hl 1 rfl) ?_
                    refine lv_ifnull hx hb dX2_isParted_78 ?_
                    refine lv_aload hx hb dX2_isParted_81 (lv_at hl 0 rfl) ?_
                    refine lv_ifnull hx hb dX2_isParted_83 ?_
                    refine lv_aload_n hx hb dX2_isParted_86 rfl (lv_at hl 1 rfl) ?_
                    obtain ⟨v58_0, v58_1, v58_2, hM58, h58_2⟩ := hW.open_6 hb_51
                    refine pg_get (D := D) (ci := 6) (v := .int v58_0) (C := RX6) (T := TX6) (N := 3) hx hb hg inG6 hown hK hP hb_51.1 hM58 rfl 0 (by decide) (hg _ wd_68) (fun _ h9 => h9) rfl dX2_isParted_87 ?_
                    refine lv_iload_n hx hb dX2_isParted_90 rfl (lv_at hl 4 rfl) ?_
                    refine lv_icmp_ne (tgt := 105) hx hb dX2_isParted_91 (by decide) (fun c_59 => ?_) (fun c_59 => ?_)
                    · have hz := rfl (a := 0)
                      refine lv_iinc (v := (nI (v2w14 + 1))) (lv' := [(2, .int (nI (v2w14 + 1))), (4, .ref bq_54), (3, .ref bq_48), (0, .ref oa), (1, .int k1)]) hx hb dX2_isParted_105 hl (k := 2) rfl (nI_1 v2w14) (by decide) rfl (fun ls hl => ?_)
                      refine lv_goto (tgt := 46) hx hb dX2_isParted_108 (by decide) ?_
                      have hI_60 : ((v1_9 : Nat) : Int) ≤ ((v2w5 : Nat) : Int) := ileI (nI_toInt (by omega)) (nI_toInt (by omega)) c_9
                      have hI_61 : ((v2w14 : Nat) : Int) < ((v1_11 : Nat) : Int) := inleI (nI_toInt (by omega)) (nI_toInt (by omega)) c_19
                      have hI_62 : ((v2w14 : Nat) : Int) < (16 : Int) := inleI rfl (nI_toInt (by omega)) c_32
                      have hI_63 : (v58_0 : Int32).toInt ≠ (k1 : Int32).toInt := ineI rfl rfl c_59
                      have hA_64 : (cV 2 M oa 0).toInt = (v1_0 : Int32).toInt := by rw [cV_of hM1 rfl]
                      have hA_65 : (cV 2 M oa 1).toInt = (v1_1 : Int32).toInt := by rw [cV_of hM1 rfl]
                      have hA_66 : (cV 2 M oa 2).toInt = (v1_2 : Int32).toInt := by rw [cV_of hM1 rfl]
                      have hA_67 : (cV 2 M oa 4).toInt = ((v1_4 : Nat) : Int) := by rw [cV_of hM1 rfl]; exact nI_toInt (by omega)
                      have hA_68 : (cV 2 M oa 5).toInt = ((v1_5 : Nat) : Int) := by rw [cV_of hM1 rfl]; exact nI_toInt (by omega)
                      have hA_69 : (cV 2 M oa 9).toInt = ((v1_9 : Nat) : Int) := by rw [cV_of hM1 rfl]; exact nI_toInt (by omega)
                      have hA_70 : (cV 2 M oa 11).toInt = ((v1_11 : Nat) : Int) := by rw [cV_of hM1 rfl]; exact nI_toInt (by omega)
                      have hA_71 : (cV 2 M oa 15).toInt = (v1_15 : Int32).toInt := by rw [cV_of hM1 rfl]
                      have hA_72 : (cV 6 M bq_48 0).toInt = (v58_0 : Int32).toInt := by rw [cV_of hM58 rfl]
                      have hA_73 : (cV 6 M bq_48 1).toInt = (v58_1 : Int32).toInt := by rw [cV_of hM58 rfl]
                      exact ih_12 (v2w14 + 1) H_18 _ _ (by omega) (by omega) (by omega) (fun w9 => by rcases (prn_1 (by omega)).mp w9 with q9 | q9; exact hx_17 q9; have q8 := q9.1; omega) hW hP hD hS (lv_sub hl [0, 3, 4] rfl)
                    · have hz := rfl (a := 0)
                      refine lv_aload_n hx hb dX2_isParted_94 rfl (lv_at hl 1 rfl) ?_
                      refine lv_aload hx hb dX2_isParted_95 (lv_at hl 0 rfl) ?_
                      have hPc : va_P D vwCl ([] ++ va_pl L M) H_18 := hP
                      have hDc : va_D A ([] ++ va_pl L M) := hD
                      have hFc : ∀ q, va_A ([] ++ va_pl L M) H_18.size q → A q := pg_free hDc hS hA
                      refine va_calli (va_runV (As := [.ref bq_54]) (rest := []) ⟨hx, hb, hml, hown, hg⟩ (e_differs l D cy K L M H_18.size bq_48 bq_54  hW hb_51 hb_57) (cwV 1 hg (gV wd_94 wd_95 wd_96 wd_97 wd_98) rfl rfl rfl (by decide +kernel) ⟨(Nat.le_trans (Nat.le_of_ble_eq_true rfl) hRf), (Nat.le_trans (Nat.le_of_ble_eq_true rfl) hRl)⟩) ⟨PG.blind, pg_recv hK hP hb_51.1 hM58 rfl, fun U hU hW => ⟨rfl, PG.at hPc hK hDc hN hU hW⟩⟩ rfl rfl hl.1 rfl (lv_room (Nat.le_of_ble_eq_true rfl)) dX2_isParted_97 ⟨(Nat.le_trans (Nat.le_of_ble_eq_true rfl) hRc), (Nat.le_trans (Nat.le_of_ble_eq_true rfl) hRs)⟩) hS (fun q _ h => hFc q h) hFc (fun r_75 M_76 t H_74 locs ht hvm hw hB hz1 hk1 hS => ?_)
                      have hp_77 := hw
                      obtain ⟨hP1, hD1⟩ := hB
                      rw [ht] at hP1
                      have hP : va_P D vwCl ([] ++ va_pl L M) H_74 := hP1
                      have hD : va_D A ([] ++ va_pl L M) := hD1.mono hFc
                      rcases hp_77 with ⟨rfl, c_78⟩ | ⟨rfl, c_79⟩
                      · have hz := rfl (a := 0)
                        have hun := unl_of hsk hsj (by omega)
                        refine lv_if_eq (tgt := 105) hx hb dX2_isParted_100 (by decide) (fun c_80 => absurd c_80 (by decide)) (fun _ => ?_)
                        refine lv_iconst (v := 1) hx hb dX2_isParted_103 (by decide) ?_
                        have hI_81 : ((v1_9 : Nat) : Int) ≤ ((v2w5 : Nat) : Int) := ileI (nI_toInt (by omega)) (nI_toInt (by omega)) c_9
                        have hI_82 : ((v2w14 : Nat) : Int) < ((v1_11 : Nat) : Int) := inleI (nI_toInt (by omega)) (nI_toInt (by omega)) c_19
                        have hI_83 : ((v2w14 : Nat) : Int) < (16 : Int) := inleI rfl (nI_toInt (by omega)) c_32
                        have hI_84 : (v58_0 : Int32).toInt = (k1 : Int32).toInt := ieqI rfl rfl c_59
                        have hA_85 : (cV 2 M oa 0).toInt = (v1_0 : Int32).toInt := by rw [cV_of hM1 rfl]
                        have hA_86 : (cV 2 M oa 1).toInt = (v1_1 : Int32).toInt := by rw [cV_of hM1 rfl]
                        have hA_87 : (cV 2 M oa 2).toInt = (v1_2 : Int32).toInt := by rw [cV_of hM1 rfl]
                        have hA_88 : (cV 2 M oa 4).toInt = ((v1_4 : Nat) : Int) := by rw [cV_of hM1 rfl]; exact nI_toInt (by omega)
                        have hA_89 : (cV 2 M oa 5).toInt = ((v1_5 : Nat) : Int) := by rw [cV_of hM1 rfl]; exact nI_toInt (by omega)
                        have hA_90 : (cV 2 M oa 9).toInt = ((v1_9 : Nat) : Int) := by rw [cV_of hM1 rfl]; exact nI_toInt (by omega)
                        have hA_91 : (cV 2 M oa 11).toInt = ((v1_11 : Nat) : Int) := by rw [cV_of hM1 rfl]; exact nI_toInt (by omega)
                        have hA_92 : (cV 2 M oa 15).toInt = (v1_15 : Int32).toInt := by rw [cV_of hM1 rfl]
                        have hA_93 : (cV 6 M bq_48 0).toInt = (v58_0 : Int32).toInt := by rw [cV_of hM58 rfl]
                        have hA_94 : (cV 6 M bq_48 1).toInt = (v58_1 : Int32).toInt := by rw [cV_of hM58 rfl]
                        rw [hQ]
                        exact W.zret (v := 1) hx hb hr rfl (fun t ht hW9 => ⟨⟨1, (), rfl, (Or.inl ⟨rfl, Or.inr ⟨v2w14, by omega, by omega, by omega, hun.mpr c_78⟩⟩), ⟨by rw [ht]; exact hP, hD⟩⟩, hS.F ht⟩) hS.2.2 dX2_isParted_104
                      · have hz := rfl (a := 0)
                        have hun := unl_of hsk hsj (by omega)
                        refine lv_if_eq (tgt := 105) hx hb dX2_isParted_100 (by decide) (fun _ => ?_) (fun c_95 => absurd c_95 (by decide))
                        refine lv_iinc (v := (nI (v2w14 + 1))) (lv' := [(2, .int (nI (v2w14 + 1))), (4, .ref bq_54), (3, .ref bq_48), (0, .ref oa), (1, .int k1)]) hx hb dX2_isParted_105 hl (k := 2) rfl (nI_1 v2w14) (by decide) rfl (fun ls hl => ?_)
                        refine lv_goto (tgt := 46) hx hb dX2_isParted_108 (by decide) ?_
                        have hI_96 : ((v1_9 : Nat) : Int) ≤ ((v2w5 : Nat) : Int) := ileI (nI_toInt (by omega)) (nI_toInt (by omega)) c_9
                        have hI_97 : ((v2w14 : Nat) : Int) < ((v1_11 : Nat) : Int) := inleI (nI_toInt (by omega)) (nI_toInt (by omega)) c_19
                        have hI_98 : ((v2w14 : Nat) : Int) < (16 : Int) := inleI rfl (nI_toInt (by omega)) c_32
                        have hI_99 : (v58_0 : Int32).toInt = (k1 : Int32).toInt := ieqI rfl rfl c_59
                        have hA_100 : (cV 2 M oa 0).toInt = (v1_0 : Int32).toInt := by rw [cV_of hM1 rfl]
                        have hA_101 : (cV 2 M oa 1).toInt = (v1_1 : Int32).toInt := by rw [cV_of hM1 rfl]
                        have hA_102 : (cV 2 M oa 2).toInt = (v1_2 : Int32).toInt := by rw [cV_of hM1 rfl]
                        have hA_103 : (cV 2 M oa 4).toInt = ((v1_4 : Nat) : Int) := by rw [cV_of hM1 rfl]; exact nI_toInt (by omega)
                        have hA_104 : (cV 2 M oa 5).toInt = ((v1_5 : Nat) : Int) := by rw [cV_of hM1 rfl]; exact nI_toInt (by omega)
                        have hA_105 : (cV 2 M oa 9).toInt = ((v1_9 : Nat) : Int) := by rw [cV_of hM1 rfl]; exact nI_toInt (by omega)
                        have hA_106 : (cV 2 M oa 11).toInt = ((v1_11 : Nat) : Int) := by rw [cV_of hM1 rfl]; exact nI_toInt (by omega)
                        have hA_107 : (cV 2 M oa 15).toInt = (v1_15 : Int32).toInt := by rw [cV_of hM1 rfl]
                        have hA_108 : (cV 6 M bq_48 0).toInt = (v58_0 : Int32).toInt := by rw [cV_of hM58 rfl]
                        have hA_109 : (cV 6 M bq_48 1).toInt = (v58_1 : Int32).toInt := by rw [cV_of hM58 rfl]
                        exact ih_12 (v2w14 + 1) H_74 _ _ (by omega) (by omega) (by omega) (fun w9 => by rcases (prn_1 (by omega)).mp w9 with q9 | q9; exact hx_17 q9; exact c_79 (hun.mp q9.2)) hW hP hD hS (lv_sub hl [0, 3, 4] rfl)
        exact key_11 (16 - 1 + 1) 1 H_8 _ _ (by omega) (by omega) (by omega) prn_0 hW hP hD hS (lv_sub hl [0, 1, 2] rfl)
      · have hz := rfl (a := 0)
        have n_110 : ¬ (v1_9 ≤ v2w5) := fun q => c_9 ((iLE (a := v1_9) (b := v2w5) (by omega) (by omega)).mpr q)
        refine lv_aload_n hx hb dX2_isParted_10 rfl (lv_at hl 1 rfl) ?_
        refine lv_iload_n hx hb dX2_isParted_11 rfl (lv_at hl 0 rfl) ?_
        have hPc : va_P D vwCl ([] ++ va_pl L M) H_8 := hP
        have hDc : va_D A ([] ++ va_pl L M) := hD
        have hFc : ∀ q, va_A ([] ++ va_pl L M) H_8.size q → A q := pg_free hDc hS hA
        refine va_callq (va_runV (As := [.int (nI v2w5)]) (rest := []) ⟨hx, hb, hml, hown, hg⟩ (e_X2_tenureAt l D cy K L M H_8.size oa (nI v2w5)  hW ia) (cwV 1 hg (gV wd_54 wd_55 wd_56 wd_57 wd_58) rfl rfl rfl (by decide +kernel) ⟨(Nat.le_trans (Nat.le_of_ble_eq_true rfl) hRf), (Nat.le_trans (Nat.le_of_ble_eq_true rfl) hRl)⟩) ⟨PG.blind, pg_recv hK hP ia.1 hM1 rfl, fun U hU hW => ⟨rfl, PG.at hPc hK hDc hN hU hW⟩⟩ rfl rfl hl.1 rfl (lv_room (Nat.le_of_ble_eq_true rfl)) dX2_isParted_12 ⟨(Nat.le_trans (Nat.le_of_ble_eq_true rfl) hRc), (Nat.le_trans (Nat.le_of_ble_eq_true rfl) hRs)⟩) hS (fun q _ h => hFc q h) hFc (fun r_112 M_113 t H_111 locs ht hvm hw hB hz1 hk1 hS => ?_)
        have hp_114 := hw
        obtain ⟨hP1, hD1⟩ := hB
        rw [ht] at hP1
        have hP : va_P D vwCl ([] ++ va_pl L M) H_111 := hP1
        have hD : va_D A ([] ++ va_pl L M) := hD1.mono hFc
        obtain ⟨hp_114, hqx⟩ := hp_114
        rcases r_112 with _ | b_115
        · have hz := rfl (a := 0)
          have hqt := hqx
          refine lv_astore_nN (lv' := [(3, .null), (2, .int (nI v2w5)), (0, .ref oa), (1, .int k1)]) hx hb dX2_isParted_15 rfl hl (by decide) rfl (fun ls hl => ?_)
          exfalso
          rcases hqt.2 rfl with q9 | q9
          · exact q9 (by rw [nI_toInt (by omega)]; omega)
          · rw [nI_cl (by omega)] at q9
            have h8 := h28 v2w5 (by omega)
            rw [tn0 q9 (by omega)] at h8
            exact absurd h8 (by decide)
        · have hb_116 := hp_114 b_115 rfl
          have hqt := hqx
          refine lv_astore_n (lv' := [(3, .ref b_115), (2, .int (nI v2w5)), (0, .ref oa), (1, .int k1)]) hx hb dX2_isParted_15 rfl hl (by decide) rfl (fun ls hl => ?_)
          obtain ⟨_, hst⟩ := hqt.1 _ rfl
          rw [nI_cl (by omega)] at hst
          have hlt := lk_te hst (by omega)
          have h21 : (cax M oa 21 v2w5).toInt = (cV 9 M b_115 3).toInt := congrArg Int32.toInt hlt.2.2.1
          have h22 : (cax M oa 22 v2w5).toInt = (cV 9 M b_115 5).toInt := congrArg Int32.toInt hlt.2.2.2.1
          refine lv_aload_n hx hb dX2_isParted_16 rfl (lv_at hl 0 rfl) ?_
          refine lv_ifnull hx hb dX2_isParted_17 ?_
          refine lv_aload_n hx hb dX2_isParted_20 rfl (lv_at hl 0 rfl) ?_
          obtain ⟨v117_0, v117_1, v117_2, v117_3, v117_4, v117_5, v117_6, v117_7, v117_8, v117_9, v117_10, v117_11, v117_12, v117_13, v117_14, v117_15, hM117, h117_0, h117_1, h117_4, h117_8⟩ := hW.open_9 hb_116
          refine pg_get (D := D) (ci := 9) (v := .int v117_3) (C := RX9) (T := TX9) (N := 16) hx hb hg inG9 hown hK hP hb_116.1 hM117 rfl 3 (by decide) (hg _ wd_88) (fun _ h9 => h9) rfl dX2_isParted_21 ?_
          refine lv_iload_n hx hb dX2_isParted_24 rfl (lv_at hl 3 rfl) ?_
          refine lv_icmp_eq (tgt := 36) hx hb dX2_isParted_25 (by decide) (fun c_118 => ?_) (fun c_118 => ?_)
          · have hz := rfl (a := 0)
            refine lv_iconst (v := 1) hx hb dX2_isParted_36 (by decide) ?_
            have hI_119 : ((v2w5 : Nat) : Int) < ((v1_9 : Nat) : Int) := inleI (nI_toInt (by omega)) (nI_toInt (by omega)) c_9
            have hI_120 : (v117_3 : Int32).toInt = (k1 : Int32).toInt := ieqI rfl rfl c_118
            have hA_121 : (cV 2 M oa 0).toInt = (v1_0 : Int32).toInt := by rw [cV_of hM1 rfl]
            have hA_122 : (cV 2 M oa 1).toInt = (v1_1 : Int32).toInt := by rw [cV_of hM1 rfl]
            have hA_123 : (cV 2 M oa 2).toInt = (v1_2 : Int32).toInt := by rw [cV_of hM1 rfl]
            have hA_124 : (cV 2 M oa 4).toInt = ((v1_4 : Nat) : Int) := by rw [cV_of hM1 rfl]; exact nI_toInt (by omega)
            have hA_125 : (cV 2 M oa 5).toInt = ((v1_5 : Nat) : Int) := by rw [cV_of hM1 rfl]; exact nI_toInt (by omega)
            have hA_126 : (cV 2 M oa 9).toInt = ((v1_9 : Nat) : Int) := by rw [cV_of hM1 rfl]; exact nI_toInt (by omega)
            have hA_127 : (cV 2 M oa 11).toInt = ((v1_11 : Nat) : Int) := by rw [cV_of hM1 rfl]; exact nI_toInt (by omega)
            have hA_128 : (cV 2 M oa 15).toInt = (v1_15 : Int32).toInt := by rw [cV_of hM1 rfl]
            have hA_129 : (cV 9 M b_115 0).toInt = ((v117_0 : Nat) : Int) := by rw [cV_of hM117 rfl]; exact nI_toInt (by omega)
            have hA_130 : (cV 9 M b_115 2).toInt = (v117_2 : Int32).toInt := by rw [cV_of hM117 rfl]
            have hA_131 : (cV 9 M b_115 3).toInt = (v117_3 : Int32).toInt := by rw [cV_of hM117 rfl]
            have hA_132 : (cV 9 M b_115 4).toInt = (v117_4 : Int32).toInt := by rw [cV_of hM117 rfl]
            have hA_133 : (cV 9 M b_115 5).toInt = (v117_5 : Int32).toInt := by rw [cV_of hM117 rfl]
            have hA_134 : (cV 9 M b_115 6).toInt = (v117_6 : Int32).toInt := by rw [cV_of hM117 rfl]
            have hA_135 : (cV 9 M b_115 7).toInt = (v117_7 : Int32).toInt := by rw [cV_of hM117 rfl]
            rw [hQ]
            exact W.zret (v := 1) hx hb hr rfl (fun t ht hW9 => ⟨⟨1, (), rfl, (Or.inl ⟨rfl, Or.inl ⟨v2w5, by omega, by omega⟩⟩), ⟨by rw [ht]; exact hP, hD⟩⟩, hS.F ht⟩) hS.2.2 dX2_isParted_37
          · have hz := rfl (a := 0)
            refine lv_aload_n hx hb dX2_isParted_28 rfl (lv_at hl 0 rfl) ?_
            refine pg_get (D := D) (ci := 9) (v := .int v117_5) (C := RX9) (T := TX9) (N := 16) hx hb hg inG9 hown hK hP hb_116.1 hM117 rfl 5 (by decide) (hg _ wd_60) (fun _ h9 => h9) rfl dX2_isParted_29 ?_
            refine lv_iload_n hx hb dX2_isParted_32 rfl (lv_at hl 3 rfl) ?_
            refine lv_icmp_ne (tgt := 38) hx hb dX2_isParted_33 (by decide) (fun c_136 => ?_) (fun c_136 => ?_)
            · have hz := rfl (a := 0)
              refine lv_iinc (v := (nI (v2w5 + 1))) (lv' := [(2, .int (nI (v2w5 + 1))), (3, .ref b_115), (0, .ref oa), (1, .int k1)]) hx hb dX2_isParted_38 hl (k := 1) rfl (nI_1 v2w5) (by decide) rfl (fun ls hl => ?_)
              refine lv_goto (tgt := 2) hx hb dX2_isParted_41 (by decide) ?_
              have hI_137 : ((v2w5 : Nat) : Int) < ((v1_9 : Nat) : Int) := inleI (nI_toInt (by omega)) (nI_toInt (by omega)) c_9
              have hI_138 : (v117_3 : Int32).toInt ≠ (k1 : Int32).toInt := ineI rfl rfl c_118
              have hI_139 : (v117_5 : Int32).toInt ≠ (k1 : Int32).toInt := ineI rfl rfl c_136
              have hA_140 : (cV 2 M oa 0).toInt = (v1_0 : Int32).toInt := by rw [cV_of hM1 rfl]
              have hA_141 : (cV 2 M oa 1).toInt = (v1_1 : Int32).toInt := by rw [cV_of hM1 rfl]
              have hA_142 : (cV 2 M oa 2).toInt = (v1_2 : Int32).toInt := by rw [cV_of hM1 rfl]
              have hA_143 : (cV 2 M oa 4).toInt = ((v1_4 : Nat) : Int) := by rw [cV_of hM1 rfl]; exact nI_toInt (by omega)
              have hA_144 : (cV 2 M oa 5).toInt = ((v1_5 : Nat) : Int) := by rw [cV_of hM1 rfl]; exact nI_toInt (by omega)
              have hA_145 : (cV 2 M oa 9).toInt = ((v1_9 : Nat) : Int) := by rw [cV_of hM1 rfl]; exact nI_toInt (by omega)
              have hA_146 : (cV 2 M oa 11).toInt = ((v1_11 : Nat) : Int) := by rw [cV_of hM1 rfl]; exact nI_toInt (by omega)
              have hA_147 : (cV 2 M oa 15).toInt = (v1_15 : Int32).toInt := by rw [cV_of hM1 rfl]
              have hA_148 : (cV 9 M b_115 0).toInt = ((v117_0 : Nat) : Int) := by rw [cV_of hM117 rfl]; exact nI_toInt (by omega)
              have hA_149 : (cV 9 M b_115 2).toInt = (v117_2 : Int32).toInt := by rw [cV_of hM117 rfl]
              have hA_150 : (cV 9 M b_115 3).toInt = (v117_3 : Int32).toInt := by rw [cV_of hM117 rfl]
              have hA_151 : (cV 9 M b_115 4).toInt = (v117_4 : Int32).toInt := by rw [cV_of hM117 rfl]
              have hA_152 : (cV 9 M b_115 5).toInt = (v117_5 : Int32).toInt := by rw [cV_of hM117 rfl]
              have hA_153 : (cV 9 M b_115 6).toInt = (v117_6 : Int32).toInt := by rw [cV_of hM117 rfl]
              have hA_154 : (cV 9 M b_115 7).toInt = (v117_7 : Int32).toInt := by rw [cV_of hM117 rfl]
              exact ih_3 (v2w5 + 1) H_111 _ _ (by omega) (by omega) (fun w9 => by rcases ptn_1.mp w9 with q9 | q9 | q9; exact hx_7 q9; omega; omega) hW hP hD hS (lv_sub hl [0, 2, 3] rfl)
            · have hz := rfl (a := 0)
              refine lv_iconst (v := 1) hx hb dX2_isParted_36 (by decide) ?_
              have hI_155 : ((v2w5 : Nat) : Int) < ((v1_9 : Nat) : Int) := inleI (nI_toInt (by omega)) (nI_toInt (by omega)) c_9
              have hI_156 : (v117_3 : Int32).toInt ≠ (k1 : Int32).toInt := ineI rfl rfl c_118
              have hI_157 : (v117_5 : Int32).toInt = (k1 : Int32).toInt := ieqI rfl rfl c_136
              have hA_158 : (cV 2 M oa 0).toInt = (v1_0 : Int32).toInt := by rw [cV_of hM1 rfl]
              have hA_159 : (cV 2 M oa 1).toInt = (v1_1 : Int32).toInt := by rw [cV_of hM1 rfl]
              have hA_160 : (cV 2 M oa 2).toInt = (v1_2 : Int32).toInt := by rw [cV_of hM1 rfl]
              have hA_161 : (cV 2 M oa 4).toInt = ((v1_4 : Nat) : Int) := by rw [cV_of hM1 rfl]; exact nI_toInt (by omega)
              have hA_162 : (cV 2 M oa 5).toInt = ((v1_5 : Nat) : Int) := by rw [cV_of hM1 rfl]; exact nI_toInt (by omega)
              have hA_163 : (cV 2 M oa 9).toInt = ((v1_9 : Nat) : Int) := by rw [cV_of hM1 rfl]; exact nI_toInt (by omega)
              have hA_164 : (cV 2 M oa 11).toInt = ((v1_11 : Nat) : Int) := by rw [cV_of hM1 rfl]; exact nI_toInt (by omega)
              have hA_165 : (cV 2 M oa 15).toInt = (v1_15 : Int32).toInt := by rw [cV_of hM1 rfl]
              have hA_166 : (cV 9 M b_115 0).toInt = ((v117_0 : Nat) : Int) := by rw [cV_of hM117 rfl]; exact nI_toInt (by omega)
              have hA_167 : (cV 9 M b_115 2).toInt = (v117_2 : Int32).toInt := by rw [cV_of hM117 rfl]
              have hA_168 : (cV 9 M b_115 3).toInt = (v117_3 : Int32).toInt := by rw [cV_of hM117 rfl]
              have hA_169 : (cV 9 M b_115 4).toInt = (v117_4 : Int32).toInt := by rw [cV_of hM117 rfl]
              have hA_170 : (cV 9 M b_115 5).toInt = (v117_5 : Int32).toInt := by rw [cV_of hM117 rfl]
              have hA_171 : (cV 9 M b_115 6).toInt = (v117_6 : Int32).toInt := by rw [cV_of hM117 rfl]
              have hA_172 : (cV 9 M b_115 7).toInt = (v117_7 : Int32).toInt := by rw [cV_of hM117 rfl]
              rw [hQ]
              exact W.zret (v := 1) hx hb hr rfl (fun t ht hW9 => ⟨⟨1, (), rfl, (Or.inl ⟨rfl, Or.inl ⟨v2w5, by omega, by omega⟩⟩), ⟨by rw [ht]; exact hP, hD⟩⟩, hS.F ht⟩) hS.2.2 dX2_isParted_37
  exact key_2 (24 - 0 + 1) 0 s.heap _ _ (by omega) (by omega) ptn_0 hW hP hD hS (lv_sub hl [0, 1, 2] rfl)
set_option maxHeartbeats 4000000 in
set_option maxRecDepth 100000 in
theorem e_appN (l : Launch) (D : va_G) (cy : Nat → ClassId) (K0 : Kp) (L0 : List Nat) (M0 : Hp) (sz : Nat) (oa : Nat) (k1 : Int32) (y0 : Nat) (y1 : Nat) (y2 : Nat) (y3 : Nat) (y4 : Int64) (hW : WOK cy K0 L0 M0) (ia : isk K0 L0 oa 0 0) (hroom : y3 < 120) (hMy : M0 oa = (b0_7 y0 y1 y2 (nI y3) y4)) (hy0 : isk K0 L0 y0 21 120) (hy1 : isk K0 L0 y1 66 100) (hy2 : isk K0 L0 y2 7 0) (hy3 : y3 ≤ 120) : Met l yX0_append (wsM yX0_append cX0_append 3 (some (.object "PartnersBook$Stretch"))) ({ frames := 2, cells := 3, slots := 18, locals := 45 }) (va_Pc [.ref oa, .int k1] (PG D cy [] L0 M0 sz)) (va_Qq (fun (r : Option Nat) (u : Kp × List Nat × Hp) => ext K0 L0 u.1 u.2.1 ∧ WOK cy u.1 u.2.1 u.2.2 ∧ fr K0 L0 [0, 8, 21, 72] M0 u.2.2 ∧ u.2.2 oa = (b0_7 y0 y1 y2 (nI (y3 + 1)) y4) ∧ (iskN u.1 u.2.1 r 8 0 ∧ r ≠ none)) (fun u t => NW2 K0 L0 u.1 u.2.1 ∧ OTH K0 L0 oa M0 u.2.2 ∧ PQ D [] u.2.1 u.2.2 (va_A ([] ++ va_pl L0 M0) sz) t) (va_A ([] ++ va_pl L0 M0) sz)) 3 18 (va_A ([] ++ va_pl L0 M0) sz) := by
  refine Met.ofW (cc := cX0_append) (maxL := 3) (ret := (some (.object "PartnersBook$Stretch"))) (by decide) rfl ?_
  intro p e s m args below meth c s₁ B hml hv
  obtain ⟨rfl, hsz, hP, hK, hD0, hN⟩ := hv
  have hx := B.exec
  have hb := B.bytes
  have hr := B.returns
  have hts := atoms_spec (ws := (wsM yX0_append cX0_append 3 (some (.object "PartnersBook$Stretch")))) B.pre
  have hg : ∀ w ∈ lw_good, w.before _ s = true := fun w h => hts w (List.mem_cons_of_mem _ h)
  have hown : s.vm.findClass RX0 = some m.cls := findClass_of_methodNamed B.named
  have hlocks := B.notSynchronized
  subst hsz
  have hD := hD0.self (sz := s.heap.size)
  generalize hAe : va_A ([] ++ va_pl L0 M0) s.heap.size = A at hD ⊢
  have hA : ∀ q : Nat, s.heap.size ≤ q → A q := fun q h => by rw [← hAe]; exact Or.inr h
  have hS : va_S A s.heap s.heap [] := va_S.rf
  have hl := lv_entry ([.ref oa, .int k1]) (n := 3) (Nat.le_of_ble_eq_true rfl)
  rw [lg_entry_eq]
  generalize (lg_sl ([.ref oa, .int k1]) ++ List.replicate (3 - (lg_sl ([.ref oa, .int k1])).length) Slot.unset).toArray = ls at hl ⊢
  refine W.nameQ (fun Q hQ => ?_)
  refine W.nameR (fun R hR => ?_)
  have hRf : 2 ≤ R.frames := by rw [hR]; exact Nat.le_of_ble_eq_true rfl
  have hRl : 45 ≤ R.locals := by rw [hR]; exact Nat.le_of_ble_eq_true rfl
  have hRc : 3 ≤ R.cells := by rw [hR]; exact Nat.le_of_ble_eq_true rfl
  have hRs : 18 ≤ R.slots := by rw [hR]; exact Nat.le_of_ble_eq_true rfl
  have hW00 := hW
  have ia00 := ia
  have hMy00 := hMy
  have hy000 := hy0
  have hy100 := hy1
  have hy200 := hy2
  obtain ⟨K, L, M, hX0, hF, hW, hP, hD, ia, hMy, hy0, hy1, hy2, hMe, hKe, hLe⟩ : ∃ (K : Kp) (L : List Nat) (M : Hp), ext K0 L0 K L ∧ fr K0 L0 [0, 8, 21, 72] M0 M ∧ WOK cy K L M ∧ va_P D vwCl ([] ++ va_pl L M) s.heap ∧ va_D A ([] ++ va_pl L M) ∧ isk K L oa 0 0 ∧ M oa = (b0_7 y0 y1 y2 (nI y3) y4) ∧ isk K L y0 21 120 ∧ isk K L y1 66 100 ∧ isk K L y2 7 0 ∧ M = M0 ∧ K = K0 ∧ L = L0 := ⟨K0, L0, M0, ext.rf, fr.rf, hW, hP, hD, ia, hMy, hy0, hy1, hy2, rfl, rfl, rfl⟩
  have hl : lv_has ls 3 [(0, .ref oa), (1, .int k1)] := hl
  have hNW : NW2 K0 L0 K L := by rw [hKe, hLe]; exact NW2.rf
  have hOT : OTH K0 L0 oa M0 M := by rw [hMe]; exact OTH.rf
  refine lv_aload_n hx hb dX0_append_0 rfl (lv_at hl 0 rfl) ?_
  refine pg_get (D := D) (ci := 0) (v := .int (nI y3)) (C := RX0) (T := TX0) (N := 5) hx hb hg inG0 hown hK hP ia.1 hMy rfl 3 (by decide) (hg _ wd_199) (fun _ h9 => h9) rfl dX0_append_1 ?_
  refine lv_aload_n hx hb dX0_append_4 rfl (lv_at hl 0 rfl) ?_
  refine pg_get (D := D) (ci := 0) (v := .ref y0) (C := RX0) (T := TX0) (N := 5) hx hb hg inG0 hown hK hP ia.1 hMy rfl 0 (by decide) (hg _ wd_200) (fun _ h9 => h9) rfl dX0_append_5 ?_
  obtain ⟨f1, hM1, hf1⟩ := hW.open_21 hy0
  refine pg_alen (v := 120) hx hb hK hP hy0.1 7 hM1 rfl (by rfl) dX0_append_8 ?_
  refine lv_icmp_lt (tgt := 14) hx hb dX0_append_9 (by decide) (fun c_2 => ?_) (fun c_2 => absurd ((iLT (a := y3) (b := 120) (by omega) (by omega)).mpr (by omega)) c_2)
  refine lv_aload_n hx hb dX0_append_14 rfl (lv_at hl 0 rfl) ?_
  refine pg_get (D := D) (ci := 0) (v := .ref y0) (C := RX0) (T := TX0) (N := 5) hx hb hg inG0 hown hK hP ia.1 hMy rfl 0 (by decide) (hg _ wd_200) (fun _ h9 => h9) rfl dX0_append_15 ?_
  refine lv_aload_n hx hb dX0_append_18 rfl (lv_at hl 0 rfl) ?_
  refine pg_get (D := D) (ci := 0) (v := .int (nI y3)) (C := RX0) (T := TX0) (N := 5) hx hb hg inG0 hown hK hP ia.1 hMy rfl 3 (by decide) (hg _ wd_199) (fun _ h9 => h9) rfl dX0_append_19 ?_
  have hi_3 : vp_in (nI y3) 120 := (inbN y3 120 (by omega) (by omega))
  refine pg_aldq hx hb hK hP hy0.1 7 hM1 rfl hi_3 dX0_append_22 ?_
  obtain ⟨q_4, ho_5⟩ : ∃ q : Option Nat, q = f1 ((nI y3) : Int32).toNatClampNeg := ⟨_, rfl⟩
  rw [← ho_5]
  have hq_6 : iskN K L q_4 8 0 := by rw [ho_5]; exact hf1 _ (vp_lt hi_3)
  rcases q_4 with _ | bq_4
  · have hz := rfl (a := 0)
    refine lv_ifnonnullN hx hb dX0_append_23 ?_
    refine lv_aload_n hx hb dX0_append_26 rfl (lv_at hl 0 rfl) ?_
    refine pg_get (D := D) (ci := 0) (v := .ref y0) (C := RX0) (T := TX0) (N := 5) hx hb hg inG0 hown hK hP ia.1 hMy rfl 0 (by decide) (hg _ wd_200) (fun _ h9 => h9) rfl dX0_append_27 ?_
    refine lv_aload_n hx hb dX0_append_30 rfl (lv_at hl 0 rfl) ?_
    refine pg_get (D := D) (ci := 0) (v := .int (nI y3)) (C := RX0) (T := TX0) (N := 5) hx hb hg inG0 hown hK hP ia.1 hMy rfl 3 (by decide) (hg _ wd_199) (fun _ h9 => h9) rfl dX0_append_31 ?_
    refine va_new (ci := 8) (fs := [.null, .null, .int 0, .int 0, .long 0, .long 0]) (C := RX8) (T := TX8) (N := 6) hx hb hg inG8 tyX8 tyX8_ok hown (hg _ wd_538) (hg _ wd_621) (hg _ wd_193) hK hP hD hS hA rfl dfX8 (Nat.le_trans (Nat.le_of_ble_eq_true rfl) hRc) (Nat.le_trans (Nat.le_of_ble_eq_true rfl) hRs) dX0_append_34 (fun q_8 H_9 hP hD hS => ?_)
    have hP : va_P D vwCl ([(q_8, .inr (8, [.null, .null, .int 0, .int 0, .long 0, .long 0]))] ++ va_pl L M) H_9 := hP.swap
    have hD : va_D A ([(q_8, .inr (8, [.null, .null, .int 0, .int 0, .long 0, .long 0]))] ++ va_pl L M) := hD.swap
    refine W.widen (k := 1) (n := 6) (Nat.le_of_ble_eq_true rfl) (Nat.le_of_ble_eq_true rfl) ?_
    refine lv_dup hx hb dX0_append_37 rfl ?_
    have hPc := hP.sub (ws' := [(q_8, .inr (8, [.null, .null, .int 0, .int 0, .long 0, .long 0]))]) [0] rfl
    have hDc := hD.sub (ws' := [(q_8, .inr (8, [.null, .null, .int 0, .int 0, .long 0, .long 0]))]) [0] (by decide) rfl
    have hKc := hK.sub (tys' := []) [] rfl
    have hFc := va_free (wc := [(q_8, .inr (8, [.null, .null, .int 0, .int 0, .long 0, .long 0]))]) hD hS hA [0] rfl
    refine va_callv (va_runIN (As := []) (rest := [.ref q_8, .int (nI y3), .ref y0]) ⟨hx, hb, hml, hown, hg⟩ (k_Stretch l D H_9.size q_8) ⟨va_cnB 0 hg (gB wd_622) rfl rfl rfl (hN _ (List.mem_of_getElem? (i := 5) rfl) : va_Nw (Cond.methodLinkNest RX0 29 yX8_init RX11) s) (hg _ wd_193) (by decide +kernel) ⟨(Nat.le_trans (Nat.le_of_ble_eq_true rfl) hRf), (Nat.le_trans (Nat.le_of_ble_eq_true rfl) hRl)⟩, rfl, hg _ wd_623⟩ ⟨Pr.blind, fun U hU hW => ⟨rfl, Pr.at hPc hKc hDc hN hU hW⟩⟩ rfl rfl hl.1 rfl (lv_room (Nat.le_of_ble_eq_true rfl)) dX0_append_38 ⟨(Nat.le_trans (Nat.le_of_ble_eq_true rfl) hRc), (Nat.le_trans (Nat.le_of_ble_eq_true rfl) hRs)⟩) hS (fun q _ h => hFc q h) hFc (fun M_12 t H_10 locs ht hvm hw hB hz1 hk1 hS => ?_)
    have hp_13 := hw
    obtain ⟨e0_14, e1_15, c0_16, c1_17, hP1, hK1, hD1⟩ := hB
    rw [ht] at hP1
    have hK1 := va_K.moved hvm.symm hK1
    obtain ⟨hP, hD⟩ := va_joinQ (X := [(q_8, .inr (8, [.null, .null, .int 0, .int 0, .long 0, .long 0]))]) (cx := [(q_8, .inr (8, [.null, .null, .int 0, .int 0, .long 0, .long 0]))]) (wr := []) (w1 := [(q_8, (b8_11 e0_14 e1_15 0 0 0 0)), (e0_14, .inl (c0_16, 6, .inr (.inr (.inr (.inr (fun _ => none)))))), (e1_15, .inl (c1_17, 6, .inr (.inl (fun _ => 0))))]) (pl := va_pl L M) hP hD [0] [] rfl rfl (by decide) (by decide) hk1 hFc hP1 hD1
    have hP : va_P D vwCl ([(q_8, (b8_11 e0_14 e1_15 0 0 0 0)), (e0_14, .inl (c0_16, 6, .inr (.inr (.inr (.inr (fun _ => none)))))), (e1_15, .inl (c1_17, 6, .inr (.inl (fun _ => 0))))] ++ va_pl L M) H_10 := hP
    have hD : va_D A ([(q_8, (b8_11 e0_14 e1_15 0 0 0 0)), (e0_14, .inl (c0_16, 6, .inr (.inr (.inr (.inr (fun _ => none)))))), (e1_15, .inl (c1_17, 6, .inr (.inl (fun _ => 0))))] ++ va_pl L M) := hD
    have hK2 := hK.app hK1
    obtain rfl : c0_16 = cy 22 := cls_eq hK2 10 8 rfl rfl
    obtain rfl : c1_17 = cy 15 := cls_eq hK2 11 1 rfl rfl
    refine W.widen (k := 3) (n := 18) (Nat.le_of_ble_eq_true rfl) (Nat.le_of_ble_eq_true rfl) ?_
    have hP : va_P D vwCl (([(q_8, (b8_11 e0_14 e1_15 0 0 0 0)), (zrJ cy 15 e1_15 6)] ++ [(e0_14, .inl ((cy 22), 6, .inr (.inr (.inr (.inr (fun _ => none))))))]) ++ va_pl L M) H_10 := hP.part (cx := [(q_8, (b8_11 e0_14 e1_15 0 0 0 0)), (zrJ cy 15 e1_15 6)] ++ [(e0_14, .inl ((cy 22), 6, .inr (.inr (.inr (.inr (fun _ => none))))))]) [0, 2, 1] rfl
    have hD : va_D A (([(q_8, (b8_11 e0_14 e1_15 0 0 0 0)), (zrJ cy 15 e1_15 6)] ++ [(e0_14, .inl ((cy 22), 6, .inr (.inr (.inr (.inr (fun _ => none))))))]) ++ va_pl L M) := hD.part (cx := [(q_8, (b8_11 e0_14 e1_15 0 0 0 0)), (zrJ cy 15 e1_15 6)] ++ [(e0_14, .inl ((cy 22), 6, .inr (.inr (.inr (.inr (fun _ => none))))))]) [0, 2, 1] (by decide) rfl
    obtain ⟨K9, L9, M_18, hx9, i_19, hW, hP, hD, hM_20, hfr9, hq9, hm9⟩ := adoptE2 65 6 hP hD hW (fun K' L' x i => (⟨_, rfl, fun _ _ => iskN.none⟩ : gd_65 cy K' L' 6 _))
    have hNW : NW2 K0 L0 K9 L9 := hNW.tr ⟨(fun b hb => (hm9 b hb.1).elim (fun z => absurd (hb.un (show isk K9 L9 b 65 6 by rw [z]; exact i_19)) (by decide)) (fun z => ⟨z, ((hx9 b z).2).symm.trans hb.2⟩)), (fun b hb => (hm9 b hb.1).elim (fun z => absurd (hb.un (show isk K9 L9 b 65 6 by rw [z]; exact i_19)) (by decide)) (fun z => ⟨z, ((hx9 b z).2).symm.trans hb.2⟩))⟩
    have hq0e0_14 : e0_14 ∉ L0 := fun z => hq9 (hX0 _ z).1
    have hM_22 : M_18 oa = (b0_7 y0 y1 y2 (nI y3) y4) := (hfr9 _ ia.1).trans hMy
    have hM_23 : M_18 y0 = .inl (cy 21, 120, .inr (.inr (.inr (.inr (f1))))) := (hfr9 _ hy0.1).trans hM1
    have hF : fr K0 L0 [0, 8, 21, 72] M0 M_18 := hF.adX hX0 hfr9
    have hOT : OTH K0 L0 oa M0 M_18 := hOT.ad hX0 hfr9
    have hX0 := hX0.tr hx9
    have i_24 := ia.ext hx9
    have i_25 := hy0.ext hx9
    have i_26 := hy1.ext hx9
    have i_27 := hy2.ext hx9
    have hf_28 := fun j q => (hf1 j q).ext hx9
    obtain ⟨K, L, hK9, hL9⟩ : ∃ (K : Kp) (L : List Nat), K = K9 ∧ L = L9 := ⟨_, _, rfl, rfl⟩
    subst hK9
    subst hL9
    have hP : va_P D vwCl ([(q_8, (b8_11 e0_14 e1_15 0 0 0 0)), (zrJ cy 15 e1_15 6)] ++ va_pl L M_18) H_10 := hP
    have hD : va_D A ([(q_8, (b8_11 e0_14 e1_15 0 0 0 0)), (zrJ cy 15 e1_15 6)] ++ va_pl L M_18) := hD
    have hP : va_P D vwCl (([(q_8, (b8_11 e0_14 e1_15 0 0 0 0))] ++ [(zrJ cy 15 e1_15 6)]) ++ va_pl L M_18) H_10 := hP.part (cx := [(q_8, (b8_11 e0_14 e1_15 0 0 0 0))] ++ [(zrJ cy 15 e1_15 6)]) [0, 1] rfl
    have hD : va_D A (([(q_8, (b8_11 e0_14 e1_15 0 0 0 0))] ++ [(zrJ cy 15 e1_15 6)]) ++ va_pl L M_18) := hD.part (cx := [(q_8, (b8_11 e0_14 e1_15 0 0 0 0))] ++ [(zrJ cy 15 e1_15 6)]) [0, 1] (by decide) rfl
    obtain ⟨K9, L9, M_29, hx9, i_30, hW, hP, hD, hM_31, hfr9, hq9, hm9⟩ := adoptE2 72 6 hP hD hW (fun K' L' x i => (⟨_, rfl⟩ : gd_72 cy K' L' 6 _))
    have hNW : NW2 K0 L0 K9 L9 := hNW.tr ⟨(fun b hb => (hm9 b hb.1).elim (fun z => absurd (hb.un (show isk K9 L9 b 72 6 by rw [z]; exact i_30)) (by decide)) (fun z => ⟨z, ((hx9 b z).2).symm.trans hb.2⟩)), (fun b hb => (hm9 b hb.1).elim (fun z => absurd (hb.un (show isk K9 L9 b 72 6 by rw [z]; exact i_30)) (by decide)) (fun z => ⟨z, ((hx9 b z).2).symm.trans hb.2⟩))⟩
    have hq0e1_15 : e1_15 ∉ L0 := fun z => hq9 (hX0 _ z).1
    have hM_33 : M_29 oa = (b0_7 y0 y1 y2 (nI y3) y4) := (hfr9 _ i_24.1).trans hM_22
    have hM_34 : M_29 y0 = .inl (cy 21, 120, .inr (.inr (.inr (.inr (f1))))) := (hfr9 _ i_25.1).trans hM_23
    have hF : fr K0 L0 [0, 8, 21, 72] M0 M_29 := hF.adX hX0 hfr9
    have hOT : OTH K0 L0 oa M0 M_29 := hOT.ad hX0 hfr9
    have hX0 := hX0.tr hx9
    have i_35 := i_24.ext hx9
    have i_36 := i_25.ext hx9
    have i_37 := i_26.ext hx9
    have i_38 := i_27.ext hx9
    have i_39 := i_19.ext hx9
    have hf_40 := fun j q => (hf_28 j q).ext hx9
    obtain ⟨K, L, hK9, hL9⟩ : ∃ (K : Kp) (L : List Nat), K = K9 ∧ L = L9 := ⟨_, _, rfl, rfl⟩
    subst hK9
    subst hL9
    have hP : va_P D vwCl ([(q_8, (b8_11 e0_14 e1_15 0 0 0 0))] ++ va_pl L M_29) H_10 := hP
    have hD : va_D A ([(q_8, (b8_11 e0_14 e1_15 0 0 0 0))] ++ va_pl L M_29) := hD
    have hP : va_P D vwCl (([] ++ [(q_8, (b8_11 e0_14 e1_15 0 0 0 0))]) ++ va_pl L M_29) H_10 := hP.part (cx := [] ++ [(q_8, (b8_11 e0_14 e1_15 0 0 0 0))]) [0] rfl
    have hD : va_D A (([] ++ [(q_8, (b8_11 e0_14 e1_15 0 0 0 0))]) ++ va_pl L M_29) := hD.part (cx := [] ++ [(q_8, (b8_11 e0_14 e1_15 0 0 0 0))]) [0] (by decide) rfl
    obtain ⟨K9, L9, M_41, hx9, i_42, hW, hP, hD, hM_43, hfr9, hq9, hm9⟩ := adoptE2 8 0 hP hD hW (fun K' L' x i => (⟨e0_14, e1_15, 0, 0, 0, 0, rfl, i_39.ext x, i_30.ext x⟩ : gd_8 K' L' _))
    have hNW : NW2 K0 L0 K9 L9 := hNW.tr ⟨(fun b hb => (hm9 b hb.1).elim (fun z => absurd (hb.un (show isk K9 L9 b 8 0 by rw [z]; exact i_42)) (by decide)) (fun z => ⟨z, ((hx9 b z).2).symm.trans hb.2⟩)), (fun b hb => (hm9 b hb.1).elim (fun z => absurd (hb.un (show isk K9 L9 b 8 0 by rw [z]; exact i_42)) (by decide)) (fun z => ⟨z, ((hx9 b z).2).symm.trans hb.2⟩))⟩
    have hq0q_8 : q_8 ∉ L0 := fun z => hq9 (hX0 _ z).1
    have hM_44 : M_41 oa = (b0_7 y0 y1 y2 (nI y3) y4) := (hfr9 _ i_35.1).trans hM_33
    have hM_45 : M_41 y0 = .inl (cy 21, 120, .inr (.inr (.inr (.inr (f1))))) := (hfr9 _ i_36.1).trans hM_34
    have hF : fr K0 L0 [0, 8, 21, 72] M0 M_41 := hF.adX hX0 hfr9
    have hOT : OTH K0 L0 oa M0 M_41 := hOT.ad hX0 hfr9
    have hX0 := hX0.tr hx9
    have i_46 := i_35.ext hx9
    have i_47 := i_36.ext hx9
    have i_48 := i_37.ext hx9
    have i_49 := i_38.ext hx9
    have i_50 := i_39.ext hx9
    have i_51 := i_30.ext hx9
    have hf_52 := fun j q => (hf_40 j q).ext hx9
    obtain ⟨K, L, hK9, hL9⟩ : ∃ (K : Kp) (L : List Nat), K = K9 ∧ L = L9 := ⟨_, _, rfl, rfl⟩
    subst hK9
    subst hL9
    have hP : va_P D vwCl ([] ++ va_pl L M_41) H_10 := hP
    have hD : va_D A ([] ++ va_pl L M_41) := hD
    obtain ⟨v54_0, v54_1, v54_2, v54_3, v54_4, v54_5, hM54, h54_0, h54_1⟩ := hW.open_8 i_42
    refine pg_astq (r := (RX8, TX8, 6)) hx hb hK hP hD hS i_47.1 7 8 hM_45 rfl i_42.1 hM54 rfl (inbN y3 120 (by omega) (by omega)) dX0_append_41 (fun H_53 locs hP hD hS => ?_)
    obtain ⟨M_55, eM_55⟩ : ∃ M1 : Hp, M1 = va_up M_41 y0 (.inl (cy 21, 120, .inr (.inr (.inr (.inr (va_up f1 ((nI y3) : Int32).toNatClampNeg (some q_8))))))) := ⟨_, rfl⟩
    have hP : va_P D vwCl ([] ++ va_pl L M_55) H_53 := by rw [eM_55]; exact hP
    have hD : va_D A ([] ++ va_pl L M_55) := by rw [eM_55]; exact hD
    have hW : WOK cy K L M_55 := by rw [eM_55]; exact hW.up_21 i_47 ⟨_, rfl, (upN hf_52 i_42)⟩
    have hF : fr K0 L0 [0, 8, 21, 72] M0 M_55 := by rw [eM_55]; exact hF.upX hX0 i_47 (by decide)
    have hOT : OTH K0 L0 oa M0 M_55 := by rw [eM_55]; exact hOT.upX hX0 i_47 (by decide)
    have hM_56 : M_55 y0 = .inl (cy 21, 120, .inr (.inr (.inr (.inr (va_up f1 ((nI y3) : Int32).toNatClampNeg (some q_8)))))) := by rw [eM_55]; exact va_up_self _ _ _
    have hM_57 : M_55 oa = (b0_7 y0 y1 y2 (nI y3) y4) := by rw [eM_55, va_up_ne _ _ (i_46.neT i_47 (by decide))]; exact hM_44
    have hM_58 : M_55 q_8 = (b8_11 v54_0 v54_1 v54_2 v54_3 v54_4 v54_5) := by rw [eM_55, va_up_ne _ _ (i_42.neT i_47 (by decide))]; exact hM54
    have hf_60 : ∀ j, j < 120 → iskN K L ((va_up f1 ((nI y3) : Int32).toNatClampNeg (some q_8)) j) 8 0 := (upN hf_52 i_42)
    obtain ⟨f_59, ef_59⟩ : ∃ f : Nat → Option Nat, f = va_up f1 ((nI y3) : Int32).toNatClampNeg (some q_8) := ⟨_, rfl⟩
    rw [← ef_59] at hM_56 hf_60
    have hk_61 : f_59 ((nI y3) : Int32).toNatClampNeg = some q_8 := by rw [ef_59]; exact va_up_self _ _ _
    clear ef_59
    refine lv_aload_n hx hb dX0_append_42 rfl (lv_at hl 0 rfl) ?_
    refine pg_get (D := D) (ci := 0) (v := .ref y0) (C := RX0) (T := TX0) (N := 5) hx hb hg inG0 hown hK hP i_46.1 hM_57 rfl 0 (by decide) (hg _ wd_200) (fun _ h9 => h9) rfl dX0_append_43 ?_
    refine lv_aload_n hx hb dX0_append_46 rfl (lv_at hl 0 rfl) ?_
    refine pg_get (D := D) (ci := 0) (v := .int (nI y3)) (C := RX0) (T := TX0) (N := 5) hx hb hg inG0 hown hK hP i_46.1 hM_57 rfl 3 (by decide) (hg _ wd_199) (fun _ h9 => h9) rfl dX0_append_47 ?_
    have hi_62 : vp_in (nI y3) 120 := (inbN y3 120 (by omega) (by omega))
    refine pg_aldq hx hb hK hP i_47.1 7 hM_56 rfl hi_62 dX0_append_50 ?_
    rw [show f_59 ((nI y3) : Int32).toNatClampNeg = some q_8 from hk_61]
    refine lv_astore_n (lv' := [(2, .ref q_8), (0, .ref oa), (1, .int k1)]) hx hb dX0_append_51 rfl hl (by decide) rfl (fun ls hl => ?_)
    refine lv_aload_n hx hb dX0_append_52 rfl (lv_at hl 1 rfl) ?_
    refine lv_dup hx hb dX0_append_53 rfl ?_
    refine pg_get (D := D) (ci := 0) (v := .int (nI y3)) (C := RX0) (T := TX0) (N := 5) hx hb hg inG0 hown hK hP i_46.1 hM_57 rfl 3 (by decide) (hg _ wd_199) (fun _ h9 => h9) rfl dX0_append_54 ?_
    refine lv_iconst (v := 1) hx hb dX0_append_57 (by decide) ?_
    refine lv_iadd hx hb dX0_append_58 ?_
    refine lv_topi (fun f_63 ef_63 => ?_)
    obtain rfl : f_63 = (nI (y3 + 1)) := ef_63.trans (nI_add y3 1)
    refine pg_put (D := D) (ci := 0) (v := .int (nI (y3 + 1))) (ty := .int) (C := RX0) (T := TX0) (N := 5) hx hb hg inG0 tyX0 tyX0_ok nmX0 hown hK hP hD hS i_46.1 hM_57 rfl 3 (by decide) (hg _ wd_199) (fun _ h9 => h9) rfl (by decide +kernel) rfl rfl (Nat.le_of_ble_eq_true rfl) dX0_append_59 (fun H_64 locs hP hD hS => ?_)
    obtain ⟨M_65, eM_65⟩ : ∃ M1 : Hp, M1 = va_up M_55 oa ((b0_7 y0 y1 y2 (nI (y3 + 1)) y4)) := ⟨_, rfl⟩
    have hP : va_P D vwCl ([] ++ va_pl L M_65) H_64 := by rw [eM_65]; exact hP
    have hD : va_D A ([] ++ va_pl L M_65) := by rw [eM_65]; exact hD
    have hW : WOK cy K L M_65 := by rw [eM_65]; exact hW.up_0 i_46 ⟨y0, y1, y2, (y3 + 1), y4, rfl, i_47, i_48, i_49, (by omega)⟩
    have hF : fr K0 L0 [0, 8, 21, 72] M0 M_65 := by rw [eM_65]; exact hF.upX hX0 i_46 (by decide)
    have hOT : OTH K0 L0 oa M0 M_65 := by rw [eM_65]; exact hOT.upO
    have hM_66 : M_65 oa = (b0_7 y0 y1 y2 (nI (y3 + 1)) y4) := by rw [eM_65]; exact va_up_self _ _ _
    have hM_67 : M_65 y0 = .inl (cy 21, 120, .inr (.inr (.inr (.inr (f_59))))) := by rw [eM_65, va_up_ne _ _ (i_47.neT i_46 (by decide))]; exact hM_56
    have hM_68 : M_65 q_8 = (b8_11 v54_0 v54_1 v54_2 v54_3 v54_4 v54_5) := by rw [eM_65, va_up_ne _ _ (i_42.neT i_46 (by decide))]; exact hM_58
    have hb_69 : (y3 + 1) ≤ 120 := by omega
    refine lv_aload_n hx hb dX0_append_62 rfl (lv_at hl 0 rfl) ?_
    refine lv_iload_n hx hb dX0_append_63 rfl (lv_at hl 2 rfl) ?_
    have hPc : va_P D vwCl ([] ++ va_pl L M_65) H_64 := hP
    have hDc : va_D A ([] ++ va_pl L M_65) := hD
    have hFc : ∀ q, va_A ([] ++ va_pl L M_65) H_64.size q → A q := pg_free hDc hS hA
    refine va_callv (va_runV (As := [.int k1]) (rest := []) ⟨hx, hb, hml, hown, hg⟩ (s_X8_begin l D cy K L M_65 H_64.size q_8 k1  hW i_42) (cwV 1 hg (gV wd_624 wd_625 wd_626 wd_193 wd_627) rfl rfl rfl (by decide +kernel) ⟨(Nat.le_trans (Nat.le_of_ble_eq_true rfl) hRf), (Nat.le_trans (Nat.le_of_ble_eq_true rfl) hRl)⟩) ⟨PG.blind, pg_recv hK hP i_42.1 hM_68 rfl, fun U hU hW => ⟨rfl, PG.at hPc hK hDc hN hU hW⟩⟩ rfl rfl hl.1 rfl (lv_room (Nat.le_of_ble_eq_true rfl)) dX0_append_64 ⟨(Nat.le_trans (Nat.le_of_ble_eq_true rfl) hRc), (Nat.le_trans (Nat.le_of_ble_eq_true rfl) hRs)⟩) hS (fun q _ h => hFc q h) hFc (fun M_72 t H_70 locs ht hvm hw hB hz1 hk1 hS => ?_)
    obtain ⟨hW, hF2, hp_73⟩ := hw
    obtain ⟨hP1, hD1⟩ := hB
    rw [ht] at hP1
    have hP : va_P D vwCl ([] ++ va_pl L M_72) H_70 := hP1
    have hD : va_D A ([] ++ va_pl L M_72) := hD1.mono hFc
    have hM_74 : M_72 oa = (b0_7 y0 y1 y2 (nI (y3 + 1)) y4) := (hF2.at i_46 (by decide)).trans hM_66
    have hM_75 : M_72 y0 = .inl (cy 21, 120, .inr (.inr (.inr (.inr (f_59))))) := (hF2.at i_47 (by decide)).trans hM_67
    have hOT : OTH K0 L0 oa M0 M_72 := hOT.tr hX0 hF2 (by decide)
    have hF : fr K0 L0 [0, 8, 21, 72] M0 M_72 := hF.trX hX0 hF2 (by decide)
    refine lv_aload_n hx hb dX0_append_67 rfl (lv_at hl 0 rfl) ?_
    rw [hQ]
    exact W.aret (v := .ref q_8) hx hb hr (Or.inl ⟨_, rfl⟩) (Or.inr ⟨_, rfl⟩) (fun t ht hW9 => ⟨⟨(some q_8), (K, L, M_72), rfl, ⟨hX0, hW, hF, hM_74, ⟨iskN.some i_42, (by intro z9; cases z9)⟩⟩, ⟨hNW, hOT, by rw [ht]; exact hP, hD⟩⟩, hS.F ht⟩) hS.2.2 dX0_append_68
  · have hb_7 := hq_6 bq_4 rfl
    refine lv_ifnonnull (tgt := 42) hx hb dX0_append_23 (by decide) ?_
    refine lv_aload_n hx hb dX0_append_42 rfl (lv_at hl 0 rfl) ?_
    refine pg_get (D := D) (ci := 0) (v := .ref y0) (C := RX0) (T := TX0) (N := 5) hx hb hg inG0 hown hK hP ia.1 hMy rfl 0 (by decide) (hg _ wd_200) (fun _ h9 => h9) rfl dX0_append_43 ?_
    refine lv_aload_n hx hb dX0_append_46 rfl (lv_at hl 0 rfl) ?_
    refine pg_get (D := D) (ci := 0) (v := .int (nI y3)) (C := RX0) (T := TX0) (N := 5) hx hb hg inG0 hown hK hP ia.1 hMy rfl 3 (by decide) (hg _ wd_199) (fun _ h9 => h9) rfl dX0_append_47 ?_
    have hi_76 : vp_in (nI y3) 120 := (inbN y3 120 (by omega) (by omega))
    refine pg_aldq hx hb hK hP hy0.1 7 hM1 rfl hi_76 dX0_append_50 ?_
    rw [show f1 ((nI y3) : Int32).toNatClampNeg = some bq_4 from (Eq.symm ho_5)]
    refine lv_astore_n (lv' := [(2, .ref bq_4), (0, .ref oa), (1, .int k1)]) hx hb dX0_append_51 rfl hl (by decide) rfl (fun ls hl => ?_)
    refine lv_aload_n hx hb dX0_append_52 rfl (lv_at hl 1 rfl) ?_
    refine lv_dup hx hb dX0_append_53 rfl ?_
    refine pg_get (D := D) (ci := 0) (v := .int (nI y3)) (C := RX0) (T := TX0) (N := 5) hx hb hg inG0 hown hK hP ia.1 hMy rfl 3 (by decide) (hg _ wd_199) (fun _ h9 => h9) rfl dX0_append_54 ?_
    refine lv_iconst (v := 1) hx hb dX0_append_57 (by decide) ?_
    refine lv_iadd hx hb dX0_append_58 ?_
    refine lv_topi (fun f_77 ef_77 => ?_)
    obtain rfl : f_77 = (nI (y3 + 1)) := ef_77.trans (nI_add y3 1)
    refine pg_put (D := D) (ci := 0) (v := .int (nI (y3 + 1))) (ty := .int) (C := RX0) (T := TX0) (N := 5) hx hb hg inG0 tyX0 tyX0_ok nmX0 hown hK hP hD hS ia.1 hMy rfl 3 (by decide) (hg _ wd_199) (fun _ h9 => h9) rfl (by decide +kernel) rfl rfl (Nat.le_of_ble_eq_true rfl) dX0_append_59 (fun H_78 locs hP hD hS => ?_)
    obtain ⟨M_79, eM_79⟩ : ∃ M1 : Hp, M1 = va_up M oa ((b0_7 y0 y1 y2 (nI (y3 + 1)) y4)) := ⟨_, rfl⟩
    have hP : va_P D vwCl ([] ++ va_pl L M_79) H_78 := by rw [eM_79]; exact hP
    have hD : va_D A ([] ++ va_pl L M_79) := by rw [eM_79]; exact hD
    have hW : WOK cy K L M_79 := by rw [eM_79]; exact hW.up_0 ia ⟨y0, y1, y2, (y3 + 1), y4, rfl, hy0, hy1, hy2, (by omega)⟩
    have hF : fr K0 L0 [0, 8, 21, 72] M0 M_79 := by rw [eM_79]; exact hF.upX hX0 ia (by decide)
    have hOT : OTH K0 L0 oa M0 M_79 := by rw [eM_79]; exact hOT.upO
    have hM_80 : M_79 oa = (b0_7 y0 y1 y2 (nI (y3 + 1)) y4) := by rw [eM_79]; exact va_up_self _ _ _
    have hM_81 : M_79 y0 = .inl (cy 21, 120, .inr (.inr (.inr (.inr (f1))))) := by rw [eM_79, va_up_ne _ _ (hy0.neT ia (by decide))]; exact hM1
    have hb_82 : (y3 + 1) ≤ 120 := by omega
    refine lv_aload_n hx hb dX0_append_62 rfl (lv_at hl 0 rfl) ?_
    refine lv_iload_n hx hb dX0_append_63 rfl (lv_at hl 2 rfl) ?_
    obtain ⟨v83_0, v83_1, v83_2, v83_3, v83_4, v83_5, hM83, h83_0, h83_1⟩ := hW.open_8 hb_7
    have hPc : va_P D vwCl ([] ++ va_pl L M_79) H_78 := hP
    have hDc : va_D A ([] ++ va_pl L M_79) := hD
    have hFc : ∀ q, va_A ([] ++ va_pl L M_79) H_78.size q → A q := pg_free hDc hS hA
    refine va_callv (va_runV (As := [.int k1]) (rest := []) ⟨hx, hb, hml, hown, hg⟩ (s_X8_begin l D cy K L M_79 H_78.size bq_4 k1  hW hb_7) (cwV 1 hg (gV wd_624 wd_625 wd_626 wd_193 wd_627) rfl rfl rfl (by decide +kernel) ⟨(Nat.le_trans (Nat.le_of_ble_eq_true rfl) hRf), (Nat.le_trans (Nat.le_of_ble_eq_true rfl) hRl)⟩) ⟨PG.blind, pg_recv hK hP hb_7.1 hM83 rfl, fun U hU hW => ⟨rfl, PG.at hPc hK hDc hN hU hW⟩⟩ rfl rfl hl.1 rfl (lv_room (Nat.le_of_ble_eq_true rfl)) dX0_append_64 ⟨(Nat.le_trans (Nat.le_of_ble_eq_true rfl) hRc), (Nat.le_trans (Nat.le_of_ble_eq_true rfl) hRs)⟩) hS (fun q _ h => hFc q h) hFc (fun M_86 t H_84 locs ht hvm hw hB hz1 hk1 hS => ?_)
    obtain ⟨hW, hF2, hp_87⟩ := hw
    obtain ⟨hP1, hD1⟩ := hB
    rw [ht] at hP1
    have hP : va_P D vwCl ([] ++ va_pl L M_86) H_84 := hP1
    have hD : va_D A ([] ++ va_pl L M_86) := hD1.mono hFc
    have hM_88 : M_86 oa = (b0_7 y0 y1 y2 (nI (y3 + 1)) y4) := (hF2.at ia (by decide)).trans hM_80
    have hM_89 : M_86 y0 = .inl (cy 21, 120, .inr (.inr (.inr (.inr (f1))))) := (hF2.at hy0 (by decide)).trans hM_81
    have hOT : OTH K0 L0 oa M0 M_86 := hOT.tr hX0 hF2 (by decide)
    have hF : fr K0 L0 [0, 8, 21, 72] M0 M_86 := hF.trX hX0 hF2 (by decide)
    refine lv_aload_n hx hb dX0_append_67 rfl (lv_at hl 0 rfl) ?_
    refine W.widen (k := 3) (n := 18) (Nat.le_of_ble_eq_true rfl) (Nat.le_of_ble_eq_true rfl) ?_
    rw [hQ]
    exact W.aret (v := .ref bq_4) hx hb hr (Or.inl ⟨_, rfl⟩) (Or.inr ⟨_, rfl⟩) (fun t ht hW9 => ⟨⟨(some bq_4), (K, L, M_86), rfl, ⟨hX0, hW, hF, hM_88, ⟨iskN.some hb_7, (by intro z9; cases z9)⟩⟩, ⟨hNW, hOT, by rw [ht]; exact hP, hD⟩⟩, hS.F ht⟩) hS.2.2 dX0_append_68
set_option maxHeartbeats 4000000 in
set_option maxRecDepth 100000 in
theorem e_partDays (l : Launch) (D : va_G) (cy : Nat → ClassId) (K0 : Kp) (L0 : List Nat) (M0 : Hp) (sz : Nat) (oa : Nat) (k1 : Nat) (k2 : Int32) (Bo : Nat → Nat × Nat) (Mb : Hp) (Xv : Nat → Int) (Yv : Nat → Nat → Int32) (y0 : Nat) (y1 : Nat) (y2 : Nat) (y3 : Nat) (y4 : Int64) (hW : WOK cy K0 L0 M0) (ia : isk K0 L0 oa 0 0) (ik1 : isk K0 L0 k1 2 0) (hV : VC Bo K0 L0 Mb M0 k1 Xv Yv) (hn28 : (∀ i : Nat, (i : Int) < Xv 10 → Yv 28 i = 1)) (hn33 : (∀ i : Nat, (i : Int) < Xv 11 → Yv 33 i = 1)) (hdy : (-1 ≤ Xv 1 ∧ Xv 1 + 1 ≤ k2.toInt ∧ k2.toInt ≤ Xv 1 + 100 ∧ k2.toInt < 1000)) (hy30 : y3 = 0) (hMy : M0 oa = (b0_7 y0 y1 y2 (nI y3) y4)) (hy0 : isk K0 L0 y0 21 120) (hy1 : isk K0 L0 y1 66 100) (hy2 : isk K0 L0 y2 7 0) (hy3 : y3 ≤ 120) : Met l yX0_partDays (wsM yX0_partDays cX0_partDays 5 none) ({ frames := 3, cells := 360, slots := 2160, locals := 67 }) (va_Pc [.ref oa, .ref k1, .int k2] (PG D cy [] L0 M0 sz)) (va_Qv (fun (u : Kp × List Nat × Hp) => ext K0 L0 u.1 u.2.1 ∧ WOK cy u.1 u.2.1 u.2.2 ∧ fr K0 L0 [0, 8, 21, 72] M0 u.2.2 ∧ u.2.2 oa = (b0_7 y0 y1 y2 (nI (nst (prt Xv Yv) (Xv 1 + 1) (k2.toInt - Xv 1).toNat)) y4) ∧ (True)) (fun u t => NW2 K0 L0 u.1 u.2.1 ∧ OTH K0 L0 oa M0 u.2.2 ∧ PQ D [] u.2.1 u.2.2 (va_A ([] ++ va_pl L0 M0) sz) t) (va_A ([] ++ va_pl L0 M0) sz)) 360 2160 (va_A ([] ++ va_pl L0 M0) sz) := by
  refine Met.ofW (cc := cX0_partDays) (maxL := 5) (ret := none) (by decide) rfl ?_
  intro p e s m args below meth c s₁ B hml hv
  obtain ⟨rfl, hsz, hP, hK, hD0, hN⟩ := hv
  have hx := B.exec
  have hb := B.bytes
  have hr := B.returns
  have hts := atoms_spec (ws := (wsM yX0_partDays cX0_partDays 5 none)) B.pre
  have hg : ∀ w ∈ lw_good, w.before _ s = true := fun w h => hts w (List.mem_cons_of_mem _ h)
  have hown : s.vm.findClass RX0 = some m.cls := findClass_of_methodNamed B.named
  have hlocks := B.notSynchronized
  subst hsz
  have hD := hD0.self (sz := s.heap.size)
  generalize hAe : va_A ([] ++ va_pl L0 M0) s.heap.size = A at hD ⊢
  have hA : ∀ q : Nat, s.heap.size ≤ q → A q := fun q h => by rw [← hAe]; exact Or.inr h
  have hS : va_S A s.heap s.heap [] := va_S.rf
  have hl := lv_entry ([.ref oa, .ref k1, .int k2]) (n := 5) (Nat.le_of_ble_eq_true rfl)
  rw [lg_entry_eq]
  generalize (lg_sl ([.ref oa, .ref k1, .int k2]) ++ List.replicate (5 - (lg_sl ([.ref oa, .ref k1, .int k2])).length) Slot.unset).toArray = ls at hl ⊢
  refine W.nameQ (fun Q hQ => ?_)
  refine W.nameR (fun R hR => ?_)
  have hRf : 3 ≤ R.frames := by rw [hR]; exact Nat.le_of_ble_eq_true rfl
  have hRl : 67 ≤ R.locals := by rw [hR]; exact Nat.le_of_ble_eq_true rfl
  have hRc : 360 ≤ R.cells := by rw [hR]; exact Nat.le_of_ble_eq_true rfl
  have hRs : 2160 ≤ R.slots := by rw [hR]; exact Nat.le_of_ble_eq_true rfl
  have hW00 := hW
  have ia00 := ia
  have ik100 := ik1
  have hV00 := hV
  have hMy00 := hMy
  have hy000 := hy0
  have hy100 := hy1
  have hy200 := hy2
  obtain ⟨K, L, M, hX0, hF, hW, hP, hD, ia, ik1, hV, hMy, hy0, hy1, hy2, hMe, hKe, hLe⟩ : ∃ (K : Kp) (L : List Nat) (M : Hp), ext K0 L0 K L ∧ fr K0 L0 [0, 8, 21, 72] M0 M ∧ WOK cy K L M ∧ va_P D vwCl ([] ++ va_pl L M) s.heap ∧ va_D A ([] ++ va_pl L M) ∧ isk K L oa 0 0 ∧ isk K L k1 2 0 ∧ VC Bo K L Mb M k1 Xv Yv ∧ M oa = (b0_7 y0 y1 y2 (nI y3) y4) ∧ isk K L y0 21 120 ∧ isk K L y1 66 100 ∧ isk K L y2 7 0 ∧ M = M0 ∧ K = K0 ∧ L = L0 := ⟨K0, L0, M0, ext.rf, fr.rf, hW, hP, hD, ia, ik1, hV, hMy, hy0, hy1, hy2, rfl, rfl, rfl⟩
  have hl : lv_has ls 5 [(0, .ref oa), (1, .ref k1), (2, .int k2)] := hl
  have hNW : NW2 K0 L0 K L := by rw [hKe, hLe]; exact NW2.rf
  have hOT : OTH K0 L0 oa M0 M := by rw [hMe]; exact OTH.rf
  refine lv_null hx hb dX0_partDays_0 ?_
  refine lv_astore_nN (lv' := [(3, .null), (0, .ref oa), (1, .ref k1), (2, .int k2)]) hx hb dX0_partDays_1 rfl hl (by decide) rfl (fun ls hl => ?_)
  refine lv_iconst (v := 0) hx hb dX0_partDays_2 (by decide) ?_
  refine lv_aload_n hx hb dX0_partDays_3 rfl (lv_at hl 2 rfl) ?_
  obtain ⟨v1_0, v1_1, v1_2, v1_3, v1_4, v1_5, v1_6, v1_7, v1_8, v1_9, v1_10, v1_11, v1_12, v1_13, v1_14, v1_15, v1_16, v1_17, v1_18, v1_19, hM1, h1_3, h1_4, h1_5, h1_6, h1_7, h1_8, h1_9, h1_10, h1_11, h1_12, h1_13, h1_16, h1_17, h1_18, h1_19⟩ := hW.open_2 ik1
  refine pg_get (D := D) (ci := 2) (v := .int v1_2) (C := RX2) (T := TX2) (N := 20) hx hb hg inG2 hown hK hP ik1.1 hM1 rfl 2 (by decide) (hg _ wd_628) (fun _ h9 => h9) rfl dX0_partDays_4 ?_
  refine lv_iconst (v := 1) hx hb dX0_partDays_7 (by decide) ?_
  refine lv_iadd hx hb dX0_partDays_8 ?_
  refine lv_topi (fun f_2 ef_2 => ?_)
  refine va_mmax hx hb (by rw [hml]; exact hl.1.symm) hown (hg _ wd_629) (hg _ wd_100) (hg _ wd_12) (hg _ wd_101) (Nat.le_trans (Nat.le_of_ble_eq_true rfl) hRf) (Nat.le_trans (Nat.le_of_ble_eq_true rfl) hRl) (Nat.le_trans (Nat.le_of_ble_eq_true rfl) hRc) (Nat.le_trans (Nat.le_of_ble_eq_true rfl) hRs) dX0_partDays_9 ?_
  refine lv_topi (fun f_3 ef_3 => ?_)
  obtain ⟨j_4, hj_5, hxj_4, rfl⟩ := max0x ef_3
  have hto : (v1_2 : Int32).toInt = Xv 1 := by have h9 : (cV 2 M k1 2).toInt = Xv 1 := congrFun hV.2.1 1; rw [cV_of (j := 2) hM1 rfl] at h9; exact h9
  have hI_6 : (f_2 : Int32).toInt = (v1_2 : Int32).toInt + (1 : Int) := iaddI rfl rfl ef_2 (by omega) (by omega)
  have hj0 : j_4 = (Xv 1 + 1).toNat := by omega
  refine lv_istore (lv' := [(4, .int (nI j_4)), (3, .null), (0, .ref oa), (1, .ref k1), (2, .int k2)]) hx hb dX0_partDays_12 hl (by decide) rfl (fun ls hl => ?_)
  have key_7 : ∀ (fu_9 : Nat) (v3w10 : Option Nat) (v4w10 : Nat) (gw10 : Nat) (K : Kp) (L : List Nat) (M_12 : Hp) (H_13 : Heap) (locs : List Loc) (ls : Array Slot), 1000 - v4w10 < fu_9 → iskN K L v3w10 8 0 → v4w10 < 2147483648 → (Xv 1 + 1).toNat ≤ v4w10 → (v4w10 : Int) ≤ k2.toInt + 1 → gw10 = nst (prt Xv Yv) (Xv 1 + 1) (v4w10 - (Xv 1 + 1).toNat) → (v3w10 = none ↔ v4w10 = (Xv 1 + 1).toNat) → M_12 oa = (b0_7 y0 y1 y2 (nI gw10) y4) → isk K L oa 0 0 → isk K L k1 2 0 → isk K L y0 21 120 → isk K L y1 66 100 → isk K L y2 7 0 → gw10 ≤ 120 → ext K0 L0 K L → NW2 K0 L0 K L → WOK cy K L M_12 → fr K0 L0 [0, 8, 21, 72] M0 M_12 → OTH K0 L0 oa M0 M_12 → va_P D vwCl ([] ++ va_pl L M_12) H_13 → va_D A ([] ++ va_pl L M_12) → va_S A s.heap H_13 locs → lv_has ls 5 [(4, .int (nI v4w10)), (3, (va_rf v3w10)), (0, .ref oa), (1, .ref k1), (2, .int k2)] → W p l e R s m ([.ref oa, .ref k1, .int k2] : List Value).toArray below meth c H_13 locs (3 * gw10) (18 * gw10) Q (F0 m 14 ls []) := by
    intro fu_9
    induction fu_9 with
    | zero => intro v3w10 v4w10 gw10 K L M_12 H_13 locs ls h; exact absurd h (Nat.not_lt_zero _)
    | succ fu_9 ih_8 =>
      intro v3w10 v4w10 gw10 K L M_12 H_13 locs ls hfu hq_11 hx_14 hx_15 hx_16 hx_17 hx_18 hM_19 i_20 i_21 i_22 i_23 i_24 hb_25 hX0 hNW hW hF hOT hP hD hS hl
      rcases v3w10 with _ | b_26
      · have hz := rfl (a := 0)
        refine lv_iload hx hb dX0_partDays_14 (lv_at hl 0 rfl) ?_
        refine lv_iload_n hx hb dX0_partDays_16 rfl (lv_at hl 4 rfl) ?_
        refine lv_icmp_gt (tgt := 91) hx hb dX0_partDays_17 (by decide) (fun c_27 => ?_) (fun c_27 => ?_)
        · have hz := rfl (a := 0)
          have hI_28 : (k2 : Int32).toInt < ((v4w10 : Nat) : Int) := iltI rfl (nI_toInt (by omega)) c_27
          have hge : gw10 = (nst (prt Xv Yv) (Xv 1 + 1) (k2.toInt - Xv 1).toNat) := hx_17.trans (congrArg _ (by omega))
          subst hge
          refine W.widen (k := 360) (n := 2160) (by omega) (by omega) ?_
          rw [hQ]
          exact W.vret hx hb hr (fun t ht hW9 => ⟨⟨(K, L, M_12), rfl, ⟨hX0, hW, hF, hM_19, trivial⟩, ⟨hNW, hOT, by rw [ht]; exact hP, hD⟩⟩, hS.F ht⟩) hS.2.2 dX0_partDays_91
        · have hz := rfl (a := 0)
          refine lv_iload hx hb dX0_partDays_20 (lv_at hl 0 rfl) ?_
          refine lv_sipush (v := 999) hx hb dX0_partDays_22 (by decide) ?_
          refine lv_icmp_gt (tgt := 91) hx hb dX0_partDays_25 (by decide) (fun c_29 => ?_) (fun c_29 => ?_)
          · have hz := rfl (a := 0)
            have n_30 : 999 < v4w10 := (iLT (a := 999) (b := v4w10) (by omega) (by omega)).mp c_29
            have hI_31 : ((v4w10 : Nat) : Int) ≤ (k2 : Int32).toInt := inltI rfl (nI_toInt (by omega)) c_27
            have hI_32 : (999 : Int) < ((v4w10 : Nat) : Int) := iltI rfl (nI_toInt (by omega)) c_29
            have hge : gw10 = (nst (prt Xv Yv) (Xv 1 + 1) (k2.toInt - Xv 1).toNat) := hx_17.trans (congrArg _ (by omega))
            subst hge
            refine W.widen (k := 360) (n := 2160) (by omega) (by omega) ?_
            rw [hQ]
            exact W.vret hx hb hr (fun t ht hW9 => ⟨⟨(K, L, M_12), rfl, ⟨hX0, hW, hF, hM_19, trivial⟩, ⟨hNW, hOT, by rw [ht]; exact hP, hD⟩⟩, hS.F ht⟩) hS.2.2 dX0_partDays_91
          · have hz := rfl (a := 0)
            have n_33 : ¬ (999 < v4w10) := fun q => c_29 ((iLT (a := 999) (b := v4w10) (by omega) (by omega)).mpr q)
            refine lv_aload_nN hx hb dX0_partDays_28 rfl (lv_at hl 1 rfl) ?_
            refine lv_ifnullN (tgt := 41) hx hb dX0_partDays_29 (by decide) ?_
            refine lv_aload_n hx hb dX0_partDays_41 rfl (lv_at hl 2 rfl) ?_
            refine lv_iload hx hb dX0_partDays_42 (lv_at hl 0 rfl) ?_
            have hI_34 : ((v4w10 : Nat) : Int) ≤ (k2 : Int32).toInt := inltI rfl (nI_toInt (by omega)) c_27
            have hI_35 : ((v4w10 : Nat) : Int) ≤ (999 : Int) := inltI rfl (nI_toInt (by omega)) c_29
            have hnle := nst_le (P := prt Xv Yv) (a := Xv 1 + 1) (n := v4w10 - (Xv 1 + 1).toNat)
            have hroom9 : gw10 < 120 := by omega
            have hPc : va_P D vwCl ([] ++ va_pl L M_12) H_13 := hP
            have hDc : va_D A ([] ++ va_pl L M_12) := hD
            have hFc : ∀ q, va_A ([] ++ va_pl L M_12) H_13.size q → A q := pg_free hDc hS hA
            refine va_callq (va_runV (As := [.int (nI v4w10)]) (rest := []) ⟨hx, hb, hml, hown, hg⟩ (e_appN l D cy K L M_12 H_13.size oa (nI v4w10) y0 y1 y2 gw10 y4 hW i_20 (by omega) hM_19 i_22 i_23 i_24 hb_25) (cwV 1 hg (gV wd_630 wd_631 wd_632 wd_204 wd_633) rfl rfl rfl (by decide +kernel) ⟨(Nat.le_trans (Nat.le_of_ble_eq_true rfl) hRf), (Nat.le_trans (Nat.le_of_ble_eq_true rfl) hRl)⟩) ⟨PG.blind, pg_recv hK hP i_20.1 hM_19 rfl, fun U hU hW => ⟨rfl, PG.at hPc hK hDc hN hU hW⟩⟩ rfl rfl hl.1 rfl (lv_room (Nat.le_of_ble_eq_true rfl)) dX0_partDays_44 ⟨by omega, by omega⟩) hS (fun q _ h => hFc q h) hFc (fun r_37 M_38 t H_36 locs ht hvm hw hB hz1 hk1 hS => ?_)
            have hWb := hW
            obtain ⟨K9, L9, M_38m⟩ := M_38
            dsimp only at hw hB
            obtain ⟨hx9, hW, hF2, hM_40, hp_39⟩ := hw
            obtain ⟨hg_41, hg_42, hP1, hD1⟩ := hB
            rw [ht] at hP1
            have hP : va_P D vwCl ([] ++ va_pl L9 M_38m) H_36 := hP1
            have hD : va_D A ([] ++ va_pl L9 M_38m) := hD1.mono hFc
            have hb_43 : (gw10 + 1) ≤ 120 := by omega
            have hOT : OTH K0 L0 oa M0 M_38m := hOT.trO hX0 hg_42
            have hF : fr K0 L0 [0, 8, 21, 72] M0 M_38m := hF.trX hX0 hF2 (by decide)
            have hX0 := hX0.tr hx9
            have hNW := hNW.tr hg_41
            have i_44 := i_20.ext hx9
            have i_45 := i_21.ext hx9
            have i_46 := i_22.ext hx9
            have i_47 := i_23.ext hx9
            have i_48 := i_24.ext hx9
            obtain ⟨K, L, hK9, hL9⟩ : ∃ (K : Kp) (L : List Nat), K = K9 ∧ L = L9 := ⟨_, _, rfl, rfl⟩
            subst hK9
            subst hL9
            have hz := rfl (a := 0)
            obtain ⟨hp_39, hqx⟩ := hp_39
            rcases r_37 with _ | b_49
            · have hz := rfl (a := 0)
              exact absurd rfl hqx
            · have hb_50 := hp_39 b_49 rfl
              refine lv_astore_n (lv' := [(3, .ref b_49), (4, .int (nI v4w10)), (0, .ref oa), (1, .ref k1), (2, .int k2)]) hx hb dX0_partDays_47 rfl hl (by decide) rfl (fun ls hl => ?_)
              refine lv_aload_n hx hb dX0_partDays_48 rfl (lv_at hl 0 rfl) ?_
              refine lv_ifnull hx hb dX0_partDays_49 ?_
              refine lv_aload_n hx hb dX0_partDays_52 rfl (lv_at hl 0 rfl) ?_
              refine lv_dup hx hb dX0_partDays_53 rfl ?_
              obtain ⟨v51_0, v51_1, v51_2, v51_3, v51_4, v51_5, hM51, h51_0, h51_1⟩ := hW.open_8 hb_50
              refine pg_get (D := D) (ci := 8) (v := .int v51_3) (C := RX8) (T := TX8) (N := 6) hx hb hg inG8 hown hK hP hb_50.1 hM51 rfl 3 (by decide) (hg _ wd_220) (fun _ h9 => h9) rfl dX0_partDays_54 ?_
              refine lv_iconst (v := 1) hx hb dX0_partDays_57 (by decide) ?_
              refine lv_iadd hx hb dX0_partDays_58 ?_
              refine lv_topi (fun f_52 ef_52 => ?_)
              refine pg_put (D := D) (ci := 8) (v := .int f_52) (ty := .int) (C := RX8) (T := TX8) (N := 6) hx hb hg inG8 tyX8 tyX8_ok nmX8 hown hK hP hD hS hb_50.1 hM51 rfl 3 (by decide) (hg _ wd_220) (fun _ h9 => h9) rfl (by decide +kernel) rfl rfl (Nat.le_of_ble_eq_true rfl) dX0_partDays_59 (fun H_53 locs hP hD hS => ?_)
              obtain ⟨M_54, eM_54⟩ : ∃ M1 : Hp, M1 = va_up M_38m b_49 ((b8_11 v51_0 v51_1 v51_2 f_52 v51_4 v51_5)) := ⟨_, rfl⟩
              have hP : va_P D vwCl ([] ++ va_pl L M_54) H_53 := by rw [eM_54]; exact hP
              have hD : va_D A ([] ++ va_pl L M_54) := by rw [eM_54]; exact hD
              have hW : WOK cy K L M_54 := by rw [eM_54]; exact hW.up_8 hb_50 ⟨v51_0, v51_1, v51_2, f_52, v51_4, v51_5, rfl, h51_0, h51_1⟩
              have hF : fr K0 L0 [0, 8, 21, 72] M0 M_54 := by rw [eM_54]; exact hF.upX hX0 hb_50 (by decide)
              have hOT : OTH K0 L0 oa M0 M_54 := by rw [eM_54]; exact hOT.upX hX0 hb_50 (by decide)
              have hM_55 : M_54 b_49 = (b8_11 v51_0 v51_1 v51_2 f_52 v51_4 v51_5) := by rw [eM_54]; exact va_up_self _ _ _
              have hM_56 : M_54 oa = (b0_7 y0 y1 y2 (nI (gw10 + 1)) y4) := by rw [eM_54, va_up_ne _ _ (i_44.neT hb_50 (by decide))]; exact hM_40
              refine lv_aload_n hx hb dX0_partDays_62 rfl (lv_at hl 0 rfl) ?_
              refine lv_dup hx hb dX0_partDays_63 rfl ?_
              refine pg_get (D := D) (ci := 8) (v := .long v51_4) (C := RX8) (T := TX8) (N := 6) hx hb hg inG8 hown hK hP hb_50.1 hM_55 rfl 4 (by decide) (hg _ wd_255) (fun _ h9 => h9) rfl dX0_partDays_64 ?_
              refine lv_aload_n hx hb dX0_partDays_67 rfl (lv_at hl 3 rfl) ?_
              refine lv_iload hx hb dX0_partDays_68 (lv_at hl 1 rfl) ?_
              obtain ⟨v57_0, v57_1, v57_2, v57_3, v57_4, v57_5, v57_6, v57_7, v57_8, v57_9, v57_10, v57_11, v57_12, v57_13, v57_14, v57_15, v57_16, v57_17, v57_18, v57_19, hM57, h57_3, h57_4, h57_5, h57_6, h57_7, h57_8, h57_9, h57_10, h57_11, h57_12, h57_13, h57_16, h57_17, h57_18, h57_19⟩ := hW.open_2 i_45
              have hPc : va_P D vwCl ([] ++ va_pl L M_54) H_53 := hP
              have hDc : va_D A ([] ++ va_pl L M_54) := hD
              have hFc : ∀ q, va_A ([] ++ va_pl L M_54) H_53.size q → A q := pg_free hDc hS hA
              refine va_calll (va_runV (As := [.int (nI v4w10)]) (rest := [.long v51_4, .ref b_49]) ⟨hx, hb, hml, hown, hg⟩ (s_X2_entriesOn l D cy K L M_54 H_53.size k1 (nI v4w10)  hW i_45) (cwV 1 hg (gV wd_634 wd_508 wd_509 wd_57 wd_510) rfl rfl rfl (by decide +kernel) ⟨(Nat.le_trans (Nat.le_of_ble_eq_true rfl) hRf), (Nat.le_trans (Nat.le_of_ble_eq_true rfl) hRl)⟩) ⟨PG.blind, pg_recv hK hP i_45.1 hM57 rfl, fun U hU hW => ⟨rfl, PG.at hPc hK hDc hN hU hW⟩⟩ rfl rfl hl.1 rfl (lv_room (Nat.le_of_ble_eq_true rfl)) dX0_partDays_70 ⟨by omega, by omega⟩) hS (fun q _ h => hFc q h) hFc (fun r_59 M_60 t H_58 locs ht hvm hw hB hz1 hk1 hS => ?_)
              have hp_61 := hw
              obtain ⟨hP1, hD1⟩ := hB
              rw [ht] at hP1
              have hP : va_P D vwCl ([] ++ va_pl L M_54) H_58 := hP1
              have hD : va_D A ([] ++ va_pl L M_54) := hD1.mono hFc
              refine lv_aload_n hx hb dX0_partDays_73 rfl (lv_at hl 3 rfl) ?_
              refine pg_get (D := D) (ci := 2) (v := .ref v57_13) (C := RX2) (T := TX2) (N := 20) hx hb hg inG2 hown hK hP i_45.1 hM57 rfl 13 (by decide) (hg _ wd_635) (fun _ h9 => h9) rfl dX0_partDays_74 ?_
              refine lv_iload hx hb dX0_partDays_77 (lv_at hl 1 rfl) ?_
              obtain ⟨f62, hM62⟩ := hW.open_67 h57_13
              refine pg_lald hx hb hK hP h57_13.1 1 hM62 rfl (inbN v4w10 1000 (by omega) (by omega)) dX0_partDays_79 ?_
              refine lv_topl (fun f_63 ef_63 => ?_)
              refine lv_ladd hx hb dX0_partDays_80 ?_
              refine lv_topl (fun f_64 ef_64 => ?_)
              refine lv_ladd hx hb dX0_partDays_81 ?_
              refine lv_topl (fun f_65 ef_65 => ?_)
              refine pg_put (D := D) (ci := 8) (v := .long f_65) (ty := .long) (C := RX8) (T := TX8) (N := 6) hx hb hg inG8 tyX8 tyX8_ok nmX8 hown hK hP hD hS hb_50.1 hM_55 rfl 4 (by decide) (hg _ wd_255) (fun _ h9 => h9) rfl (by decide +kernel) rfl rfl (Nat.le_of_ble_eq_true rfl) dX0_partDays_82 (fun H_66 locs hP hD hS => ?_)
              obtain ⟨M_67, eM_67⟩ : ∃ M1 : Hp, M1 = va_up M_54 b_49 ((b8_11 v51_0 v51_1 v51_2 f_52 f_65 v51_5)) := ⟨_, rfl⟩
              have hP : va_P D vwCl ([] ++ va_pl L M_67) H_66 := by rw [eM_67]; exact hP
              have hD : va_D A ([] ++ va_pl L M_67) := by rw [eM_67]; exact hD
              have hW : WOK cy K L M_67 := by rw [eM_67]; exact hW.up_8 hb_50 ⟨v51_0, v51_1, v51_2, f_52, f_65, v51_5, rfl, h51_0, h51_1⟩
              have hF : fr K0 L0 [0, 8, 21, 72] M0 M_67 := by rw [eM_67]; exact hF.upX hX0 hb_50 (by decide)
              have hOT : OTH K0 L0 oa M0 M_67 := by rw [eM_67]; exact hOT.upX hX0 hb_50 (by decide)
              have hM_68 : M_67 b_49 = (b8_11 v51_0 v51_1 v51_2 f_52 f_65 v51_5) := by rw [eM_67]; exact va_up_self _ _ _
              have hM_69 : M_67 oa = (b0_7 y0 y1 y2 (nI (gw10 + 1)) y4) := by rw [eM_67, va_up_ne _ _ (i_44.neT hb_50 (by decide))]; exact hM_56
              have hM_70 : M_67 k1 = (b2_2 v57_0 v57_1 v57_2 v57_3 (nI v57_4) (nI v57_5) v57_6 v57_7 v57_8 (nI v57_9) v57_10 (nI v57_11) v57_12 v57_13 v57_14 v57_15 v57_16 v57_17 v57_18 v57_19) := by rw [eM_67, va_up_ne _ _ (i_45.neT hb_50 (by decide))]; exact hM57
              have hM_71 : M_67 v57_13 = .inl (cy 15, 1000, .inr (.inl (f62))) := by rw [eM_67, va_up_ne _ _ (h57_13.neT hb_50 (by decide))]; exact hM62
              refine lv_iinc (v := (nI (v4w10 + 1))) (lv' := [(4, .int (nI (v4w10 + 1))), (3, .ref b_49), (0, .ref oa), (1, .ref k1), (2, .int k2)]) hx hb dX0_partDays_85 hl (k := 1) rfl (nI_1 v4w10) (by decide) rfl (fun ls hl => ?_)
              refine lv_goto (tgt := 14) hx hb dX0_partDays_88 (by decide) ?_
              refine W.widen (k := 3 * (gw10 + 1)) (n := 18 * (gw10 + 1)) (by omega) (by omega) ?_
              have hDe : (Xv 1 + 1 + ((v4w10 - (Xv 1 + 1).toNat : Nat) : Int)) = ((v4w10 : Nat) : Int) := by omega
              have hst : nst (prt Xv Yv) (Xv 1 + 1) (v4w10 + 1 - (Xv 1 + 1).toNat) = nst (prt Xv Yv) (Xv 1 + 1) (v4w10 - (Xv 1 + 1).toNat) + 1 := by rw [show v4w10 + 1 - (Xv 1 + 1).toNat = (v4w10 - (Xv 1 + 1).toNat) + 1 by omega]; exact nst_yes (Or.inl (by have h9 := hx_18.mp rfl; omega))
              exact ih_8 (some b_49) (v4w10 + 1) (gw10 + 1) K L M_67 H_66 _ _ (by omega) (iskN.some hb_50) (by omega) (by omega) (by omega) (by rw [hst, ← hx_17]) ⟨fun z9 => (by cases z9), fun z9 => absurd z9 (by omega)⟩ hM_69 i_44 i_45 i_46 i_47 i_48 hb_43 hX0 hNW hW hF hOT hP hD hS (lv_sub hl [0, 1, 2, 3, 4] rfl)
      · have hb_72 := hq_11 b_26 rfl
        refine lv_iload hx hb dX0_partDays_14 (lv_at hl 0 rfl) ?_
        refine lv_iload_n hx hb dX0_partDays_16 rfl (lv_at hl 4 rfl) ?_
        refine lv_icmp_gt (tgt := 91) hx hb dX0_partDays_17 (by decide) (fun c_73 => ?_) (fun c_73 => ?_)
        · have hz := rfl (a := 0)
          have hI_74 : (k2 : Int32).toInt < ((v4w10 : Nat) : Int) := iltI rfl (nI_toInt (by omega)) c_73
          have hge : gw10 = (nst (prt Xv Yv) (Xv 1 + 1) (k2.toInt - Xv 1).toNat) := hx_17.trans (congrArg _ (by omega))
          subst hge
          refine W.widen (k := 360) (n := 2160) (by omega) (by omega) ?_
          rw [hQ]
          exact W.vret hx hb hr (fun t ht hW9 => ⟨⟨(K, L, M_12), rfl, ⟨hX0, hW, hF, hM_19, trivial⟩, ⟨hNW, hOT, by rw [ht]; exact hP, hD⟩⟩, hS.F ht⟩) hS.2.2 dX0_partDays_91
        · have hz := rfl (a := 0)
          refine lv_iload hx hb dX0_partDays_20 (lv_at hl 0 rfl) ?_
          refine lv_sipush (v := 999) hx hb dX0_partDays_22 (by decide) ?_
          refine lv_icmp_gt (tgt := 91) hx hb dX0_partDays_25 (by decide) (fun c_75 => ?_) (fun c_75 => ?_)
          · have hz := rfl (a := 0)
            have n_76 : 999 < v4w10 := (iLT (a := 999) (b := v4w10) (by omega) (by omega)).mp c_75
            have hI_77 : ((v4w10 : Nat) : Int) ≤ (k2 : Int32).toInt := inltI rfl (nI_toInt (by omega)) c_73
            have hI_78 : (999 : Int) < ((v4w10 : Nat) : Int) := iltI rfl (nI_toInt (by omega)) c_75
            have hge : gw10 = (nst (prt Xv Yv) (Xv 1 + 1) (k2.toInt - Xv 1).toNat) := hx_17.trans (congrArg _ (by omega))
            subst hge
            refine W.widen (k := 360) (n := 2160) (by omega) (by omega) ?_
            rw [hQ]
            exact W.vret hx hb hr (fun t ht hW9 => ⟨⟨(K, L, M_12), rfl, ⟨hX0, hW, hF, hM_19, trivial⟩, ⟨hNW, hOT, by rw [ht]; exact hP, hD⟩⟩, hS.F ht⟩) hS.2.2 dX0_partDays_91
          · have hz := rfl (a := 0)
            have n_79 : ¬ (999 < v4w10) := fun q => c_75 ((iLT (a := 999) (b := v4w10) (by omega) (by omega)).mpr q)
            refine lv_aload_n hx hb dX0_partDays_28 rfl (lv_at hl 1 rfl) ?_
            refine lv_ifnull hx hb dX0_partDays_29 ?_
            refine lv_aload_n hx hb dX0_partDays_32 rfl (lv_at hl 3 rfl) ?_
            refine lv_iload hx hb dX0_partDays_33 (lv_at hl 0 rfl) ?_
            have hVp := VC.same (M1 := M_12) hV00 hW00 ik100 (SAME.fr (fr.cv hF (by decide)) (fr.cv hF (by decide)) (fr.cv hF (by decide)) (fr.cv hF (by decide)) (fr.cv hF (by decide)) (fr.cv hF (by decide)) (fr.cv hF (by decide)) hF (by decide))
            obtain ⟨v80_0, v80_1, v80_2, v80_3, v80_4, v80_5, v80_6, v80_7, v80_8, v80_9, v80_10, v80_11, v80_12, v80_13, v80_14, v80_15, v80_16, v80_17, v80_18, v80_19, hM80, h80_3, h80_4, h80_5, h80_6, h80_7, h80_8, h80_9, h80_10, h80_11, h80_12, h80_13, h80_16, h80_17, h80_18, h80_19⟩ := hW.open_2 i_21
            have hPc : va_P D vwCl ([] ++ va_pl L M_12) H_13 := hP
            have hDc : va_D A ([] ++ va_pl L M_12) := hD
            have hFc : ∀ q, va_A ([] ++ va_pl L M_12) H_13.size q → A q := pg_free hDc hS hA
            refine va_calli (va_runV (As := [.int (nI v4w10)]) (rest := []) ⟨hx, hb, hml, hown, hg⟩ (e_parted l D cy K L M_12 H_13.size k1 (nI v4w10)  hW i_21 (by rw [hVp.2.1, hVp.2.2.1]; exact hn28) (by rw [hVp.2.1, hVp.2.2.1]; exact hn33)) (cwV 1 hg (gV wd_636 wd_637 wd_638 wd_57 wd_639) rfl rfl rfl (by decide +kernel) ⟨(Nat.le_trans (Nat.le_of_ble_eq_true rfl) hRf), (Nat.le_trans (Nat.le_of_ble_eq_true rfl) hRl)⟩) ⟨PG.blind, pg_recv hK hP i_21.1 hM80 rfl, fun U hU hW => ⟨rfl, PG.at hPc hK hDc hN hU hW⟩⟩ rfl rfl hl.1 rfl (lv_room (Nat.le_of_ble_eq_true rfl)) dX0_partDays_35 ⟨by omega, by omega⟩) hS (fun q _ h => hFc q h) hFc (fun r_82 M_83 t H_81 locs ht hvm hw hB hz1 hk1 hS => ?_)
            have hp_84 := hw
            obtain ⟨hP1, hD1⟩ := hB
            rw [ht] at hP1
            have hP : va_P D vwCl ([] ++ va_pl L M_12) H_81 := hP1
            have hD : va_D A ([] ++ va_pl L M_12) := hD1.mono hFc
            rcases hp_84 with ⟨rfl, c_85⟩ | ⟨rfl, c_86⟩
            · have hz := rfl (a := 0)
              have hpp : prt Xv Yv ((v4w10 : Nat) : Int) := by have h9 := c_85; rw [hVp.2.1, hVp.2.2.1, nI_toInt (by omega)] at h9; exact h9
              refine lv_if_eq (tgt := 48) hx hb dX0_partDays_38 (by decide) (fun c_87 => absurd c_87 (by decide)) (fun _ => ?_)
              refine lv_aload_n hx hb dX0_partDays_41 rfl (lv_at hl 2 rfl) ?_
              refine lv_iload hx hb dX0_partDays_42 (lv_at hl 0 rfl) ?_
              have hI_88 : ((v4w10 : Nat) : Int) ≤ (k2 : Int32).toInt := inltI rfl (nI_toInt (by omega)) c_73
              have hI_89 : ((v4w10 : Nat) : Int) ≤ (999 : Int) := inltI rfl (nI_toInt (by omega)) c_75
              have hnle := nst_le (P := prt Xv Yv) (a := Xv 1 + 1) (n := v4w10 - (Xv 1 + 1).toNat)
              have hroom9 : gw10 < 120 := by omega
              have hPc : va_P D vwCl ([] ++ va_pl L M_12) H_81 := hP
              have hDc : va_D A ([] ++ va_pl L M_12) := hD
              have hFc : ∀ q, va_A ([] ++ va_pl L M_12) H_81.size q → A q := pg_free hDc hS hA
              refine va_callq (va_runV (As := [.int (nI v4w10)]) (rest := []) ⟨hx, hb, hml, hown, hg⟩ (e_appN l D cy K L M_12 H_81.size oa (nI v4w10) y0 y1 y2 gw10 y4 hW i_20 (by omega) hM_19 i_22 i_23 i_24 hb_25) (cwV 1 hg (gV wd_630 wd_631 wd_632 wd_204 wd_633) rfl rfl rfl (by decide +kernel) ⟨(Nat.le_trans (Nat.le_of_ble_eq_true rfl) hRf), (Nat.le_trans (Nat.le_of_ble_eq_true rfl) hRl)⟩) ⟨PG.blind, pg_recv hK hP i_20.1 hM_19 rfl, fun U hU hW => ⟨rfl, PG.at hPc hK hDc hN hU hW⟩⟩ rfl rfl hl.1 rfl (lv_room (Nat.le_of_ble_eq_true rfl)) dX0_partDays_44 ⟨by omega, by omega⟩) hS (fun q _ h => hFc q h) hFc (fun r_91 M_92 t H_90 locs ht hvm hw hB hz1 hk1 hS => ?_)
              have hWb := hW
              obtain ⟨K9, L9, M_92m⟩ := M_92
              dsimp only at hw hB
              obtain ⟨hx9, hW, hF2, hM_94, hp_93⟩ := hw
              obtain ⟨hg_95, hg_96, hP1, hD1⟩ := hB
              rw [ht] at hP1
              have hP : va_P D vwCl ([] ++ va_pl L9 M_92m) H_90 := hP1
              have hD : va_D A ([] ++ va_pl L9 M_92m) := hD1.mono hFc
              have hM_97 : M_92m k1 = (b2_2 v80_0 v80_1 v80_2 v80_3 (nI v80_4) (nI v80_5) v80_6 v80_7 v80_8 (nI v80_9) v80_10 (nI v80_11) v80_12 v80_13 v80_14 v80_15 v80_16 v80_17 v80_18 v80_19) := (hF2.at i_21 (by decide)).trans hM80
              have hb_98 : (gw10 + 1) ≤ 120 := by omega
              have hOT : OTH K0 L0 oa M0 M_92m := hOT.trO hX0 hg_96
              have hF : fr K0 L0 [0, 8, 21, 72] M0 M_92m := hF.trX hX0 hF2 (by decide)
              have hX0 := hX0.tr hx9
              have hNW := hNW.tr hg_95
              have i_99 := i_20.ext hx9
              have i_100 := i_21.ext hx9
              have i_101 := i_22.ext hx9
              have i_102 := i_23.ext hx9
              have i_103 := i_24.ext hx9
              have i_104 := hb_72.ext hx9
              have i_105 := h80_3.ext hx9
              have i_106 := h80_6.ext hx9
              have i_107 := h80_7.ext hx9
              have i_108 := h80_8.ext hx9
              have i_109 := h80_10.ext hx9
              have i_110 := h80_12.ext hx9
              have i_111 := h80_13.ext hx9
              have i_112 := h80_16.ext hx9
              have i_113 := h80_17.ext hx9
              have i_114 := h80_18.ext hx9
              have i_115 := h80_19.ext hx9
              obtain ⟨K, L, hK9, hL9⟩ : ∃ (K : Kp) (L : List Nat), K = K9 ∧ L = L9 := ⟨_, _, rfl, rfl⟩
              subst hK9
              subst hL9
              have hz := rfl (a := 0)
              obtain ⟨hp_93, hqx⟩ := hp_93
              rcases r_91 with _ | b_116
              · have hz := rfl (a := 0)
                exact absurd rfl hqx
              · have hb_117 := hp_93 b_116 rfl
                refine lv_astore_n (lv' := [(3, .ref b_116), (4, .int (nI v4w10)), (0, .ref oa), (1, .ref k1), (2, .int k2)]) hx hb dX0_partDays_47 rfl hl (by decide) rfl (fun ls hl => ?_)
                refine lv_aload_n hx hb dX0_partDays_48 rfl (lv_at hl 0 rfl) ?_
                refine lv_ifnull hx hb dX0_partDays_49 ?_
                refine lv_aload_n hx hb dX0_partDays_52 rfl (lv_at hl 0 rfl) ?_
                refine lv_dup hx hb dX0_partDays_53 rfl ?_
                obtain ⟨v118_0, v118_1, v118_2, v118_3, v118_4, v118_5, hM118, h118_0, h118_1⟩ := hW.open_8 hb_117
                refine pg_get (D := D) (ci := 8) (v := .int v118_3) (C := RX8) (T := TX8) (N := 6) hx hb hg inG8 hown hK hP hb_117.1 hM118 rfl 3 (by decide) (hg _ wd_220) (fun _ h9 => h9) rfl dX0_partDays_54 ?_
                refine lv_iconst (v := 1) hx hb dX0_partDays_57 (by decide) ?_
                refine lv_iadd hx hb dX0_partDays_58 ?_
                refine lv_topi (fun f_119 ef_119 => ?_)
                refine pg_put (D := D) (ci := 8) (v := .int f_119) (ty := .int) (C := RX8) (T := TX8) (N := 6) hx hb hg inG8 tyX8 tyX8_ok nmX8 hown hK hP hD hS hb_117.1 hM118 rfl 3 (by decide) (hg _ wd_220) (fun _ h9 => h9) rfl (by decide +kernel) rfl rfl (Nat.le_of_ble_eq_true rfl) dX0_partDays_59 (fun H_120 locs hP hD hS => ?_)
                obtain ⟨M_121, eM_121⟩ : ∃ M1 : Hp, M1 = va_up M_92m b_116 ((b8_11 v118_0 v118_1 v118_2 f_119 v118_4 v118_5)) := ⟨_, rfl⟩
                have hP : va_P D vwCl ([] ++ va_pl L M_121) H_120 := by rw [eM_121]; exact hP
                have hD : va_D A ([] ++ va_pl L M_121) := by rw [eM_121]; exact hD
                have hW : WOK cy K L M_121 := by rw [eM_121]; exact hW.up_8 hb_117 ⟨v118_0, v118_1, v118_2, f_119, v118_4, v118_5, rfl, h118_0, h118_1⟩
                have hF : fr K0 L0 [0, 8, 21, 72] M0 M_121 := by rw [eM_121]; exact hF.upX hX0 hb_117 (by decide)
                have hOT : OTH K0 L0 oa M0 M_121 := by rw [eM_121]; exact hOT.upX hX0 hb_117 (by decide)
                have hM_122 : M_121 b_116 = (b8_11 v118_0 v118_1 v118_2 f_119 v118_4 v118_5) := by rw [eM_121]; exact va_up_self _ _ _
                have hM_123 : M_121 k1 = (b2_2 v80_0 v80_1 v80_2 v80_3 (nI v80_4) (nI v80_5) v80_6 v80_7 v80_8 (nI v80_9) v80_10 (nI v80_11) v80_12 v80_13 v80_14 v80_15 v80_16 v80_17 v80_18 v80_19) := by rw [eM_121, va_up_ne _ _ (i_100.neT hb_117 (by decide))]; exact hM_97
                have hM_124 : M_121 oa = (b0_7 y0 y1 y2 (nI (gw10 + 1)) y4) := by rw [eM_121, va_up_ne _ _ (i_99.neT hb_117 (by decide))]; exact hM_94
                refine lv_aload_n hx hb dX0_partDays_62 rfl (lv_at hl 0 rfl) ?_
                refine lv_dup hx hb dX0_partDays_63 rfl ?_
                refine pg_get (D := D) (ci := 8) (v := .long v118_4) (C := RX8) (T := TX8) (N := 6) hx hb hg inG8 hown hK hP hb_117.1 hM_122 rfl 4 (by decide) (hg _ wd_255) (fun _ h9 => h9) rfl dX0_partDays_64 ?_
                refine lv_aload_n hx hb dX0_partDays_67 rfl (lv_at hl 3 rfl) ?_
                refine lv_iload hx hb dX0_partDays_68 (lv_at hl 1 rfl) ?_
                have hPc : va_P D vwCl ([] ++ va_pl L M_121) H_120 := hP
                have hDc : va_D A ([] ++ va_pl L M_121) := hD
                have hFc : ∀ q, va_A ([] ++ va_pl L M_121) H_120.size q → A q := pg_free hDc hS hA
                refine va_calll (va_runV (As := [.int (nI v4w10)]) (rest := [.long v118_4, .ref b_116]) ⟨hx, hb, hml, hown, hg⟩ (s_X2_entriesOn l D cy K L M_121 H_120.size k1 (nI v4w10)  hW i_100) (cwV 1 hg (gV wd_634 wd_508 wd_509 wd_57 wd_510) rfl rfl rfl (by decide +kernel) ⟨(Nat.le_trans (Nat.le_of_ble_eq_true rfl) hRf), (Nat.le_trans (Nat.le_of_ble_eq_true rfl) hRl)⟩) ⟨PG.blind, pg_recv hK hP i_100.1 hM_123 rfl, fun U hU hW => ⟨rfl, PG.at hPc hK hDc hN hU hW⟩⟩ rfl rfl hl.1 rfl (lv_room (Nat.le_of_ble_eq_true rfl)) dX0_partDays_70 ⟨by omega, by omega⟩) hS (fun q _ h => hFc q h) hFc (fun r_126 M_127 t H_125 locs ht hvm hw hB hz1 hk1 hS => ?_)
                have hp_128 := hw
                obtain ⟨hP1, hD1⟩ := hB
                rw [ht] at hP1
                have hP : va_P D vwCl ([] ++ va_pl L M_121) H_125 := hP1
                have hD : va_D A ([] ++ va_pl L M_121) := hD1.mono hFc
                refine lv_aload_n hx hb dX0_partDays_73 rfl (lv_at hl 3 rfl) ?_
                refine pg_get (D := D) (ci := 2) (v := .ref v80_13) (C := RX2) (T := TX2) (N := 20) hx hb hg inG2 hown hK hP i_100.1 hM_123 rfl 13 (by decide) (hg _ wd_635) (fun _ h9 => h9) rfl dX0_partDays_74 ?_
                refine lv_iload hx hb dX0_partDays_77 (lv_at hl 1 rfl) ?_
                obtain ⟨f129, hM129⟩ := hW.open_67 i_111
                refine pg_lald hx hb hK hP i_111.1 1 hM129 rfl (inbN v4w10 1000 (by omega) (by omega)) dX0_partDays_79 ?_
                refine lv_topl (fun f_130 ef_130 => ?_)
                refine lv_ladd hx hb dX0_partDays_80 ?_
                refine lv_topl (fun f_131 ef_131 => ?_)
                refine lv_ladd hx hb dX0_partDays_81 ?_
                refine lv_topl (fun f_132 ef_132 => ?_)
                refine pg_put (D := D) (ci := 8) (v := .long f_132) (ty := .long) (C := RX8) (T := TX8) (N := 6) hx hb hg inG8 tyX8 tyX8_ok nmX8 hown hK hP hD hS hb_117.1 hM_122 rfl 4 (by decide) (hg _ wd_255) (fun _ h9 => h9) rfl (by decide +kernel) rfl rfl (Nat.le_of_ble_eq_true rfl) dX0_partDays_82 (fun H_133 locs hP hD hS => ?_)
                obtain ⟨M_134, eM_134⟩ : ∃ M1 : Hp, M1 = va_up M_121 b_116 ((b8_11 v118_0 v118_1 v118_2 f_119 f_132 v118_5)) := ⟨_, rfl⟩
                have hP : va_P D vwCl ([] ++ va_pl L M_134) H_133 := by rw [eM_134]; exact hP
                have hD : va_D A ([] ++ va_pl L M_134) := by rw [eM_134]; exact hD
                have hW : WOK cy K L M_134 := by rw [eM_134]; exact hW.up_8 hb_117 ⟨v118_0, v118_1, v118_2, f_119, f_132, v118_5, rfl, h118_0, h118_1⟩
                have hF : fr K0 L0 [0, 8, 21, 72] M0 M_134 := by rw [eM_134]; exact hF.upX hX0 hb_117 (by decide)
                have hOT : OTH K0 L0 oa M0 M_134 := by rw [eM_134]; exact hOT.upX hX0 hb_117 (by decide)
                have hM_135 : M_134 b_116 = (b8_11 v118_0 v118_1 v118_2 f_119 f_132 v118_5) := by rw [eM_134]; exact va_up_self _ _ _
                have hM_136 : M_134 k1 = (b2_2 v80_0 v80_1 v80_2 v80_3 (nI v80_4) (nI v80_5) v80_6 v80_7 v80_8 (nI v80_9) v80_10 (nI v80_11) v80_12 v80_13 v80_14 v80_15 v80_16 v80_17 v80_18 v80_19) := by rw [eM_134, va_up_ne _ _ (i_100.neT hb_117 (by decide))]; exact hM_123
                have hM_137 : M_134 oa = (b0_7 y0 y1 y2 (nI (gw10 + 1)) y4) := by rw [eM_134, va_up_ne _ _ (i_99.neT hb_117 (by decide))]; exact hM_124
                have hM_138 : M_134 v80_13 = .inl (cy 15, 1000, .inr (.inl (f129))) := by rw [eM_134, va_up_ne _ _ (i_111.neT hb_117 (by decide))]; exact hM129
                refine lv_iinc (v := (nI (v4w10 + 1))) (lv' := [(4, .int (nI (v4w10 + 1))), (3, .ref b_116), (0, .ref oa), (1, .ref k1), (2, .int k2)]) hx hb dX0_partDays_85 hl (k := 1) rfl (nI_1 v4w10) (by decide) rfl (fun ls hl => ?_)
                refine lv_goto (tgt := 14) hx hb dX0_partDays_88 (by decide) ?_
                refine W.widen (k := 3 * (gw10 + 1)) (n := 18 * (gw10 + 1)) (by omega) (by omega) ?_
                have hDe : (Xv 1 + 1 + ((v4w10 - (Xv 1 + 1).toNat : Nat) : Int)) = ((v4w10 : Nat) : Int) := by omega
                have hst : nst (prt Xv Yv) (Xv 1 + 1) (v4w10 + 1 - (Xv 1 + 1).toNat) = nst (prt Xv Yv) (Xv 1 + 1) (v4w10 - (Xv 1 + 1).toNat) + 1 := by rw [show v4w10 + 1 - (Xv 1 + 1).toNat = (v4w10 - (Xv 1 + 1).toNat) + 1 by omega]; exact nst_yes (Or.inr (by rw [hDe]; exact hpp))
                exact ih_8 (some b_116) (v4w10 + 1) (gw10 + 1) K L M_134 H_133 _ _ (by omega) (iskN.some hb_117) (by omega) (by omega) (by omega) (by rw [hst, ← hx_17]) ⟨fun z9 => (by cases z9), fun z9 => absurd z9 (by omega)⟩ hM_137 i_99 i_100 i_101 i_102 i_103 hb_98 hX0 hNW hW hF hOT hP hD hS (lv_sub hl [0, 1, 2, 3, 4] rfl)
            · have hz := rfl (a := 0)
              have hpp : ¬ prt Xv Yv ((v4w10 : Nat) : Int) := by have h9 := c_86; rw [hVp.2.1, hVp.2.2.1, nI_toInt (by omega)] at h9; exact h9
              refine lv_if_eq (tgt := 48) hx hb dX0_partDays_38 (by decide) (fun _ => ?_) (fun c_139 => absurd c_139 (by decide))
              refine lv_aload_n hx hb dX0_partDays_48 rfl (lv_at hl 1 rfl) ?_
              refine lv_ifnull hx hb dX0_partDays_49 ?_
              refine lv_aload_n hx hb dX0_partDays_52 rfl (lv_at hl 1 rfl) ?_
              refine lv_dup hx hb dX0_partDays_53 rfl ?_
              obtain ⟨v140_0, v140_1, v140_2, v140_3, v140_4, v140_5, hM140, h140_0, h140_1⟩ := hW.open_8 hb_72
              refine pg_get (D := D) (ci := 8) (v := .int v140_3) (C := RX8) (T := TX8) (N := 6) hx hb hg inG8 hown hK hP hb_72.1 hM140 rfl 3 (by decide) (hg _ wd_220) (fun _ h9 => h9) rfl dX0_partDays_54 ?_
              refine lv_iconst (v := 1) hx hb dX0_partDays_57 (by decide) ?_
              refine lv_iadd hx hb dX0_partDays_58 ?_
              refine lv_topi (fun f_141 ef_141 => ?_)
              refine pg_put (D := D) (ci := 8) (v := .int f_141) (ty := .int) (C := RX8) (T := TX8) (N := 6) hx hb hg inG8 tyX8 tyX8_ok nmX8 hown hK hP hD hS hb_72.1 hM140 rfl 3 (by decide) (hg _ wd_220) (fun _ h9 => h9) rfl (by decide +kernel) rfl rfl (Nat.le_of_ble_eq_true rfl) dX0_partDays_59 (fun H_142 locs hP hD hS => ?_)
              obtain ⟨M_143, eM_143⟩ : ∃ M1 : Hp, M1 = va_up M_12 b_26 ((b8_11 v140_0 v140_1 v140_2 f_141 v140_4 v140_5)) := ⟨_, rfl⟩
              have hP : va_P D vwCl ([] ++ va_pl L M_143) H_142 := by rw [eM_143]; exact hP
              have hD : va_D A ([] ++ va_pl L M_143) := by rw [eM_143]; exact hD
              have hW : WOK cy K L M_143 := by rw [eM_143]; exact hW.up_8 hb_72 ⟨v140_0, v140_1, v140_2, f_141, v140_4, v140_5, rfl, h140_0, h140_1⟩
              have hF : fr K0 L0 [0, 8, 21, 72] M0 M_143 := by rw [eM_143]; exact hF.upX hX0 hb_72 (by decide)
              have hOT : OTH K0 L0 oa M0 M_143 := by rw [eM_143]; exact hOT.upX hX0 hb_72 (by decide)
              have hM_144 : M_143 b_26 = (b8_11 v140_0 v140_1 v140_2 f_141 v140_4 v140_5) := by rw [eM_143]; exact va_up_self _ _ _
              have hM_145 : M_143 oa = (b0_7 y0 y1 y2 (nI gw10) y4) := by rw [eM_143, va_up_ne _ _ (i_20.neT hb_72 (by decide))]; exact hM_19
              have hM_146 : M_143 k1 = (b2_2 v80_0 v80_1 v80_2 v80_3 (nI v80_4) (nI v80_5) v80_6 v80_7 v80_8 (nI v80_9) v80_10 (nI v80_11) v80_12 v80_13 v80_14 v80_15 v80_16 v80_17 v80_18 v80_19) := by rw [eM_143, va_up_ne _ _ (i_21.neT hb_72 (by decide))]; exact hM80
              refine lv_aload_n hx hb dX0_partDays_62 rfl (lv_at hl 1 rfl) ?_
              refine lv_dup hx hb dX0_partDays_63 rfl ?_
              refine pg_get (D := D) (ci := 8) (v := .long v140_4) (C := RX8) (T := TX8) (N := 6) hx hb hg inG8 hown hK hP hb_72.1 hM_144 rfl 4 (by decide) (hg _ wd_255) (fun _ h9 => h9) rfl dX0_partDays_64 ?_
              refine lv_aload_n hx hb dX0_partDays_67 rfl (lv_at hl 3 rfl) ?_
              refine lv_iload hx hb dX0_partDays_68 (lv_at hl 0 rfl) ?_
              have hPc : va_P D vwCl ([] ++ va_pl L M_143) H_142 := hP
              have hDc : va_D A ([] ++ va_pl L M_143) := hD
              have hFc : ∀ q, va_A ([] ++ va_pl L M_143) H_142.size q → A q := pg_free hDc hS hA
              refine va_calll (va_runV (As := [.int (nI v4w10)]) (rest := [.long v140_4, .ref b_26]) ⟨hx, hb, hml, hown, hg⟩ (s_X2_entriesOn l D cy K L M_143 H_142.size k1 (nI v4w10)  hW i_21) (cwV 1 hg (gV wd_634 wd_508 wd_509 wd_57 wd_510) rfl rfl rfl (by decide +kernel) ⟨(Nat.le_trans (Nat.le_of_ble_eq_true rfl) hRf), (Nat.le_trans (Nat.le_of_ble_eq_true rfl) hRl)⟩) ⟨PG.blind, pg_recv hK hP i_21.1 hM_146 rfl, fun U hU hW => ⟨rfl, PG.at hPc hK hDc hN hU hW⟩⟩ rfl rfl hl.1 rfl (lv_room (Nat.le_of_ble_eq_true rfl)) dX0_partDays_70 ⟨by omega, by omega⟩) hS (fun q _ h => hFc q h) hFc (fun r_148 M_149 t H_147 locs ht hvm hw hB hz1 hk1 hS => ?_)
              have hp_150 := hw
              obtain ⟨hP1, hD1⟩ := hB
              rw [ht] at hP1
              have hP : va_P D vwCl ([] ++ va_pl L M_143) H_147 := hP1
              have hD : va_D A ([] ++ va_pl L M_143) := hD1.mono hFc
              refine lv_aload_n hx hb dX0_partDays_73 rfl (lv_at hl 3 rfl) ?_
              refine pg_get (D := D) (ci := 2) (v := .ref v80_13) (C := RX2) (T := TX2) (N := 20) hx hb hg inG2 hown hK hP i_21.1 hM_146 rfl 13 (by decide) (hg _ wd_635) (fun _ h9 => h9) rfl dX0_partDays_74 ?_
              refine lv_iload hx hb dX0_partDays_77 (lv_at hl 0 rfl) ?_
              obtain ⟨f151, hM151⟩ := hW.open_67 h80_13
              refine pg_lald hx hb hK hP h80_13.1 1 hM151 rfl (inbN v4w10 1000 (by omega) (by omega)) dX0_partDays_79 ?_
              refine lv_topl (fun f_152 ef_152 => ?_)
              refine lv_ladd hx hb dX0_partDays_80 ?_
              refine lv_topl (fun f_153 ef_153 => ?_)
              refine lv_ladd hx hb dX0_partDays_81 ?_
              refine lv_topl (fun f_154 ef_154 => ?_)
              refine pg_put (D := D) (ci := 8) (v := .long f_154) (ty := .long) (C := RX8) (T := TX8) (N := 6) hx hb hg inG8 tyX8 tyX8_ok nmX8 hown hK hP hD hS hb_72.1 hM_144 rfl 4 (by decide) (hg _ wd_255) (fun _ h9 => h9) rfl (by decide +kernel) rfl rfl (Nat.le_of_ble_eq_true rfl) dX0_partDays_82 (fun H_155 locs hP hD hS => ?_)
              obtain ⟨M_156, eM_156⟩ : ∃ M1 : Hp, M1 = va_up M_143 b_26 ((b8_11 v140_0 v140_1 v140_2 f_141 f_154 v140_5)) := ⟨_, rfl⟩
              have hP : va_P D vwCl ([] ++ va_pl L M_156) H_155 := by rw [eM_156]; exact hP
              have hD : va_D A ([] ++ va_pl L M_156) := by rw [eM_156]; exact hD
              have hW : WOK cy K L M_156 := by rw [eM_156]; exact hW.up_8 hb_72 ⟨v140_0, v140_1, v140_2, f_141, f_154, v140_5, rfl, h140_0, h140_1⟩
              have hF : fr K0 L0 [0, 8, 21, 72] M0 M_156 := by rw [eM_156]; exact hF.upX hX0 hb_72 (by decide)
              have hOT : OTH K0 L0 oa M0 M_156 := by rw [eM_156]; exact hOT.upX hX0 hb_72 (by decide)
              have hM_157 : M_156 b_26 = (b8_11 v140_0 v140_1 v140_2 f_141 f_154 v140_5) := by rw [eM_156]; exact va_up_self _ _ _
              have hM_158 : M_156 oa = (b0_7 y0 y1 y2 (nI gw10) y4) := by rw [eM_156, va_up_ne _ _ (i_20.neT hb_72 (by decide))]; exact hM_145
              have hM_159 : M_156 k1 = (b2_2 v80_0 v80_1 v80_2 v80_3 (nI v80_4) (nI v80_5) v80_6 v80_7 v80_8 (nI v80_9) v80_10 (nI v80_11) v80_12 v80_13 v80_14 v80_15 v80_16 v80_17 v80_18 v80_19) := by rw [eM_156, va_up_ne _ _ (i_21.neT hb_72 (by decide))]; exact hM_146
              have hM_160 : M_156 v80_13 = .inl (cy 15, 1000, .inr (.inl (f151))) := by rw [eM_156, va_up_ne _ _ (h80_13.neT hb_72 (by decide))]; exact hM151
              refine lv_iinc (v := (nI (v4w10 + 1))) (lv' := [(4, .int (nI (v4w10 + 1))), (3, .ref b_26), (0, .ref oa), (1, .ref k1), (2, .int k2)]) hx hb dX0_partDays_85 hl (k := 0) rfl (nI_1 v4w10) (by decide) rfl (fun ls hl => ?_)
              refine lv_goto (tgt := 14) hx hb dX0_partDays_88 (by decide) ?_
              refine W.widen (k := 3 * gw10) (n := 18 * gw10) (by omega) (by omega) ?_
              have hI_161 : ((v4w10 : Nat) : Int) ≤ (k2 : Int32).toInt := inltI rfl (nI_toInt (by omega)) c_73
              have hI_162 : ((v4w10 : Nat) : Int) ≤ (999 : Int) := inltI rfl (nI_toInt (by omega)) c_75
              have hDe : (Xv 1 + 1 + ((v4w10 - (Xv 1 + 1).toNat : Nat) : Int)) = ((v4w10 : Nat) : Int) := by omega
              have hst : nst (prt Xv Yv) (Xv 1 + 1) (v4w10 + 1 - (Xv 1 + 1).toNat) = nst (prt Xv Yv) (Xv 1 + 1) (v4w10 - (Xv 1 + 1).toNat) := by rw [show v4w10 + 1 - (Xv 1 + 1).toNat = (v4w10 - (Xv 1 + 1).toNat) + 1 by omega]; exact nst_no (fun w9 => by rcases w9 with w9 | w9; have h9 := hx_18.mpr (by omega); cases h9; rw [hDe] at w9; exact hpp w9)
              exact ih_8 (some b_26) (v4w10 + 1) gw10 K L M_156 H_155 _ _ (by omega) (iskN.some hb_72) (by omega) (by omega) (by omega) (by rw [hst, ← hx_17]) ⟨fun z9 => (by cases z9), fun z9 => absurd z9 (by omega)⟩ hM_158 i_20 i_21 i_22 i_23 i_24 hb_25 hX0 hNW hW hF hOT hP hD hS (lv_sub hl [0, 1, 2, 3, 4] rfl)
  refine W.widen (k := 3 * y3) (n := 18 * y3) (by omega) (by omega) ?_
  exact key_7 (1000 - j_4 + 1) none j_4 y3 K L M s.heap _ _ (by omega) iskN.none (by omega) (by omega) (by omega) (by rw [show j_4 - (Xv 1 + 1).toNat = 0 by omega]; exact hy30.trans nst_0.symm) ⟨fun _ => by omega, fun _ => rfl⟩ hMy ia ik1 hy0 hy1 hy2 hy3 hX0 hNW hW hF hOT hP hD hS (lv_sub hl [0, 1, 2, 3, 4] rfl)
set_option maxHeartbeats 4000000 in
set_option maxRecDepth 100000 in
theorem e_settleMends (l : Launch) (D : va_G) (cy : Nat → ClassId) (K0 : Kp) (L0 : List Nat) (M0 : Hp) (sz : Nat) (oa : Nat) (k1 : Nat) (Bo : Nat → Nat × Nat) (Mb : Hp) (Xv : Nat → Int) (Yv : Nat → Nat → Int32) (y0 : Nat) (y1 : Nat) (y2 : Nat) (y3 : Nat) (y4 : Int64) (hW : WOK cy K0 L0 M0) (ia : isk K0 L0 oa 0 0) (ik1 : isk K0 L0 k1 2 0) (hV : VC Bo K0 L0 Mb M0 k1 Xv Yv) (hb15 : (0 ≤ Xv 15 ∧ Xv 15 ≤ 20)) (hy100 : y3 ≤ 100) (hMy : M0 oa = (b0_7 y0 y1 y2 (nI y3) y4)) (hy0 : isk K0 L0 y0 21 120) (hy1 : isk K0 L0 y1 66 100) (hy2 : isk K0 L0 y2 7 0) (hy3 : y3 ≤ 120) : Met l yX0_settleMends (wsM yX0_settleMends cX0_settleMends 5 none) ({ frames := 4, cells := 360, slots := 2160, locals := 108 }) (va_Pc [.ref oa, .ref k1] (PG D cy [] L0 M0 sz)) (va_Qv (fun (u : Kp × List Nat × Hp) => ext K0 L0 u.1 u.2.1 ∧ WOK cy u.1 u.2.1 u.2.2 ∧ fr K0 L0 [0, 7, 8, 9, 21, 64, 65, 68, 69, 70, 71, 72] M0 u.2.2 ∧ fT 9 K0 L0 [11] M0 u.2.2 ∧ u.2.2 oa = (b0_7 y0 y1 y2 (nI (y3 + (Xv 15).toNat)) y4) ∧ (True)) (fun u t => NW2 K0 L0 u.1 u.2.1 ∧ OTH K0 L0 oa M0 u.2.2 ∧ PQ D [] u.2.1 u.2.2 (va_A ([] ++ va_pl L0 M0) sz) t) (va_A ([] ++ va_pl L0 M0) sz)) 360 2160 (va_A ([] ++ va_pl L0 M0) sz) := by
  refine Met.ofW (cc := cX0_settleMends) (maxL := 5) (ret := none) (by decide) rfl ?_
  intro p e s m args below meth c s₁ B hml hv
  obtain ⟨rfl, hsz, hP, hK, hD0, hN⟩ := hv
  have hx := B.exec
  have hb := B.bytes
  have hr := B.returns
  have hts := atoms_spec (ws := (wsM yX0_settleMends cX0_settleMends 5 none)) B.pre
  have hg : ∀ w ∈ lw_good, w.before _ s = true := fun w h => hts w (List.mem_cons_of_mem _ h)
  have hown : s.vm.findClass RX0 = some m.cls := findClass_of_methodNamed B.named
  have hlocks := B.notSynchronized
  subst hsz
  have hD := hD0.self (sz := s.heap.size)
  generalize hAe : va_A ([] ++ va_pl L0 M0) s.heap.size = A at hD ⊢
  have hA : ∀ q : Nat, s.heap.size ≤ q → A q := fun q h => by rw [← hAe]; exact Or.inr h
  have hS : va_S A s.heap s.heap [] := va_S.rf
  have hl := lv_entry ([.ref oa, .ref k1]) (n := 5) (Nat.le_of_ble_eq_true rfl)
  rw [lg_entry_eq]
  generalize (lg_sl ([.ref oa, .ref k1]) ++ List.replicate (5 - (lg_sl ([.ref oa, .ref k1])).length) Slot.unset).toArray = ls at hl ⊢
  refine W.nameQ (fun Q hQ => ?_)
  refine W.nameR (fun R hR => ?_)
  have hRf : 4 ≤ R.frames := by rw [hR]; exact Nat.le_of_ble_eq_true rfl
  have hRl : 108 ≤ R.locals := by rw [hR]; exact Nat.le_of_ble_eq_true rfl
  have hRc : 360 ≤ R.cells := by rw [hR]; exact Nat.le_of_ble_eq_true rfl
  have hRs : 2160 ≤ R.slots := by rw [hR]; exact Nat.le_of_ble_eq_true rfl
  have hW00 := hW
  have ia00 := ia
  have ik100 := ik1
  have hV00 := hV
  have hMy00 := hMy
  have hy000 := hy0
  have hy100 := hy1
  have hy200 := hy2
  obtain ⟨K, L, M, hX0, hF, hT9, hW, hP, hD, ia, ik1, hV, hMy, hy0, hy1, hy2, hMe, hKe, hLe⟩ : ∃ (K : Kp) (L : List Nat) (M : Hp), ext K0 L0 K L ∧ fr K0 L0 [0, 7, 8, 9, 21, 64, 65, 68, 69, 70, 71, 72] M0 M ∧ fT 9 K0 L0 [11] M0 M ∧ WOK cy K L M ∧ va_P D vwCl ([] ++ va_pl L M) s.heap ∧ va_D A ([] ++ va_pl L M) ∧ isk K L oa 0 0 ∧ isk K L k1 2 0 ∧ VC Bo K L Mb M k1 Xv Yv ∧ M oa = (b0_7 y0 y1 y2 (nI y3) y4) ∧ isk K L y0 21 120 ∧ isk K L y1 66 100 ∧ isk K L y2 7 0 ∧ M = M0 ∧ K = K0 ∧ L = L0 := ⟨K0, L0, M0, ext.rf, fr.rf, fT.rf, hW, hP, hD, ia, ik1, hV, hMy, hy0, hy1, hy2, rfl, rfl, rfl⟩
  have hl : lv_has ls 5 [(0, .ref oa), (1, .ref k1)] := hl
  have hNW : NW2 K0 L0 K L := by rw [hKe, hLe]; exact NW2.rf
  have hOT : OTH K0 L0 oa M0 M := by rw [hMe]; exact OTH.rf
  refine lv_iconst (v := 0) hx hb dX0_settleMends_0 (by decide) ?_
  refine lv_istore_n (lv' := [(2, .int 0), (0, .ref oa), (1, .ref k1)]) hx hb dX0_settleMends_1 rfl hl (by decide) rfl (fun ls hl => ?_)
  have key_1 : ∀ (fu_3 : Nat) (v2w4 : Nat) (gw4 : Nat) (K : Kp) (L : List Nat) (M_5 : Hp) (H_6 : Heap) (locs : List Loc) (ls : Array Slot), 120 - v2w4 < fu_3 → (v2w4 : Int) ≤ Xv 15 → gw4 = y3 + v2w4 → M_5 oa = (b0_7 y0 y1 y2 (nI gw4) y4) → isk K L oa 0 0 → isk K L k1 2 0 → isk K L y0 21 120 → isk K L y1 66 100 → isk K L y2 7 0 → gw4 ≤ 120 → ext K0 L0 K L → NW2 K0 L0 K L → WOK cy K L M_5 → fr K0 L0 [0, 7, 8, 9, 21, 64, 65, 68, 69, 70, 71, 72] M0 M_5 → OTH K0 L0 oa M0 M_5 → fT 9 K0 L0 [11] M0 M_5 → va_P D vwCl ([] ++ va_pl L M_5) H_6 → va_D A ([] ++ va_pl L M_5) → va_S A s.heap H_6 locs → lv_has ls 5 [(2, .int (nI v2w4)), (0, .ref oa), (1, .ref k1)] → W p l e R s m ([.ref oa, .ref k1] : List Value).toArray below meth c H_6 locs (3 * gw4) (18 * gw4) Q (F0 m 2 ls []) := by
    intro fu_3
    induction fu_3 with
    | zero => intro v2w4 gw4 K L M_5 H_6 locs ls h; exact absurd h (Nat.not_lt_zero _)
    | succ fu_3 ih_2 =>
      intro v2w4 gw4 K L M_5 H_6 locs ls hfu hx_7 hx_8 hM_9 i_10 i_11 i_12 i_13 i_14 hb_15 hX0 hNW hW hF hOT hT9 hP hD hS hl
      refine lv_iload_n hx hb dX0_settleMends_2 rfl (lv_at hl 0 rfl) ?_
      refine lv_aload_n hx hb dX0_settleMends_3 rfl (lv_at hl 2 rfl) ?_
      obtain ⟨v16_0, v16_1, v16_2, v16_3, v16_4, v16_5, v16_6, v16_7, v16_8, v16_9, v16_10, v16_11, v16_12, v16_13, v16_14, v16_15, v16_16, v16_17, v16_18, v16_19, hM16, h16_3, h16_4, h16_5, h16_6, h16_7, h16_8, h16_9, h16_10, h16_11, h16_12, h16_13, h16_16, h16_17, h16_18, h16_19⟩ := hW.open_2 i_11
      refine pg_get (D := D) (ci := 2) (v := .ref v16_17) (C := RX2) (T := TX2) (N := 20) hx hb hg inG2 hown hK hP i_11.1 hM16 rfl 17 (by decide) (hg _ wd_640) (fun _ h9 => h9) rfl dX0_settleMends_4 ?_
      obtain ⟨n17, v17_0, v17_1, v17_2, v17_3, hM17, h17_0, h17_1, h17_2, h17_3, y17_0⟩ := hW.open_1 h16_17
      refine pg_get (D := D) (ci := 1) (v := .int (nI v17_3)) (C := RX1) (T := TX1) (N := 4) hx hb hg inG1 hown hK hP h16_17.1 hM17 rfl 3 (by decide) (hg _ wd_225) (fun _ h9 => h9) rfl dX0_settleMends_7 ?_
      have hVp := VC.same (M1 := M_5) hV00 hW00 ik100 (SAME.fr (fr.cv hF (by decide)) (fT.cv (W9 hW00) hT9 (by decide)) (fr.cv hF (by decide)) (fr.cv hF (by decide)) (fr.cv hF (by decide)) (fr.cv hF (by decide)) (fr.cv hF (by decide)) hF (by decide))
      have hm15 : ((v17_3 : Nat) : Int) = Xv 15 := by have h9 : (cV 1 M_5 (rA 2 M_5 k1 17) 3).toInt = Xv 15 := congrFun hVp.2.1 15; rw [rA_of (j := 17) hM16 rfl, cV_of (j := 3) hM17 rfl, nI_toInt (by omega)] at h9; exact h9
      refine lv_icmp_ge (tgt := 117) hx hb dX0_settleMends_10 (by decide) (fun c_18 => ?_) (fun c_18 => ?_)
      · have hz := rfl (a := 0)
        have n_19 : v17_3 ≤ v2w4 := (iLE (a := v17_3) (b := v2w4) (by omega) (by omega)).mp c_18
        have hge : gw4 = y3 + (Xv 15).toNat := by omega
        subst hge
        refine W.widen (k := 360) (n := 2160) (by omega) (by omega) ?_
        rw [hQ]
        exact W.vret hx hb hr (fun t ht hW9 => ⟨⟨(K, L, M_5), rfl, ⟨hX0, hW, hF, hT9, hM_9, trivial⟩, ⟨hNW, hOT, by rw [ht]; exact hP, hD⟩⟩, hS.F ht⟩) hS.2.2 dX0_settleMends_117
      · have hz := rfl (a := 0)
        have n_20 : ¬ (v17_3 ≤ v2w4) := fun q => c_18 ((iLE (a := v17_3) (b := v2w4) (by omega) (by omega)).mpr q)
        refine lv_aload_n hx hb dX0_settleMends_13 rfl (lv_at hl 1 rfl) ?_
        refine lv_aload_n hx hb dX0_settleMends_14 rfl (lv_at hl 2 rfl) ?_
        refine pg_get (D := D) (ci := 2) (v := .ref v16_17) (C := RX2) (T := TX2) (N := 20) hx hb hg inG2 hown hK hP i_11.1 hM16 rfl 17 (by decide) (hg _ wd_640) (fun _ h9 => h9) rfl dX0_settleMends_15 ?_
        refine pg_get (D := D) (ci := 1) (v := .ref v17_1) (C := RX1) (T := TX1) (N := 4) hx hb hg inG1 hown hK hP h16_17.1 hM17 rfl 1 (by decide) (hg _ wd_227) (fun _ h9 => h9) rfl dX0_settleMends_18 ?_
        refine lv_iload_n hx hb dX0_settleMends_21 rfl (lv_at hl 0 rfl) ?_
        obtain ⟨f21, hM21⟩ := hW.open_56 h17_1
        refine pg_iald hx hb hK hP h17_1.1 0 hM21 rfl (inbN v2w4 n17 (by omega) (by omega)) dX0_settleMends_22 ?_
        refine lv_topi (fun f_22 ef_22 => ?_)
        have hroom9 : gw4 < 120 := by omega
        have hPc : va_P D vwCl ([] ++ va_pl L M_5) H_6 := hP
        have hDc : va_D A ([] ++ va_pl L M_5) := hD
        have hFc : ∀ q, va_A ([] ++ va_pl L M_5) H_6.size q → A q := pg_free hDc hS hA
        refine va_callq (va_runV (As := [.int f_22]) (rest := []) ⟨hx, hb, hml, hown, hg⟩ (e_appN l D cy K L M_5 H_6.size oa f_22 y0 y1 y2 gw4 y4 hW i_10 (by omega) hM_9 i_12 i_13 i_14 hb_15) (cwV 1 hg (gV wd_630 wd_631 wd_632 wd_204 wd_633) rfl rfl rfl (by decide +kernel) ⟨(Nat.le_trans (Nat.le_of_ble_eq_true rfl) hRf), (Nat.le_trans (Nat.le_of_ble_eq_true rfl) hRl)⟩) ⟨PG.blind, pg_recv hK hP i_10.1 hM_9 rfl, fun U hU hW => ⟨rfl, PG.at hPc hK hDc hN hU hW⟩⟩ rfl rfl hl.1 rfl (lv_room (Nat.le_of_ble_eq_true rfl)) dX0_settleMends_23 ⟨by omega, by omega⟩) hS (fun q _ h => hFc q h) hFc (fun r_24 M_25 t H_23 locs ht hvm hw hB hz1 hk1 hS => ?_)
        have hWb := hW
        obtain ⟨K9, L9, M_25m⟩ := M_25
        dsimp only at hw hB
        obtain ⟨hx9, hW, hF2, hM_27, hp_26⟩ := hw
        obtain ⟨hg_28, hg_29, hP1, hD1⟩ := hB
        rw [ht] at hP1
        have hP : va_P D vwCl ([] ++ va_pl L9 M_25m) H_23 := hP1
        have hD : va_D A ([] ++ va_pl L9 M_25m) := hD1.mono hFc
        have hM_30 : M_25m k1 = (b2_2 v16_0 v16_1 v16_2 v16_3 (nI v16_4) (nI v16_5) v16_6 v16_7 v16_8 (nI v16_9) v16_10 (nI v16_11) v16_12 v16_13 v16_14 v16_15 v16_16 v16_17 v16_18 v16_19) := (hF2.at i_11 (by decide)).trans hM16
        have hM_31 : M_25m v16_17 = (b1_4 v17_0 v17_1 v17_2 (nI v17_3)) := (hF2.at h16_17 (by decide)).trans hM17
        have hM_32 : M_25m v17_1 = .inl (cy 14, n17, .inl (f21)) := (hF2.at h17_1 (by decide)).trans hM21
        have hb_33 : (gw4 + 1) ≤ 120 := by omega
        have hOT : OTH K0 L0 oa M0 M_25m := hOT.trO hX0 hg_29
        have hF : fr K0 L0 [0, 7, 8, 9, 21, 64, 65, 68, 69, 70, 71, 72] M0 M_25m := hF.trX hX0 hF2 (by decide)
        have hT9 : fT 9 K0 L0 [11] M0 M_25m := hT9.frrX hX0 hF2 (by decide)
        have hX0 := hX0.tr hx9
        have hNW := hNW.tr hg_28
        have i_34 := i_10.ext hx9
        have i_35 := i_11.ext hx9
        have i_36 := i_12.ext hx9
        have i_37 := i_13.ext hx9
        have i_38 := i_14.ext hx9
        have i_39 := h16_3.ext hx9
        have i_40 := h16_6.ext hx9
        have i_41 := h16_7.ext hx9
        have i_42 := h16_8.ext hx9
        have i_43 := h16_10.ext hx9
        have i_44 := h16_12.ext hx9
        have i_45 := h16_13.ext hx9
        have i_46 := h16_16.ext hx9
        have i_47 := h16_17.ext hx9
        have i_48 := h16_18.ext hx9
        have i_49 := h16_19.ext hx9
        have i_50 := h17_0.ext hx9
        have i_51 := h17_1.ext hx9
        have i_52 := h17_2.ext hx9
        obtain ⟨K, L, hK9, hL9⟩ : ∃ (K : Kp) (L : List Nat), K = K9 ∧ L = L9 := ⟨_, _, rfl, rfl⟩
        subst hK9
        subst hL9
        have hz := rfl (a := 0)
        obtain ⟨hp_26, hqx⟩ := hp_26
        rcases r_24 with _ | b_53
        · have hz := rfl (a := 0)
          exact absurd rfl hqx
        · have hb_54 := hp_26 b_53 rfl
          refine lv_astore_n (lv' := [(3, .ref b_53), (2, .int (nI v2w4)), (0, .ref oa), (1, .ref k1)]) hx hb dX0_settleMends_26 rfl hl (by decide) rfl (fun ls hl => ?_)
          refine lv_aload_n hx hb dX0_settleMends_27 rfl (lv_at hl 0 rfl) ?_
          refine lv_ifnonnull (tgt := 35) hx hb dX0_settleMends_28 (by decide) ?_
          refine lv_aload_n hx hb dX0_settleMends_35 rfl (lv_at hl 3 rfl) ?_
          refine lv_aload_n hx hb dX0_settleMends_36 rfl (lv_at hl 0 rfl) ?_
          obtain ⟨v55_0, v55_1, v55_2, v55_3, v55_4, v55_5, hM55, h55_0, h55_1⟩ := hW.open_8 hb_54
          refine pg_get (D := D) (ci := 8) (v := .int v55_2) (C := RX8) (T := TX8) (N := 6) hx hb hg inG8 hown hK hP hb_54.1 hM55 rfl 2 (by decide) (hg _ wd_228) (fun _ h9 => h9) rfl dX0_settleMends_37 ?_
          have hPc : va_P D vwCl ([] ++ va_pl L M_25m) H_23 := hP
          have hDc : va_D A ([] ++ va_pl L M_25m) := hD
          have hFc : ∀ q, va_A ([] ++ va_pl L M_25m) H_23.size q → A q := pg_free hDc hS hA
          refine va_callq (va_runV (As := [.int v55_2]) (rest := []) ⟨hx, hb, hml, hown, hg⟩ (s_X2_ruleOn l D cy K L M_25m H_23.size k1 v55_2  hW i_35) (cwV 1 hg (gV wd_250 wd_132 wd_133 wd_57 wd_134) rfl rfl rfl (by decide +kernel) ⟨(Nat.le_trans (Nat.le_of_ble_eq_true rfl) hRf), (Nat.le_trans (Nat.le_of_ble_eq_true rfl) hRl)⟩) ⟨PG.blind, pg_recv hK hP i_35.1 hM_30 rfl, fun U hU hW => ⟨rfl, PG.at hPc hK hDc hN hU hW⟩⟩ rfl rfl hl.1 rfl (lv_room (Nat.le_of_ble_eq_true rfl)) dX0_settleMends_40 ⟨by omega, by omega⟩) hS (fun q _ h => hFc q h) hFc (fun r_57 M_58 t H_56 locs ht hvm hw hB hz1 hk1 hS => ?_)
          have hp_59 := hw
          obtain ⟨hP1, hD1⟩ := hB
          rw [ht] at hP1
          have hP : va_P D vwCl ([] ++ va_pl L M_25m) H_56 := hP1
          have hD : va_D A ([] ++ va_pl L M_25m) := hD1.mono hFc
          rcases r_57 with _ | b_60
          · have hz := rfl (a := 0)
            refine lv_astoreN (lv' := [(4, .null), (3, .ref b_53), (2, .int (nI v2w4)), (0, .ref oa), (1, .ref k1)]) hx hb dX0_settleMends_43 hl (by decide) rfl (fun ls hl => ?_)
            refine lv_aload_n hx hb dX0_settleMends_45 rfl (lv_at hl 1 rfl) ?_
            refine lv_ifnull hx hb dX0_settleMends_46 ?_
            refine lv_aloadN hx hb dX0_settleMends_49 (lv_at hl 0 rfl) ?_
            refine lv_ifnonnullN hx hb dX0_settleMends_51 ?_
            refine lv_goto (tgt := 111) hx hb dX0_settleMends_54 (by decide) ?_
            refine lv_iinc (v := (nI (v2w4 + 1))) (lv' := [(2, .int (nI (v2w4 + 1))), (4, .null), (3, .ref b_53), (0, .ref oa), (1, .ref k1)]) hx hb dX0_settleMends_111 hl (k := 2) rfl (nI_1 v2w4) (by decide) rfl (fun ls hl => ?_)
            refine lv_goto (tgt := 2) hx hb dX0_settleMends_114 (by decide) ?_
            refine W.widen (k := 3 * (gw4 + 1)) (n := 18 * (gw4 + 1)) (by omega) (by omega) ?_
            exact ih_2 (v2w4 + 1) (gw4 + 1) K L M_25m H_56 _ _ (by omega) (by omega) (by omega) hM_27 i_34 i_35 i_36 i_37 i_38 hb_33 hX0 hNW hW hF hOT hT9 hP hD hS (lv_sub hl [0, 3, 4] rfl)
          · have hb_61 := hp_59 b_60 rfl
            refine lv_astore (lv' := [(4, .ref b_60), (3, .ref b_53), (2, .int (nI v2w4)), (0, .ref oa), (1, .ref k1)]) hx hb dX0_settleMends_43 hl (by decide) rfl (fun ls hl => ?_)
            refine lv_aload_n hx hb dX0_settleMends_45 rfl (lv_at hl 1 rfl) ?_
            refine lv_ifnull hx hb dX0_settleMends_46 ?_
            refine lv_aload hx hb dX0_settleMends_49 (lv_at hl 0 rfl) ?_
            refine lv_ifnonnull (tgt := 57) hx hb dX0_settleMends_51 (by decide) ?_
            refine lv_aload_n hx hb dX0_settleMends_57 rfl (lv_at hl 1 rfl) ?_
            refine lv_aload_n hx hb dX0_settleMends_58 rfl (lv_at hl 4 rfl) ?_
            have hPc : va_P D vwCl ([] ++ va_pl L M_25m) H_56 := hP
            have hDc : va_D A ([] ++ va_pl L M_25m) := hD
            have hFc : ∀ q, va_A ([] ++ va_pl L M_25m) H_56.size q → A q := pg_free hDc hS hA
            refine va_callv (va_runV (As := [.ref k1]) (rest := []) ⟨hx, hb, hml, hown, hg⟩ (s_X8_seatAll l D cy K L M_25m H_56.size b_53 k1  hW hb_54 i_35) (cwV 1 hg (gV wd_251 wd_252 wd_253 wd_193 wd_254) rfl rfl rfl (by decide +kernel) ⟨(Nat.le_trans (Nat.le_of_ble_eq_true rfl) hRf), (Nat.le_trans (Nat.le_of_ble_eq_true rfl) hRl)⟩) ⟨PG.blind, pg_recv hK hP hb_54.1 hM55 rfl, fun U hU hW => ⟨rfl, PG.at hPc hK hDc hN hU hW⟩⟩ rfl rfl hl.1 rfl (lv_room (Nat.le_of_ble_eq_true rfl)) dX0_settleMends_59 ⟨by omega, by omega⟩) hS (fun q _ h => hFc q h) hFc (fun M_64 t H_62 locs ht hvm hw hB hz1 hk1 hS => ?_)
            obtain ⟨hW, hF2, hp_65⟩ := hw
            obtain ⟨hP1, hD1⟩ := hB
            rw [ht] at hP1
            have hP : va_P D vwCl ([] ++ va_pl L M_64) H_62 := hP1
            have hD : va_D A ([] ++ va_pl L M_64) := hD1.mono hFc
            have hM_66 : M_64 k1 = (b2_2 v16_0 v16_1 v16_2 v16_3 (nI v16_4) (nI v16_5) v16_6 v16_7 v16_8 (nI v16_9) v16_10 (nI v16_11) v16_12 v16_13 v16_14 v16_15 v16_16 v16_17 v16_18 v16_19) := (hF2.at i_35 (by decide)).trans hM_30
            have hM_67 : M_64 v16_17 = (b1_4 v17_0 v17_1 v17_2 (nI v17_3)) := (hF2.at i_47 (by decide)).trans hM_31
            have hM_68 : M_64 v17_1 = .inl (cy 14, n17, .inl (f21)) := (hF2.at i_51 (by decide)).trans hM_32
            have hM_69 : M_64 oa = (b0_7 y0 y1 y2 (nI (gw4 + 1)) y4) := (hF2.at i_34 (by decide)).trans hM_27
            have hM_70 : M_64 b_53 = (b8_11 v55_0 v55_1 v55_2 v55_3 v55_4 v55_5) := (hF2.at hb_54 (by decide)).trans hM55
            have hOT : OTH K0 L0 oa M0 M_64 := hOT.tr hX0 hF2 (by decide)
            have hF : fr K0 L0 [0, 7, 8, 9, 21, 64, 65, 68, 69, 70, 71, 72] M0 M_64 := hF.trX hX0 hF2 (by decide)
            have hT9 : fT 9 K0 L0 [11] M0 M_64 := hT9.frrX hX0 hF2 (by decide)
            refine lv_aload_n hx hb dX0_settleMends_62 rfl (lv_at hl 1 rfl) ?_
            refine lv_aload_n hx hb dX0_settleMends_63 rfl (lv_at hl 4 rfl) ?_
            refine pg_get (D := D) (ci := 2) (v := .ref v16_17) (C := RX2) (T := TX2) (N := 20) hx hb hg inG2 hown hK hP i_35.1 hM_66 rfl 17 (by decide) (hg _ wd_640) (fun _ h9 => h9) rfl dX0_settleMends_64 ?_
            refine pg_get (D := D) (ci := 1) (v := .ref v17_2) (C := RX1) (T := TX1) (N := 4) hx hb hg inG1 hown hK hP i_47.1 hM_67 rfl 2 (by decide) (hg _ wd_230) (fun _ h9 => h9) rfl dX0_settleMends_67 ?_
            refine lv_iload_n hx hb dX0_settleMends_70 rfl (lv_at hl 2 rfl) ?_
            obtain ⟨f71, hM71⟩ := hW.open_57 i_52
            refine pg_iald hx hb hK hP i_52.1 0 hM71 rfl (inbN v2w4 n17 (by omega) (by omega)) dX0_settleMends_71 ?_
            refine lv_topi (fun f_72 ef_72 => ?_)
            refine lv_i2l hx hb dX0_settleMends_72 rfl ?_
            refine lv_topl (fun f_73 ef_73 => ?_)
            refine pg_put (D := D) (ci := 8) (v := .long f_73) (ty := .long) (C := RX8) (T := TX8) (N := 6) hx hb hg inG8 tyX8 tyX8_ok nmX8 hown hK hP hD hS hb_54.1 hM_70 rfl 4 (by decide) (hg _ wd_255) (fun _ h9 => h9) rfl (by decide +kernel) rfl rfl (Nat.le_of_ble_eq_true rfl) dX0_settleMends_73 (fun H_74 locs hP hD hS => ?_)
            obtain ⟨M_75, eM_75⟩ : ∃ M1 : Hp, M1 = va_up M_64 b_53 ((b8_11 v55_0 v55_1 v55_2 v55_3 f_73 v55_5)) := ⟨_, rfl⟩
            have hP : va_P D vwCl ([] ++ va_pl L M_75) H_74 := by rw [eM_75]; exact hP
            have hD : va_D A ([] ++ va_pl L M_75) := by rw [eM_75]; exact hD
            have hW : WOK cy K L M_75 := by rw [eM_75]; exact hW.up_8 hb_54 ⟨v55_0, v55_1, v55_2, v55_3, f_73, v55_5, rfl, h55_0, h55_1⟩
            have hF : fr K0 L0 [0, 7, 8, 9, 21, 64, 65, 68, 69, 70, 71, 72] M0 M_75 := by rw [eM_75]; exact hF.upX hX0 hb_54 (by decide)
            have hOT : OTH K0 L0 oa M0 M_75 := by rw [eM_75]; exact hOT.upX hX0 hb_54 (by decide)
            have hT9 : fT 9 K0 L0 [11] M0 M_75 := by rw [eM_75]; exact hT9.neX hX0 hb_54 (by decide)
            have hM_76 : M_75 b_53 = (b8_11 v55_0 v55_1 v55_2 v55_3 f_73 v55_5) := by rw [eM_75]; exact va_up_self _ _ _
            have hM_77 : M_75 k1 = (b2_2 v16_0 v16_1 v16_2 v16_3 (nI v16_4) (nI v16_5) v16_6 v16_7 v16_8 (nI v16_9) v16_10 (nI v16_11) v16_12 v16_13 v16_14 v16_15 v16_16 v16_17 v16_18 v16_19) := by rw [eM_75, va_up_ne _ _ (i_35.neT hb_54 (by decide))]; exact hM_66
            have hM_78 : M_75 v16_17 = (b1_4 v17_0 v17_1 v17_2 (nI v17_3)) := by rw [eM_75, va_up_ne _ _ (i_47.neT hb_54 (by decide))]; exact hM_67
            have hM_79 : M_75 v17_1 = .inl (cy 14, n17, .inl (f21)) := by rw [eM_75, va_up_ne _ _ (i_51.neT hb_54 (by decide))]; exact hM_68
            have hM_80 : M_75 oa = (b0_7 y0 y1 y2 (nI (gw4 + 1)) y4) := by rw [eM_75, va_up_ne _ _ (i_34.neT hb_54 (by decide))]; exact hM_69
            have hM_81 : M_75 v17_2 = .inl (cy 14, n17, .inl (f71)) := by rw [eM_75, va_up_ne _ _ (i_52.neT hb_54 (by decide))]; exact hM71
            refine lv_aload_n hx hb dX0_settleMends_76 rfl (lv_at hl 1 rfl) ?_
            refine pg_get (D := D) (ci := 8) (v := .long f_73) (C := RX8) (T := TX8) (N := 6) hx hb hg inG8 hown hK hP hb_54.1 hM_76 rfl 4 (by decide) (hg _ wd_255) (fun _ h9 => h9) rfl dX0_settleMends_77 ?_
            refine lv_lconst (v := 0) hx hb dX0_settleMends_80 (by decide) ?_
            refine W.lcmp hx hb dX0_settleMends_81 ?_
            refine lv_if_le (tgt := 99) hx hb dX0_settleMends_82 (by decide) (fun c_82 => ?_) (fun c_82 => ?_)
            · have hz := rfl (a := 0)
              have d_83 : f_73 ≤ 0 := lc_let c_82
              refine lv_aload_n hx hb dX0_settleMends_99 rfl (lv_at hl 3 rfl) ?_
              refine lv_aload_n hx hb dX0_settleMends_100 rfl (lv_at hl 1 rfl) ?_
              refine lv_aload hx hb dX0_settleMends_101 (lv_at hl 0 rfl) ?_
              refine lv_aload_n hx hb dX0_settleMends_103 rfl (lv_at hl 1 rfl) ?_
              refine pg_get (D := D) (ci := 8) (v := .long f_73) (C := RX8) (T := TX8) (N := 6) hx hb hg inG8 hown hK hP hb_54.1 hM_76 rfl 4 (by decide) (hg _ wd_255) (fun _ h9 => h9) rfl dX0_settleMends_104 ?_
              refine lv_lneg hx hb dX0_settleMends_107 ?_
              refine lv_topl (fun f_84 ef_84 => ?_)
              have hPc : va_P D vwCl ([] ++ va_pl L M_75) H_74 := hP
              have hDc : va_D A ([] ++ va_pl L M_75) := hD
              have hFc : ∀ q, va_A ([] ++ va_pl L M_75) H_74.size q → A q := pg_free hDc hS hA
              refine va_callv (va_runV (As := [.ref b_53, .ref b_60, .long f_84]) (rest := []) ⟨hx, hb, hml, hown, hg⟩ (s_X0_shareLack l D cy K L M_75 H_74.size oa b_53 b_60 f_84  hW i_34 hb_54 hb_61) (cwV 3 hg (gV wd_264 wd_265 wd_266 wd_204 wd_267) rfl rfl rfl (by decide +kernel) ⟨(Nat.le_trans (Nat.le_of_ble_eq_true rfl) hRf), (Nat.le_trans (Nat.le_of_ble_eq_true rfl) hRl)⟩) ⟨PG.blind, pg_recv hK hP i_34.1 hM_80 rfl, fun U hU hW => ⟨rfl, PG.at hPc hK hDc hN hU hW⟩⟩ rfl rfl hl.1 rfl (lv_room (Nat.le_of_ble_eq_true rfl)) dX0_settleMends_108 ⟨by omega, by omega⟩) hS (fun q _ h => hFc q h) hFc (fun M_87 t H_85 locs ht hvm hw hB hz1 hk1 hS => ?_)
              obtain ⟨hW, hF2, gT9, hp_88⟩ := hw
              obtain ⟨hP1, hD1⟩ := hB
              rw [ht] at hP1
              have hP : va_P D vwCl ([] ++ va_pl L M_87) H_85 := hP1
              have hD : va_D A ([] ++ va_pl L M_87) := hD1.mono hFc
              have hM_89 : M_87 k1 = (b2_2 v16_0 v16_1 v16_2 v16_3 (nI v16_4) (nI v16_5) v16_6 v16_7 v16_8 (nI v16_9) v16_10 (nI v16_11) v16_12 v16_13 v16_14 v16_15 v16_16 v16_17 v16_18 v16_19) := (hF2.at i_35 (by decide)).trans hM_77
              have hM_90 : M_87 v16_17 = (b1_4 v17_0 v17_1 v17_2 (nI v17_3)) := (hF2.at i_47 (by decide)).trans hM_78
              have hM_91 : M_87 v17_1 = .inl (cy 14, n17, .inl (f21)) := (hF2.at i_51 (by decide)).trans hM_79
              have hM_92 : M_87 oa = (b0_7 y0 y1 y2 (nI (gw4 + 1)) y4) := (hF2.at i_34 (by decide)).trans hM_80
              have hM_93 : M_87 v17_2 = .inl (cy 14, n17, .inl (f71)) := (hF2.at i_52 (by decide)).trans hM_81
              have hOT : OTH K0 L0 oa M0 M_87 := hOT.tr hX0 hF2 (by decide)
              have hF : fr K0 L0 [0, 7, 8, 9, 21, 64, 65, 68, 69, 70, 71, 72] M0 M_87 := hF.trX hX0 hF2 (by decide)
              have hT9 : fT 9 K0 L0 [11] M0 M_87 := hT9.trX hX0 gT9 (by decide)
              refine lv_iinc (v := (nI (v2w4 + 1))) (lv' := [(2, .int (nI (v2w4 + 1))), (4, .ref b_60), (3, .ref b_53), (0, .ref oa), (1, .ref k1)]) hx hb dX0_settleMends_111 hl (k := 2) rfl (nI_1 v2w4) (by decide) rfl (fun ls hl => ?_)
              refine lv_goto (tgt := 2) hx hb dX0_settleMends_114 (by decide) ?_
              refine W.widen (k := 3 * (gw4 + 1)) (n := 18 * (gw4 + 1)) (by omega) (by omega) ?_
              exact ih_2 (v2w4 + 1) (gw4 + 1) K L M_87 H_85 _ _ (by omega) (by omega) (by omega) hM_92 i_34 i_35 i_36 i_37 i_38 hb_33 hX0 hNW hW hF hOT hT9 hP hD hS (lv_sub hl [0, 3, 4] rfl)
            · have hz := rfl (a := 0)
              have d_83 : ¬ f_73 ≤ 0 := lc_lef c_82
              refine lv_aload_n hx hb dX0_settleMends_85 rfl (lv_at hl 3 rfl) ?_
              refine lv_aload_n hx hb dX0_settleMends_86 rfl (lv_at hl 1 rfl) ?_
              refine lv_aload hx hb dX0_settleMends_87 (lv_at hl 0 rfl) ?_
              refine lv_aload_n hx hb dX0_settleMends_89 rfl (lv_at hl 1 rfl) ?_
              refine pg_get (D := D) (ci := 8) (v := .long f_73) (C := RX8) (T := TX8) (N := 6) hx hb hg inG8 hown hK hP hb_54.1 hM_76 rfl 4 (by decide) (hg _ wd_255) (fun _ h9 => h9) rfl dX0_settleMends_90 ?_
              have hPc : va_P D vwCl ([] ++ va_pl L M_75) H_74 := hP
              have hDc : va_D A ([] ++ va_pl L M_75) := hD
              have hFc : ∀ q, va_A ([] ++ va_pl L M_75) H_74.size q → A q := pg_free hDc hS hA
              refine va_callv (va_runV (As := [.ref b_53, .ref b_60, .long f_73]) (rest := []) ⟨hx, hb, hml, hown, hg⟩ (s_X0_shareGain l D cy K L M_75 H_74.size oa b_53 b_60 f_73  hW i_34 hb_54 hb_61) (cwV 3 hg (gV wd_272 wd_273 wd_274 wd_204 wd_275) rfl rfl rfl (by decide +kernel) ⟨(Nat.le_trans (Nat.le_of_ble_eq_true rfl) hRf), (Nat.le_trans (Nat.le_of_ble_eq_true rfl) hRl)⟩) ⟨PG.blind, pg_recv hK hP i_34.1 hM_80 rfl, fun U hU hW => ⟨rfl, PG.at hPc hK hDc hN hU hW⟩⟩ rfl rfl hl.1 rfl (lv_room (Nat.le_of_ble_eq_true rfl)) dX0_settleMends_93 ⟨by omega, by omega⟩) hS (fun q _ h => hFc q h) hFc (fun M_96 t H_94 locs ht hvm hw hB hz1 hk1 hS => ?_)
              obtain ⟨hW, hF2, hp_97⟩ := hw
              obtain ⟨hP1, hD1⟩ := hB
              rw [ht] at hP1
              have hP : va_P D vwCl ([] ++ va_pl L M_96) H_94 := hP1
              have hD : va_D A ([] ++ va_pl L M_96) := hD1.mono hFc
              have hM_98 : M_96 k1 = (b2_2 v16_0 v16_1 v16_2 v16_3 (nI v16_4) (nI v16_5) v16_6 v16_7 v16_8 (nI v16_9) v16_10 (nI v16_11) v16_12 v16_13 v16_14 v16_15 v16_16 v16_17 v16_18 v16_19) := (hF2.at i_35 (by decide)).trans hM_77
              have hM_99 : M_96 v16_17 = (b1_4 v17_0 v17_1 v17_2 (nI v17_3)) := (hF2.at i_47 (by decide)).trans hM_78
              have hM_100 : M_96 v17_1 = .inl (cy 14, n17, .inl (f21)) := (hF2.at i_51 (by decide)).trans hM_79
              have hM_101 : M_96 oa = (b0_7 y0 y1 y2 (nI (gw4 + 1)) y4) := (hF2.at i_34 (by decide)).trans hM_80
              have hM_102 : M_96 v17_2 = .inl (cy 14, n17, .inl (f71)) := (hF2.at i_52 (by decide)).trans hM_81
              have hOT : OTH K0 L0 oa M0 M_96 := hOT.tr hX0 hF2 (by decide)
              have hF : fr K0 L0 [0, 7, 8, 9, 21, 64, 65, 68, 69, 70, 71, 72] M0 M_96 := hF.trX hX0 hF2 (by decide)
              have hT9 : fT 9 K0 L0 [11] M0 M_96 := hT9.frrX hX0 hF2 (by decide)
              refine lv_goto (tgt := 111) hx hb dX0_settleMends_96 (by decide) ?_
              refine lv_iinc (v := (nI (v2w4 + 1))) (lv' := [(2, .int (nI (v2w4 + 1))), (4, .ref b_60), (3, .ref b_53), (0, .ref oa), (1, .ref k1)]) hx hb dX0_settleMends_111 hl (k := 2) rfl (nI_1 v2w4) (by decide) rfl (fun ls hl => ?_)
              refine lv_goto (tgt := 2) hx hb dX0_settleMends_114 (by decide) ?_
              refine W.widen (k := 3 * (gw4 + 1)) (n := 18 * (gw4 + 1)) (by omega) (by omega) ?_
              exact ih_2 (v2w4 + 1) (gw4 + 1) K L M_96 H_94 _ _ (by omega) (by omega) (by omega) hM_101 i_34 i_35 i_36 i_37 i_38 hb_33 hX0 hNW hW hF hOT hT9 hP hD hS (lv_sub hl [0, 3, 4] rfl)
  refine W.widen (k := 3 * y3) (n := 18 * y3) (by omega) (by omega) ?_
  exact key_1 (120 - 0 + 1) 0 y3 K L M s.heap _ _ (by omega) (by omega) (by omega) hMy ia ik1 hy0 hy1 hy2 hy3 hX0 hNW hW hF hOT hT9 hP hD hS (lv_sub hl [0, 1, 2] rfl)
