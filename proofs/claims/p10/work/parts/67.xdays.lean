theorem lk_mo {M : Hp} {b i t : Nat} (h : RFc (M (rA 1 M (rA 2 M b 16) 0)) i = some t) (hi : i < 120) : cax M b 38 i = cV 9 M t 0 := by
  show vMo M b i = _
  unfold vMo
  rw [if_pos hi, h]
theorem lk_mo0 {M : Hp} {b i : Nat} (h : RFc (M (rA 1 M (rA 2 M b 16) 0)) i = none) (hi : i < 120) : cax M b 38 i = -1 := by
  show vMo M b i = _
  unfold vMo
  rw [if_pos hi, h]
/-- the moves that a close leaves: behind the day e -/
def bkF (e : Int) (x : Int32 × Int32 × Int32) : Bool := decide (e < x.2.1.toInt)
theorem bk_no {o d s p q r : Nat → Int32} {e : Int} {m n : Nat} (h : trip p q r m = (trip o d s n).filter (bkF e)) (h1 : (d n).toInt ≤ e) : trip p q r m = (trip o d s (n + 1)).filter (bkF e) := by
  rw [trip_s, List.filter_append, ← h]
  have : bkF e (o n, d n, s n) = false := by
    unfold bkF
    exact decide_eq_false (show ¬ e < (d n).toInt by omega)
  rw [List.filter_cons_of_neg (by rw [this]; decide), List.filter_nil, List.append_nil]
theorem bk_yes {o d s p q r : Nat → Int32} {e : Int} {k m n : Nat} {u v w : Int32} (h : trip p q r m = (trip o d s n).filter (bkF e)) (hk : k = m) (h1 : e < (d n).toInt) (hu : u = o n) (hv : v = d n) (hw : w = s n) : trip (upd p k u) (upd q k v) (upd r k w) (m + 1) = (trip o d s (n + 1)).filter (bkF e) := by
  have : bkF e (o n, d n, s n) = true := by
    unfold bkF
    exact decide_eq_true h1
  rw [trip_upd hk, trip_s, List.filter_append, ← h, List.filter_cons_of_pos this, List.filter_nil, hu, hv, hw]
theorem trip_len (o d s : Nat → Int32) (n : Nat) : (trip o d s n).length = n := by
  unfold trip
  rw [List.length_map, List.length_range]
theorem trip_get {o d s : Nat → Int32} {n i : Nat} (hi : i < n) : (trip o d s n)[i]? = some (o i, d i, s i) := by
  unfold trip
  rw [List.getElem?_map, List.getElem?_range hi]
  rfl
theorem trip_eq {a b c a' b' c' : Nat → Int32} {n n' : Nat} (h : trip a b c n = trip a' b' c' n') : n = n' ∧ ∀ i : Nat, i < n → a i = a' i ∧ b i = b' i ∧ c i = c' i := by
  have e : n = n' := by
    have := congrArg List.length h
    rw [trip_len, trip_len] at this
    exact this
  subst e
  refine ⟨rfl, fun i hi => ?_⟩
  have g := (trip_get (o := a) (d := b) (s := c) hi).symm.trans ((congrArg (fun l => l[i]?) h).trans (trip_get (o := a') (d := b') (s := c') hi))
  have g2 := Option.some.inj g
  exact ⟨congrArg Prod.fst g2, congrArg (fun z => z.2.1) g2, congrArg (fun z => z.2.2) g2⟩
theorem trip_mem {o d s : Nat → Int32} {n : Nat} {x : Int32 × Int32 × Int32} (h : x ∈ trip o d s n) : ∃ j, j < n ∧ x = (o j, d j, s j) := by
  unfold trip at h
  obtain ⟨j, h1, h2⟩ := List.mem_map.mp h
  exact ⟨j, List.mem_range.mp h1, h2.symm⟩
theorem trip_in {p q r o d s : Nat → Int32} {m n i : Nat} {f : Int32 × Int32 × Int32 → Bool} (h : trip p q r m = (trip o d s n).filter f) (hi : i < m) : f (p i, q i, r i) = true ∧ ∃ j, j < n ∧ (p i, q i, r i) = (o j, d j, s j) := by
  have g : (p i, q i, r i) ∈ trip p q r m := List.mem_of_getElem? (trip_get hi)
  rw [h] at g
  obtain ⟨g1, g2⟩ := List.mem_filter.mp g
  exact ⟨g2, trip_mem g1⟩
/-- instalments behind a close -/
def insC (a b : Int32) : Int32 := if a.toInt = -1 ∧ 1 < b.toInt then b - 1 else b
def insE (Y : Nat → Nat → Int32) (e : Int) (i : Nat) : Int32 := if (Y 22 i).toInt ≠ -1 ∧ (Y 22 i).toInt ≤ e + 1 then insC (Y 25 i) (Y 23 i) else Y 23 i
theorem mx1 {f y a b : Int32} (e : f = if 1 < y then y else 1) (ey : y = b - 1) (ha : a.toInt = -1) (hb : 0 < b.toInt) : f = insC a b := by
  have hl := Int32.toInt_lt b
  have hy : y.toInt = b.toInt - 1 := isubI (a := b.toInt) (b := 1) rfl rfl ey (by omega) (by omega)
  unfold insC
  by_cases q : 1 < b.toInt
  · rw [if_pos ⟨ha, q⟩]
    by_cases z : 1 < y
    · rw [e, if_pos z, ey]
    · rw [e, if_neg z, ← ey]
      have h1 := Int32.le_iff_toInt_le.mp (Int32.not_lt.mp z)
      rw [show (1 : Int32).toInt = 1 from rfl] at h1
      apply Int32.toInt.inj
      rw [show (1 : Int32).toInt = 1 from rfl]
      omega
  · rw [if_neg (fun w => q w.2)]
    have z : ¬ 1 < y := fun z => by
      have h1 := Int32.lt_iff_toInt_lt.mp z
      rw [show (1 : Int32).toInt = 1 from rfl] at h1
      omega
    rw [e, if_neg z]
    apply Int32.toInt.inj
    rw [show (1 : Int32).toInt = 1 from rfl]
    omega
theorem insC_n {a b : Int32} (h : ¬ (a.toInt = -1 ∧ 1 < b.toInt)) : insC a b = b := by
  unfold insC
  rw [if_neg h]
theorem updI (f : Nat → Int32) (i : Nat) : upd f i (f i) = f := by
  funext j
  by_cases q : j = i
  · rw [q, upd_self]
  · rw [upd_ne _ _ q]
/-- a day lacks a leaf, or a place of it its entry -/
def opD (Y : Nat → Nat → Int32) (d : Nat) : Prop := (Y 2 d).toInt = -1 ∨ (Y 3 d).toInt < (Y 2 d).toInt
/-- j is the first open day behind t, or 1000 -/
def FOD (Y : Nat → Nat → Int32) (t : Int) (j : Nat) : Prop := j ≤ 1000 ∧ t < (j : Int) ∧ (∀ d : Nat, t < (d : Int) → d < j → ¬ opD Y d) ∧ (j < 1000 → opD Y j)
/-- House b, of which House k owns a part, isn't closed far enough for k's year to e -/
def LAGi (PK PT : Nat → Int32) (SX : Nat → Nat → Int) (SY : Nat → Nat → Nat → Int32) (k : Nat) (e : Int) (b i : Nat) : Prop := (i : Int) < SX b 10 ∧ (ownP PK PT (SY b 19 i)).toInt = (k : Int) ∧ (SY b 21 i).toInt ≤ e ∧ SX b 1 < e ∧ ((SY b 22 i).toInt = -1 ∨ SX b 1 < (SY b 22 i - 1).toInt)
def LAG (PK PT : Nat → Int32) (SX : Nat → Nat → Int) (SY : Nat → Nat → Nat → Int32) (k : Nat) (e : Int) (b : Nat) : Prop := ∃ i : Nat, LAGi PK PT SX SY k e b i
/-- which moves a close of the days t + 1 .. e leaves -/
def clk (t e : Int) (x : Int32 × Int32 × Int32) : Bool := !(decide (t + 1 ≤ x.2.1.toInt) && decide (x.2.1.toInt ≤ e))
/-- what close() makes of a House -/
def CLF (e : Int) (X : Nat → Int) (Y : Nat → Nat → Int32) (X' : Nat → Int) (Y' : Nat → Nat → Int32) : Prop := X' 0 = X 0 ∧ X' 1 = e ∧ X' 10 = X 10 ∧ X' 11 = X 11 ∧ X' 12 = X 12 ∧ X' 13 = X 13 + 1 ∧ X' 15 = 0 ∧ X' 16 = 0 ∧ (∃ n : Nat, X' 14 = (n : Int) ∧ trip (Y' 38) (Y' 39) (Y' 40) n = (trip (Y 38) (Y 39) (Y 40) (X 14).toNat).filter (clk (X 1) e)) ∧ (∀ j, j ≠ 23 → j ≠ 38 → j ≠ 39 → j ≠ 40 → j ≠ 44 → j ≠ 45 → Y' j = Y j) ∧ (∀ i : Nat, (i : Int) < X 10 → Y' 23 i = insE Y e i) ∧ ∀ r i, X' (lKey r i) = X (lKey r i)
/-- the last day of the first year that isn't closed -/
def enD (X : Nat → Int) (Y : Nat → Nat → Int32) : Int := (Y 37 (X 13).toNat).toInt
def okCl (n : Nat) (PK PT : Nat → Int32) (SX : Nat → Nat → Int) (SY : Nat → Nat → Nat → Int32) (h : Int32) : Prop := okH n h ∧ SX h.toNatClampNeg 13 < SX h.toNatClampNeg 12 ∧ 1 ≤ SX h.toNatClampNeg 11 ∧ (∀ d : Nat, SX h.toNatClampNeg 1 < (d : Int) → (d : Int) ≤ enD (SX h.toNatClampNeg) (SY h.toNatClampNeg) → ¬ opD (SY h.toNatClampNeg) d) ∧ ∀ b, b < n → ¬ LAG PK PT SX SY h.toNatClampNeg (enD (SX h.toNatClampNeg) (SY h.toNatClampNeg)) b
noncomputable def anCl (n : Nat) (PK PT : Nat → Int32) (SX : Nat → Nat → Int) (SY : Nat → Nat → Nat → Int32) (h : Int32) : Int32 := @ite _ (okCl n PK PT SX SY h) (Classical.propDecidable _) (nI (SX h.toNatClampNeg 13).toNat) (-1)
noncomputable def sxCl (n : Nat) (PK PT : Nat → Int32) (SX : Nat → Nat → Int) (SY : Nat → Nat → Nat → Int32) (h : Int32) (X : Nat → Int) : Nat → Nat → Int := @ite _ (okCl n PK PT SX SY h) (Classical.propDecidable _) (va_up SX h.toNatClampNeg X) SX
noncomputable def syCl (n : Nat) (PK PT : Nat → Int32) (SX : Nat → Nat → Int) (SY : Nat → Nat → Nat → Int32) (h : Int32) (Y : Nat → Nat → Int32) : Nat → Nat → Nat → Int32 := @ite _ (okCl n PK PT SX SY h) (Classical.propDecidable _) (va_up SY h.toNatClampNeg Y) SY
/-- what where() tells behind a close -/
def prCl (n : Nat) (SX : Nat → Nat → Int) (h : Int32) : Prop := okH n h ∧ SX h.toNatClampNeg 13 < SX h.toNatClampNeg 12 ∧ 1 ≤ SX h.toNatClampNeg 11
def noOp (SX : Nat → Nat → Int) (SY : Nat → Nat → Nat → Int32) (h : Int32) : Prop := ∀ d : Nat, SX h.toNatClampNeg 1 < (d : Int) → (d : Int) ≤ enD (SX h.toNatClampNeg) (SY h.toNatClampNeg) → ¬ opD (SY h.toNatClampNeg) d
def whOp (SX : Nat → Nat → Int) (SY : Nat → Nat → Nat → Int32) (h : Int32) (j : Nat) : Prop := SX h.toNatClampNeg 1 < (j : Int) ∧ (j : Int) ≤ enD (SX h.toNatClampNeg) (SY h.toNatClampNeg) ∧ opD (SY h.toNatClampNeg) j ∧ ∀ d : Nat, SX h.toNatClampNeg 1 < (d : Int) → d < j → ¬ opD (SY h.toNatClampNeg) d
def whLg (n : Nat) (PK PT : Nat → Int32) (SX : Nat → Nat → Int) (SY : Nat → Nat → Nat → Int32) (h : Int32) (b : Nat) : Prop := b < n ∧ LAG PK PT SX SY h.toNatClampNeg (enD (SX h.toNatClampNeg) (SY h.toNatClampNeg)) b ∧ ∀ c : Nat, c < b → ¬ LAG PK PT SX SY h.toNatClampNeg (enD (SX h.toNatClampNeg) (SY h.toNatClampNeg)) c
def WHR (n : Nat) (PK PT : Nat → Int32) (SX : Nat → Nat → Int) (SY : Nat → Nat → Nat → Int32) (h w : Int32) : Prop := (okCl n PK PT SX SY h ∧ w = -1) ∨ (¬ prCl n SX h ∧ w = -1) ∨ (prCl n SX h ∧ ∃ j : Nat, w = nI j ∧ whOp SX SY h j) ∨ (prCl n SX h ∧ noOp SX SY h ∧ ∃ b : Nat, w = nI b ∧ whLg n PK PT SX SY h b)
theorem WHR.un {n : Nat} {PK PT : Nat → Int32} {SX : Nat → Nat → Int} {SY : Nat → Nat → Nat → Int32} {h w v : Int32} (a : WHR n PK PT SX SY h w) (b : WHR n PK PT SX SY h v) : w = v := by
  have k1 : okCl n PK PT SX SY h → ∀ j, ¬ whOp SX SY h j := fun p j q => p.2.2.2.1 j q.1 q.2.1 q.2.2.1
  have k2 : okCl n PK PT SX SY h → ∀ j, ¬ whLg n PK PT SX SY h j := fun p j q => p.2.2.2.2 j q.1 q.2.1
  have k3 : noOp SX SY h → ∀ j, ¬ whOp SX SY h j := fun p j q => p j q.1 q.2.1 q.2.2.1
  have k4 : ∀ i j, whOp SX SY h i → whOp SX SY h j → i = j := fun i j p q => by
    rcases Nat.lt_trichotomy i j with z | z | z
    · exact absurd p.2.2.1 (q.2.2.2 i p.1 z)
    · exact z
    · exact absurd q.2.2.1 (p.2.2.2 j q.1 z)
  have k5 : ∀ i j, whLg n PK PT SX SY h i → whLg n PK PT SX SY h j → i = j := fun i j p q => by
    rcases Nat.lt_trichotomy i j with z | z | z
    · exact absurd p.2.1 (q.2.2 i z)
    · exact z
    · exact absurd q.2.1 (p.2.2 j z)
  rcases a with ⟨a1, a2⟩ | ⟨a1, a2⟩ | ⟨a1, i, a2, a3⟩ | ⟨a1, a0, i, a2, a3⟩ <;> rcases b with ⟨b1, b2⟩ | ⟨b1, b2⟩ | ⟨b1, j, b2, b3⟩ | ⟨b1, b0, j, b2, b3⟩
  · rw [a2, b2]
  · rw [a2, b2]
  · exact absurd b3 (k1 a1 j)
  · exact absurd b3 (k2 a1 j)
  · rw [a2, b2]
  · rw [a2, b2]
  · exact absurd b1 a1
  · exact absurd b1 a1
  · exact absurd a3 (k1 b1 i)
  · exact absurd a1 b1
  · rw [a2, b2, k4 i j a3 b3]
  · exact absurd a3 (k3 b0 i)
  · exact absurd a3 (k2 b1 i)
  · exact absurd a1 b1
  · exact absurd b3 (k3 a0 j)
  · rw [a2, b2, k5 i j a3 b3]
theorem WHR.ok {n : Nat} {PK PT : Nat → Int32} {SX : Nat → Nat → Int} {SY : Nat → Nat → Nat → Int32} {h : Int32} (a : okCl n PK PT SX SY h) : WHR n PK PT SX SY h (-1) := Or.inl ⟨a, rfl⟩
theorem WHR.np {n : Nat} {PK PT : Nat → Int32} {SX : Nat → Nat → Int} {SY : Nat → Nat → Nat → Int32} {h : Int32} (a : ¬ prCl n SX h) : WHR n PK PT SX SY h (-1) := Or.inr (Or.inl ⟨a, rfl⟩)
theorem WHR.op {n j : Nat} {PK PT : Nat → Int32} {SX : Nat → Nat → Int} {SY : Nat → Nat → Nat → Int32} {h : Int32} (a : prCl n SX h) (b : whOp SX SY h j) : WHR n PK PT SX SY h (nI j) := Or.inr (Or.inr (Or.inl ⟨a, j, rfl, b⟩))
theorem WHR.lg {n j : Nat} {PK PT : Nat → Int32} {SX : Nat → Nat → Int} {SY : Nat → Nat → Nat → Int32} {h : Int32} (a : prCl n SX h) (c : noOp SX SY h) (b : whLg n PK PT SX SY h j) : WHR n PK PT SX SY h (nI j) := Or.inr (Or.inr (Or.inr ⟨a, c, j, rfl, b⟩))
theorem SIM.close {k : Nat} {T : Int} {np : Nat} {PK PT : Nat → Int32} {x x' X X' : Nat → Int} {y y' Y Y' : Nat → Nat → Int32} {n9 : Nat} {g9 : Nat → Int32} {e : Int} (h : SIM k T np PK PT x y X Y) (hT : 0 ≤ T) (hc : CLF e X Y X' Y') (e0 : x' 0 = x 0) (e1 : x' 1 = e) (e10 : x' 10 = x 10) (e11 : x' 11 = x 11) (e12 : x' 12 = x 12) (e13 : x' 13 = x 13 + 1) (e14 : x' 14 = (n9 : Int)) (e15 : x' 15 = 0) (e16 : x' 16 = 0) (e18 : x' 18 = x 18) (e19 : x' 19 = 0) (e20 : x' 20 = x 20) (el : ∀ i, x' (lKey 3 i) = x (lKey 3 i)) (ey : ∀ j, j ≠ 23 → j ≠ 38 → j ≠ 39 → j ≠ 40 → y' j = y j) (e23 : y' 23 = g9) (ht : trip (y' 38) (y' 39) (y' 40) n9 = (trip (y 38) (y 39) (y 40) (x 14).toNat).filter (bkF e)) (hg : ∀ i : Nat, (i : Int) < x 10 → g9 i = insE y e i) : SIM k (T + 1) np PK PT x' y' X' Y' := by
  obtain ⟨c0, c1, c10, c11, c12, c13, c15, c16, ⟨n, c14, ct⟩, cy, cg, cl⟩ := hc
  have ya : ∀ j, j ≠ 23 → j ≠ 38 → j ≠ 39 → j ≠ 40 → j ≠ 44 → j ≠ 45 → y' j = y j ∧ Y' j = Y j := fun j a b c d f g => ⟨ey j a b c d, cy j a b c d f g⟩
  have a2 := ya 2 (by decide) (by decide) (by decide) (by decide) (by decide) (by decide)
  have a3 := ya 3 (by decide) (by decide) (by decide) (by decide) (by decide) (by decide)
  have a4 := ya 4 (by decide) (by decide) (by decide) (by decide) (by decide) (by decide)
  have a9 := ya 9 (by decide) (by decide) (by decide) (by decide) (by decide) (by decide)
  have a19 := ya 19 (by decide) (by decide) (by decide) (by decide) (by decide) (by decide)
  have a20 := ya 20 (by decide) (by decide) (by decide) (by decide) (by decide) (by decide)
  have a21 := ya 21 (by decide) (by decide) (by decide) (by decide) (by decide) (by decide)
  have a22 := ya 22 (by decide) (by decide) (by decide) (by decide) (by decide) (by decide)
  have a24 := ya 24 (by decide) (by decide) (by decide) (by decide) (by decide) (by decide)
  have a25 := ya 25 (by decide) (by decide) (by decide) (by decide) (by decide) (by decide)
  have a27 := ya 27 (by decide) (by decide) (by decide) (by decide) (by decide) (by decide)
  have a28 := ya 28 (by decide) (by decide) (by decide) (by decide) (by decide) (by decide)
  have a33 := ya 33 (by decide) (by decide) (by decide) (by decide) (by decide) (by decide)
  have a34 := ya 34 (by decide) (by decide) (by decide) (by decide) (by decide) (by decide)
  have a35 := ya 35 (by decide) (by decide) (by decide) (by decide) (by decide) (by decide)
  have a36 := ya 36 (by decide) (by decide) (by decide) (by decide) (by decide) (by decide)
  have a37 := ya 37 (by decide) (by decide) (by decide) (by decide) (by decide) (by decide)
  have a50 := ya 50 (by decide) (by decide) (by decide) (by decide) (by decide) (by decide)
  have a51 := ya 51 (by decide) (by decide) (by decide) (by decide) (by decide) (by decide)
  have hx14 := h.x14
  have hl : trip (y 38) (y 39) (y 40) (x 14).toNat = trip (Y 38) (Y 39) (Y 40) (X 14).toNat := by
    rw [hx14]
    exact trip_congr (fun i hi => by
      have g := h.mo i (by omega)
      exact ⟨g.1, g.2.1, g.2.2.1⟩)
  have hf : (trip (Y 38) (Y 39) (Y 40) (X 14).toNat).filter (bkF e) = (trip (Y 38) (Y 39) (Y 40) (X 14).toNat).filter (clk (X 1) e) := List.filter_congr (fun z hz => by
    obtain ⟨j, hj, ez⟩ := trip_mem hz
    have g := h.mo j (by omega)
    rw [g.2.1] at g
    have g1 := g.2.2.2.2
    rw [ez]
    unfold bkF clk
    show decide (e < (Y 39 j).toInt) = !(decide (X 1 + 1 ≤ (Y 39 j).toInt) && decide ((Y 39 j).toInt ≤ e))
    rw [decide_eq_true (show X 1 + 1 ≤ (Y 39 j).toInt by omega), Bool.true_and]
    by_cases q : e < (Y 39 j).toInt
    · rw [decide_eq_true q, decide_eq_false (show ¬ (Y 39 j).toInt ≤ e by omega)]
      rfl
    · rw [decide_eq_false q, decide_eq_true (show (Y 39 j).toInt ≤ e by omega)]
      rfl)
  have hq : trip (y' 38) (y' 39) (y' 40) n9 = trip (Y' 38) (Y' 39) (Y' 40) n := by rw [ht, hl, hf, ct]
  obtain ⟨en, hi9⟩ := trip_eq hq
  refine ⟨by rw [e0, c0]; exact h.x0, by rw [e1, c1], by rw [e10, c10]; exact h.x10, by rw [e11, c11]; exact h.x11, by rw [e12, c12]; exact h.x12, by rw [e13, c13, h.x13], by rw [e14, c14, en], by rw [e15, c15], by rw [e16, c16], by rw [e20]; exact h.x20, ?_, ?_, ?_, ?_, ?_, ?_, ?_, ?_, ?_, ?_, ?_, ?_, ⟨?_, ?_, ?_, ?_, ?_, ?_⟩⟩
  · rw [a2.1, a2.2, a3.1, a3.2, a4.1, a4.2]
    exact h.pl
  · rw [c10, a19.1, a19.2, a20.1, a20.2, a21.1, a21.2, a22.1, a22.2, a24.1, a24.2, a25.1, a25.2, a27.1, e23]
    intro i hi
    have g := h.te i hi
    refine ⟨g.1, g.2.1, g.2.2.1, g.2.2.2.1, ?_, g.2.2.2.2.2.1, g.2.2.2.2.2.2.1, g.2.2.2.2.2.2.2⟩
    rw [hg i (by rw [h.x10]; exact hi), cg i hi]
    unfold insE
    rw [g.2.2.2.1, g.2.2.2.2.1, g.2.2.2.2.2.2.1]
  · rw [c10, a28.1]
    exact h.tn
  · rw [c10, a9.2, a50.1, a51.1]
    exact h.se
  · rw [c11, a33.1, a34.1, a34.2, a35.1, a35.2, a36.1, a36.2]
    exact h.ru
  · rw [c12, a37.1, a37.2]
    exact h.en
  · intro i hi
    rw [c14] at hi
    have g := hi9 i (by omega)
    obtain ⟨m1, j, hj, m2⟩ := trip_in ht (show i < n9 by omega)
    have k1 : y' 38 i = y 38 j := congrArg Prod.fst m2
    have k2 := of_decide_eq_true m1
    refine ⟨g.1, g.2.1, g.2.2, ?_, ?_⟩
    · rw [k1]
      exact (h.mo j (by omega)).2.2.2.1
    · rw [c1]
      exact k2
  · intro i hi
    rw [c15] at hi
    omega
  · rw [e16, e19, c16]
    exact ⟨by omega, by omega, fun i hi => by omega⟩
  · rw [c10, a19.2, e18]
    exact h.ow
  · rw [e18]
    exact h.ob
  · rw [c10, a19.2]
    exact h.wh
  · have a26 := ya 26 (by decide) (by decide) (by decide) (by decide) (by decide) (by decide)
    have a29 := ya 29 (by decide) (by decide) (by decide) (by decide) (by decide) (by decide)
    rw [c10, a26.1, a26.2, a29.1, a19.2]
    exact h.ex.tw
  · rw [c10, a22.2]
    intro i hi q
    rw [cg i hi]
    unfold insE
    rw [if_neg (fun z => z.1 (by rw [q]; rfl))]
    exact h.ex.iz i hi q
  · rw [c10]
    intro i hi
    rw [el i, cl 3 i]
    exact h.ex.lo i hi
  · rw [c10]
    intro i h24 hi
    rw [cl 3 i]
    exact h.ex.lz i h24 hi
  · rw [c10]
    intro i hi
    rw [cl 3 i]
    exact h.ex.lb i hi
  · have a60 := ya 60 (by decide) (by decide) (by decide) (by decide) (by decide) (by decide)
    rw [a60.1, a3.2]
    intro d hd m hm
    rw [cl 10]
    exact h.ex.et d hd m hm
/-- a tenure's owner is House K -/
theorem ownK {cy : Nat → ClassId} {B : Nat → Nat × Nat} {K : Kp} {L : List Nat} {x0 n k b t i : Nat} {T : Int} {np : Nat} {PK PT : Nat → Int32} {SX : Nat → Nat → Int} {SY : Nat → Nat → Nat → Int32} {M : Hp} {bo : Nat} (h : CX B K L x0 n T np PK PT SX SY M) (hW : WOK cy K L M) (hn : n ≤ 8) (hk : k < n) (ha : RFc (M x0) k = some b) (it : isk K L t 9 0) (hs : RFc (M (rA 2 M bo 8)) i = some t) (hi : i < 24) : cR 4 M (rA 9 M t 1) 3 = some b ↔ (cax M bo 27 i).toInt = (k : Int) := by
  have e27 : cax M bo 27 i = owN M (cR 4 M (rA 9 M t 1) 3) := (lk_te hs hi).2.2.2.2.2.2.2.2
  have num : ∀ (j z : Nat), j < n → RFc (M x0) j = some z → (cV 2 M z 0).toInt = (j : Int) := fun j z hj hz => by
    have g := (h.at hj hz).x20
    exact g
  rw [e27]
  refine ⟨fun q => ?_, fun q => ?_⟩
  · rw [q]
    exact num k b hk ha
  · cases e : cR 4 M (rA 9 M t 1) 3 with
    | none =>
      rw [e] at q
      have q : (-1 : Int32).toInt = (k : Int) := q
      rw [show (-1 : Int32).toInt = -1 from rfl] at q
      omega
    | some z =>
      rw [e] at q
      have q : (cV 2 M z 0).toInt = (k : Int) := q
      obtain ⟨j, hj, hz⟩ := h.ph _ (KT hW it).1 z e
      rw [num j z hj hz] at q
      have : j = k := by omega
      rw [this, ha] at hz
      exact hz.symm

set_option maxHeartbeats 4000000 in
set_option maxRecDepth 100000 in
theorem e_appN (l : Launch) (D : va_G) (cy : Nat → ClassId) (K0 : Kp) (L0 : List Nat) (M0 : Hp) (sz : Nat) (oa : Nat) (k1 : Int32) (y0 : Nat) (y1 : Nat) (y2 : Nat) (y3 : Nat) (y4 : Int64) (hW : WOK cy K0 L0 M0) (ia : isk K0 L0 oa 0 0) (hroom : y3 < 120) (hMy : M0 oa = (b0_6 y0 y1 y2 (nI y3) y4)) (hy0 : isk K0 L0 y0 21 120) (hy1 : isk K0 L0 y1 66 100) (hy2 : isk K0 L0 y2 7 0) (hy3 : y3 ≤ 120) : Met l yX0_append (wsM yX0_append cX0_append 3 (some (.object "PartnersBook$Stretch"))) ({ frames := 2, cells := 3, slots := 18, locals := 45 }) (va_Pc [.ref oa, .int k1] (PG D cy [] L0 M0 sz)) (va_Qq (fun (r : Option Nat) (u : Kp × List Nat × Hp) => ext K0 L0 u.1 u.2.1 ∧ WOK cy u.1 u.2.1 u.2.2 ∧ fr K0 L0 [0, 8, 21, 72] M0 u.2.2 ∧ u.2.2 oa = (b0_6 y0 y1 y2 (nI (y3 + 1)) y4) ∧ (iskN u.1 u.2.1 r 8 0)) (fun u t => NW2 K0 L0 u.1 u.2.1 ∧ PQ D [] u.2.1 u.2.2 (va_A ([] ++ va_pl L0 M0) sz) t) (va_A ([] ++ va_pl L0 M0) sz)) 3 18 (va_A ([] ++ va_pl L0 M0) sz) := by
  refine Met.ofW (cc := cX0_append) (maxL := 3) (ret := (some (.object "PartnersBook$Stretch"))) (by decide) rfl ?_
  intro p e s m args below meth c s₁ B hml hv
  obtain ⟨rfl, hsz, hP, hK, hD0, hN⟩ := hv
  have hx := B.exec
  have hb := B.bytes
  have hr := B.returns
  have hts := atoms_spec (ws := (wsM yX0_append cX0_append 3 (some (.object "PartnersBook$Stretch")))) B.pre
  have hg : ∀ w ∈ lw_good, w.before _ s = true := fun w h => hts w (List.mem_cons_of_mem _ h)
  have hown : s.vm.findClass RX0 = some m.cls := findClass_of_methodNamed B.named
  have hlocks := B.notSynchronized
  subst hsz
  have hD := hD0.self (sz := s.heap.size)
  generalize hAe : va_A ([] ++ va_pl L0 M0) s.heap.size = A at hD ⊢
  have hA : ∀ q : Nat, s.heap.size ≤ q → A q := fun q h => by rw [← hAe]; exact Or.inr h
  have hS : va_S A s.heap s.heap [] := va_S.rf
  have hl := lv_entry ([.ref oa, .int k1]) (n := 3) (Nat.le_of_ble_eq_true rfl)
  rw [lg_entry_eq]
  generalize (lg_sl ([.ref oa, .int k1]) ++ List.replicate (3 - (lg_sl ([.ref oa, .int k1])).length) Slot.unset).toArray = ls at hl ⊢
  refine W.nameQ (fun Q hQ => ?_)
  refine W.nameR (fun R hR => ?_)
  have hRf : 2 ≤ R.frames := by rw [hR]; exact Nat.le_of_ble_eq_true rfl
  have hRl : 45 ≤ R.locals := by rw [hR]; exact Nat.le_of_ble_eq_true rfl
  have hRc : 3 ≤ R.cells := by rw [hR]; exact Nat.le_of_ble_eq_true rfl
  have hRs : 18 ≤ R.slots := by rw [hR]; exact Nat.le_of_ble_eq_true rfl
  have hW00 := hW
  have ia00 := ia
  have hMy00 := hMy
  have hy000 := hy0
  have hy100 := hy1
  have hy200 := hy2
  obtain ⟨K, L, M, hX0, hF, hW, hP, hD, ia, hMy, hy0, hy1, hy2, hMe, hKe, hLe⟩ : ∃ (K : Kp) (L : List Nat) (M : Hp), ext K0 L0 K L ∧ fr K0 L0 [0, 8, 21, 72] M0 M ∧ WOK cy K L M ∧ va_P D vwCl ([] ++ va_pl L M) s.heap ∧ va_D A ([] ++ va_pl L M) ∧ isk K L oa 0 0 ∧ M oa = (b0_6 y0 y1 y2 (nI y3) y4) ∧ isk K L y0 21 120 ∧ isk K L y1 66 100 ∧ isk K L y2 7 0 ∧ M = M0 ∧ K = K0 ∧ L = L0 := ⟨K0, L0, M0, ext.rf, fr.rf, hW, hP, hD, ia, hMy, hy0, hy1, hy2, rfl, rfl, rfl⟩
  have hl : lv_has ls 3 [(0, .ref oa), (1, .int k1)] := hl
  have hNW : NW2 K0 L0 K L := by rw [hKe, hLe]; exact NW2.rf
  refine lv_aload_n hx hb dX0_append_0 rfl (lv_at hl 0 rfl) ?_
  refine pg_get (D := D) (ci := 0) (v := .int (nI y3)) (C := RX0) (T := TX0) (N := 5) hx hb hg inG0 hown hK hP ia.1 hMy rfl 3 (by decide) (hg _ wd_199) (fun _ h9 => h9) rfl dX0_append_1 ?_
  refine lv_aload_n hx hb dX0_append_4 rfl (lv_at hl 0 rfl) ?_
  refine pg_get (D := D) (ci := 0) (v := .ref y0) (C := RX0) (T := TX0) (N := 5) hx hb hg inG0 hown hK hP ia.1 hMy rfl 0 (by decide) (hg _ wd_200) (fun _ h9 => h9) rfl dX0_append_5 ?_
  obtain ⟨f1, hM1, hf1⟩ := hW.open_21 hy0
  refine pg_alen (v := 120) hx hb hK hP hy0.1 7 hM1 rfl (by rfl) dX0_append_8 ?_
  refine lv_icmp_lt (tgt := 14) hx hb dX0_append_9 (by decide) (fun c_2 => ?_) (fun c_2 => absurd ((iLT (a := y3) (b := 120) (by omega) (by omega)).mpr (by omega)) c_2)
  refine lv_aload_n hx hb dX0_append_14 rfl (lv_at hl 0 rfl) ?_
  refine pg_get (D := D) (ci := 0) (v := .ref y0) (C := RX0) (T := TX0) (N := 5) hx hb hg inG0 hown hK hP ia.1 hMy rfl 0 (by decide) (hg _ wd_200) (fun _ h9 => h9) rfl dX0_append_15 ?_
  refine lv_aload_n hx hb dX0_append_18 rfl (lv_at hl 0 rfl) ?_
  refine pg_get (D := D) (ci := 0) (v := .int (nI y3)) (C := RX0) (T := TX0) (N := 5) hx hb hg inG0 hown hK hP ia.1 hMy rfl 3 (by decide) (hg _ wd_199) (fun _ h9 => h9) rfl dX0_append_19 ?_
  have hi_3 : vp_in (nI y3) 120 := (inbN y3 120 (by omega) (by omega))
  refine pg_aldq hx hb hK hP hy0.1 7 hM1 rfl hi_3 dX0_append_22 ?_
  obtain ⟨q_4, ho_5⟩ : ∃ q : Option Nat, q = f1 ((nI y3) : Int32).toNatClampNeg := ⟨_, rfl⟩
  rw [← ho_5]
  have hq_6 : iskN K L q_4 8 0 := by rw [ho_5]; exact hf1 _ (vp_lt hi_3)
  rcases q_4 with _ | bq_4
  · have hz := rfl (a := 0)
    refine lv_ifnonnullN hx hb dX0_append_23 ?_
    refine lv_aload_n hx hb dX0_append_26 rfl (lv_at hl 0 rfl) ?_
    refine pg_get (D := D) (ci := 0) (v := .ref y0) (C := RX0) (T := TX0) (N := 5) hx hb hg inG0 hown hK hP ia.1 hMy rfl 0 (by decide) (hg _ wd_200) (fun _ h9 => h9) rfl dX0_append_27 ?_
    refine lv_aload_n hx hb dX0_append_30 rfl (lv_at hl 0 rfl) ?_
    refine pg_get (D := D) (ci := 0) (v := .int (nI y3)) (C := RX0) (T := TX0) (N := 5) hx hb hg inG0 hown hK hP ia.1 hMy rfl 3 (by decide) (hg _ wd_199) (fun _ h9 => h9) rfl dX0_append_31 ?_
    refine va_new (ci := 8) (fs := [.null, .null, .int 0, .int 0, .long 0, .long 0]) (C := RX8) (T := TX8) (N := 6) hx hb hg inG8 tyX8 tyX8_ok hown (hg _ wd_538) (hg _ wd_621) (hg _ wd_193) hK hP hD hS hA rfl dfX8 (Nat.le_trans (Nat.le_of_ble_eq_true rfl) hRc) (Nat.le_trans (Nat.le_of_ble_eq_true rfl) hRs) dX0_append_34 (fun q_8 H_9 hP hD hS => ?_)
    have hP : va_P D vwCl ([(q_8, .inr (8, [.null, .null, .int 0, .int 0, .long 0, .long 0]))] ++ va_pl L M) H_9 := hP.swap
    have hD : va_D A ([(q_8, .inr (8, [.null, .null, .int 0, .int 0, .long 0, .long 0]))] ++ va_pl L M) := hD.swap
    refine W.widen (k := 1) (n := 6) (Nat.le_of_ble_eq_true rfl) (Nat.le_of_ble_eq_true rfl) ?_
    refine lv_dup hx hb dX0_append_37 rfl ?_
    have hPc := hP.sub (ws' := [(q_8, .inr (8, [.null, .null, .int 0, .int 0, .long 0, .long 0]))]) [0] rfl
    have hDc := hD.sub (ws' := [(q_8, .inr (8, [.null, .null, .int 0, .int 0, .long 0, .long 0]))]) [0] (by decide) rfl
    have hKc := hK.sub (tys' := []) [] rfl
    have hFc := va_free (wc := [(q_8, .inr (8, [.null, .null, .int 0, .int 0, .long 0, .long 0]))]) hD hS hA [0] rfl
    refine va_callv (va_runIN (As := []) (rest := [.ref q_8, .int (nI y3), .ref y0]) ⟨hx, hb, hml, hown, hg⟩ (k_Stretch l D H_9.size q_8) ⟨va_cnB 0 hg (gB wd_622) rfl rfl rfl (hN _ (List.mem_of_getElem? (i := 5) rfl) : va_Nw (Cond.methodLinkNest RX0 29 yX8_init RX11) s) (hg _ wd_193) (by decide +kernel) ⟨(Nat.le_trans (Nat.le_of_ble_eq_true rfl) hRf), (Nat.le_trans (Nat.le_of_ble_eq_true rfl) hRl)⟩, rfl, hg _ wd_623⟩ ⟨Pr.blind, fun U hU hW => ⟨rfl, Pr.at hPc hKc hDc hN hU hW⟩⟩ rfl rfl hl.1 rfl (lv_room (Nat.le_of_ble_eq_true rfl)) dX0_append_38 ⟨(Nat.le_trans (Nat.le_of_ble_eq_true rfl) hRc), (Nat.le_trans (Nat.le_of_ble_eq_true rfl) hRs)⟩) hS (fun q _ h => hFc q h) hFc (fun M_12 t H_10 locs ht hvm hw hB hz1 hk1 hS => ?_)
    have hp_13 := hw
    obtain ⟨e0_14, e1_15, c0_16, c1_17, hP1, hK1, hD1⟩ := hB
    rw [ht] at hP1
    have hK1 := va_K.moved hvm.symm hK1
    obtain ⟨hP, hD⟩ := va_joinQ (X := [(q_8, .inr (8, [.null, .null, .int 0, .int 0, .long 0, .long 0]))]) (cx := [(q_8, .inr (8, [.null, .null, .int 0, .int 0, .long 0, .long 0]))]) (wr := []) (w1 := [(q_8, (b8_9 e0_14 e1_15 0 0 0 0)), (e0_14, .inl (c0_16, 6, .inr (.inr (.inr (.inr (fun _ => none)))))), (e1_15, .inl (c1_17, 6, .inr (.inl (fun _ => 0))))]) (pl := va_pl L M) hP hD [0] [] rfl rfl (by decide) (by decide) hk1 hFc hP1 hD1
    have hP : va_P D vwCl ([(q_8, (b8_9 e0_14 e1_15 0 0 0 0)), (e0_14, .inl (c0_16, 6, .inr (.inr (.inr (.inr (fun _ => none)))))), (e1_15, .inl (c1_17, 6, .inr (.inl (fun _ => 0))))] ++ va_pl L M) H_10 := hP
    have hD : va_D A ([(q_8, (b8_9 e0_14 e1_15 0 0 0 0)), (e0_14, .inl (c0_16, 6, .inr (.inr (.inr (.inr (fun _ => none)))))), (e1_15, .inl (c1_17, 6, .inr (.inl (fun _ => 0))))] ++ va_pl L M) := hD
    have hK2 := hK.app hK1
    obtain rfl : c0_16 = cy 22 := cls_eq hK2 10 8 rfl rfl
    obtain rfl : c1_17 = cy 15 := cls_eq hK2 11 1 rfl rfl
    refine W.widen (k := 3) (n := 18) (Nat.le_of_ble_eq_true rfl) (Nat.le_of_ble_eq_true rfl) ?_
    have hP : va_P D vwCl (([(q_8, (b8_9 e0_14 e1_15 0 0 0 0)), (zrJ cy 15 e1_15 6)] ++ [(e0_14, .inl ((cy 22), 6, .inr (.inr (.inr (.inr (fun _ => none))))))]) ++ va_pl L M) H_10 := hP.part (cx := [(q_8, (b8_9 e0_14 e1_15 0 0 0 0)), (zrJ cy 15 e1_15 6)] ++ [(e0_14, .inl ((cy 22), 6, .inr (.inr (.inr (.inr (fun _ => none))))))]) [0, 2, 1] rfl
    have hD : va_D A (([(q_8, (b8_9 e0_14 e1_15 0 0 0 0)), (zrJ cy 15 e1_15 6)] ++ [(e0_14, .inl ((cy 22), 6, .inr (.inr (.inr (.inr (fun _ => none))))))]) ++ va_pl L M) := hD.part (cx := [(q_8, (b8_9 e0_14 e1_15 0 0 0 0)), (zrJ cy 15 e1_15 6)] ++ [(e0_14, .inl ((cy 22), 6, .inr (.inr (.inr (.inr (fun _ => none))))))]) [0, 2, 1] (by decide) rfl
    obtain ⟨K9, L9, M_18, hx9, i_19, hW, hP, hD, hM_20, hfr9, hq9, hm9⟩ := adoptE2 65 6 hP hD hW (fun K' L' x i => (⟨_, rfl, fun _ _ => iskN.none⟩ : gd_65 cy K' L' 6 _))
    have hNW : NW2 K0 L0 K9 L9 := hNW.tr ⟨(fun b hb => (hm9 b hb.1).elim (fun z => absurd (hb.un (show isk K9 L9 b 65 6 by rw [z]; exact i_19)) (by decide)) (fun z => ⟨z, ((hx9 b z).2).symm.trans hb.2⟩)), (fun b hb => (hm9 b hb.1).elim (fun z => absurd (hb.un (show isk K9 L9 b 65 6 by rw [z]; exact i_19)) (by decide)) (fun z => ⟨z, ((hx9 b z).2).symm.trans hb.2⟩))⟩
    have hq0e0_14 : e0_14 ∉ L0 := fun z => hq9 (hX0 _ z).1
    have hM_22 : M_18 oa = (b0_6 y0 y1 y2 (nI y3) y4) := (hfr9 _ ia.1).trans hMy
    have hM_23 : M_18 y0 = .inl (cy 21, 120, .inr (.inr (.inr (.inr (f1))))) := (hfr9 _ hy0.1).trans hM1
    have hF : fr K0 L0 [0, 8, 21, 72] M0 M_18 := hF.adX hX0 hfr9
    have hX0 := hX0.tr hx9
    have i_24 := ia.ext hx9
    have i_25 := hy0.ext hx9
    have i_26 := hy1.ext hx9
    have i_27 := hy2.ext hx9
    have hf_28 := fun j q => (hf1 j q).ext hx9
    obtain ⟨K, L, hK9, hL9⟩ : ∃ (K : Kp) (L : List Nat), K = K9 ∧ L = L9 := ⟨_, _, rfl, rfl⟩
    subst hK9
    subst hL9
    have hP : va_P D vwCl ([(q_8, (b8_9 e0_14 e1_15 0 0 0 0)), (zrJ cy 15 e1_15 6)] ++ va_pl L M_18) H_10 := hP
    have hD : va_D A ([(q_8, (b8_9 e0_14 e1_15 0 0 0 0)), (zrJ cy 15 e1_15 6)] ++ va_pl L M_18) := hD
    have hP : va_P D vwCl (([(q_8, (b8_9 e0_14 e1_15 0 0 0 0))] ++ [(zrJ cy 15 e1_15 6)]) ++ va_pl L M_18) H_10 := hP.part (cx := [(q_8, (b8_9 e0_14 e1_15 0 0 0 0))] ++ [(zrJ cy 15 e1_15 6)]) [0, 1] rfl
    have hD : va_D A (([(q_8, (b8_9 e0_14 e1_15 0 0 0 0))] ++ [(zrJ cy 15 e1_15 6)]) ++ va_pl L M_18) := hD.part (cx := [(q_8, (b8_9 e0_14 e1_15 0 0 0 0))] ++ [(zrJ cy 15 e1_15 6)]) [0, 1] (by decide) rfl
    obtain ⟨K9, L9, M_29, hx9, i_30, hW, hP, hD, hM_31, hfr9, hq9, hm9⟩ := adoptE2 72 6 hP hD hW (fun K' L' x i => (⟨_, rfl⟩ : gd_72 cy K' L' 6 _))
    have hNW : NW2 K0 L0 K9 L9 := hNW.tr ⟨(fun b hb => (hm9 b hb.1).elim (fun z => absurd (hb.un (show isk K9 L9 b 72 6 by rw [z]; exact i_30)) (by decide)) (fun z => ⟨z, ((hx9 b z).2).symm.trans hb.2⟩)), (fun b hb => (hm9 b hb.1).elim (fun z => absurd (hb.un (show isk K9 L9 b 72 6 by rw [z]; exact i_30)) (by decide)) (fun z => ⟨z, ((hx9 b z).2).symm.trans hb.2⟩))⟩
    have hq0e1_15 : e1_15 ∉ L0 := fun z => hq9 (hX0 _ z).1
    have hM_33 : M_29 oa = (b0_6 y0 y1 y2 (nI y3) y4) := (hfr9 _ i_24.1).trans hM_22
    have hM_34 : M_29 y0 = .inl (cy 21, 120, .inr (.inr (.inr (.inr (f1))))) := (hfr9 _ i_25.1).trans hM_23
    have hF : fr K0 L0 [0, 8, 21, 72] M0 M_29 := hF.adX hX0 hfr9
    have hX0 := hX0.tr hx9
    have i_35 := i_24.ext hx9
    have i_36 := i_25.ext hx9
    have i_37 := i_26.ext hx9
    have i_38 := i_27.ext hx9
    have i_39 := i_19.ext hx9
    have hf_40 := fun j q => (hf_28 j q).ext hx9
    obtain ⟨K, L, hK9, hL9⟩ : ∃ (K : Kp) (L : List Nat), K = K9 ∧ L = L9 := ⟨_, _, rfl, rfl⟩
    subst hK9
    subst hL9
    have hP : va_P D vwCl ([(q_8, (b8_9 e0_14 e1_15 0 0 0 0))] ++ va_pl L M_29) H_10 := hP
    have hD : va_D A ([(q_8, (b8_9 e0_14 e1_15 0 0 0 0))] ++ va_pl L M_29) := hD
    have hP : va_P D vwCl (([] ++ [(q_8, (b8_9 e0_14 e1_15 0 0 0 0))]) ++ va_pl L M_29) H_10 := hP.part (cx := [] ++ [(q_8, (b8_9 e0_14 e1_15 0 0 0 0))]) [0] rfl
    have hD : va_D A (([] ++ [(q_8, (b8_9 e0_14 e1_15 0 0 0 0))]) ++ va_pl L M_29) := hD.part (cx := [] ++ [(q_8, (b8_9 e0_14 e1_15 0 0 0 0))]) [0] (by decide) rfl
    obtain ⟨K9, L9, M_41, hx9, i_42, hW, hP, hD, hM_43, hfr9, hq9, hm9⟩ := adoptE2 8 0 hP hD hW (fun K' L' x i => (⟨e0_14, e1_15, 0, 0, 0, 0, rfl, i_39.ext x, i_30.ext x⟩ : gd_8 K' L' _))
    have hNW : NW2 K0 L0 K9 L9 := hNW.tr ⟨(fun b hb => (hm9 b hb.1).elim (fun z => absurd (hb.un (show isk K9 L9 b 8 0 by rw [z]; exact i_42)) (by decide)) (fun z => ⟨z, ((hx9 b z).2).symm.trans hb.2⟩)), (fun b hb => (hm9 b hb.1).elim (fun z => absurd (hb.un (show isk K9 L9 b 8 0 by rw [z]; exact i_42)) (by decide)) (fun z => ⟨z, ((hx9 b z).2).symm.trans hb.2⟩))⟩
    have hq0q_8 : q_8 ∉ L0 := fun z => hq9 (hX0 _ z).1
    have hM_44 : M_41 oa = (b0_6 y0 y1 y2 (nI y3) y4) := (hfr9 _ i_35.1).trans hM_33
    have hM_45 : M_41 y0 = .inl (cy 21, 120, .inr (.inr (.inr (.inr (f1))))) := (hfr9 _ i_36.1).trans hM_34
    have hF : fr K0 L0 [0, 8, 21, 72] M0 M_41 := hF.adX hX0 hfr9
    have hX0 := hX0.tr hx9
    have i_46 := i_35.ext hx9
    have i_47 := i_36.ext hx9
    have i_48 := i_37.ext hx9
    have i_49 := i_38.ext hx9
    have i_50 := i_39.ext hx9
    have i_51 := i_30.ext hx9
    have hf_52 := fun j q => (hf_40 j q).ext hx9
    obtain ⟨K, L, hK9, hL9⟩ : ∃ (K : Kp) (L : List Nat), K = K9 ∧ L = L9 := ⟨_, _, rfl, rfl⟩
    subst hK9
    subst hL9
    have hP : va_P D vwCl ([] ++ va_pl L M_41) H_10 := hP
    have hD : va_D A ([] ++ va_pl L M_41) := hD
    obtain ⟨v54_0, v54_1, v54_2, v54_3, v54_4, v54_5, hM54, h54_0, h54_1⟩ := hW.open_8 i_42
    refine pg_astq (r := (RX8, TX8, 6)) hx hb hK hP hD hS i_47.1 7 8 hM_45 rfl i_42.1 hM54 rfl (inbN y3 120 (by omega) (by omega)) dX0_append_41 (fun H_53 locs hP hD hS => ?_)
    obtain ⟨M_55, eM_55⟩ : ∃ M1 : Hp, M1 = va_up M_41 y0 (.inl (cy 21, 120, .inr (.inr (.inr (.inr (va_up f1 ((nI y3) : Int32).toNatClampNeg (some q_8))))))) := ⟨_, rfl⟩
    have hP : va_P D vwCl ([] ++ va_pl L M_55) H_53 := by rw [eM_55]; exact hP
    have hD : va_D A ([] ++ va_pl L M_55) := by rw [eM_55]; exact hD
    have hW : WOK cy K L M_55 := by rw [eM_55]; exact hW.up_21 i_47 ⟨_, rfl, (upN hf_52 i_42)⟩
    have hF : fr K0 L0 [0, 8, 21, 72] M0 M_55 := by rw [eM_55]; exact hF.upX hX0 i_47 (by decide)
    have hM_56 : M_55 y0 = .inl (cy 21, 120, .inr (.inr (.inr (.inr (va_up f1 ((nI y3) : Int32).toNatClampNeg (some q_8)))))) := by rw [eM_55]; exact va_up_self _ _ _
    have hM_57 : M_55 oa = (b0_6 y0 y1 y2 (nI y3) y4) := by rw [eM_55, va_up_ne _ _ (i_46.neT i_47 (by decide))]; exact hM_44
    have hM_58 : M_55 q_8 = (b8_9 v54_0 v54_1 v54_2 v54_3 v54_4 v54_5) := by rw [eM_55, va_up_ne _ _ (i_42.neT i_47 (by decide))]; exact hM54
    have hf_60 : ∀ j, j < 120 → iskN K L ((va_up f1 ((nI y3) : Int32).toNatClampNeg (some q_8)) j) 8 0 := (upN hf_52 i_42)
    obtain ⟨f_59, ef_59⟩ : ∃ f : Nat → Option Nat, f = va_up f1 ((nI y3) : Int32).toNatClampNeg (some q_8) := ⟨_, rfl⟩
    rw [← ef_59] at hM_56 hf_60
    have hk_61 : f_59 ((nI y3) : Int32).toNatClampNeg = some q_8 := by rw [ef_59]; exact va_up_self _ _ _
    clear ef_59
    refine lv_aload_n hx hb dX0_append_42 rfl (lv_at hl 0 rfl) ?_
    refine pg_get (D := D) (ci := 0) (v := .ref y0) (C := RX0) (T := TX0) (N := 5) hx hb hg inG0 hown hK hP i_46.1 hM_57 rfl 0 (by decide) (hg _ wd_200) (fun _ h9 => h9) rfl dX0_append_43 ?_
    refine lv_aload_n hx hb dX0_append_46 rfl (lv_at hl 0 rfl) ?_
    refine pg_get (D := D) (ci := 0) (v := .int (nI y3)) (C := RX0) (T := TX0) (N := 5) hx hb hg inG0 hown hK hP i_46.1 hM_57 rfl 3 (by decide) (hg _ wd_199) (fun _ h9 => h9) rfl dX0_append_47 ?_
    have hi_62 : vp_in (nI y3) 120 := (inbN y3 120 (by omega) (by omega))
    refine pg_aldq hx hb hK hP i_47.1 7 hM_56 rfl hi_62 dX0_append_50 ?_
    rw [show f_59 ((nI y3) : Int32).toNatClampNeg = some q_8 from hk_61]
    refine lv_astore_n (lv' := [(2, .ref q_8), (0, .ref oa), (1, .int k1)]) hx hb dX0_append_51 rfl hl (by decide) rfl (fun ls hl => ?_)
    refine lv_aload_n hx hb dX0_append_52 rfl (lv_at hl 1 rfl) ?_
    refine lv_dup hx hb dX0_append_53 rfl ?_
    refine pg_get (D := D) (ci := 0) (v := .int (nI y3)) (C := RX0) (T := TX0) (N := 5) hx hb hg inG0 hown hK hP i_46.1 hM_57 rfl 3 (by decide) (hg _ wd_199) (fun _ h9 => h9) rfl dX0_append_54 ?_
    refine lv_iconst (v := 1) hx hb dX0_append_57 (by decide) ?_
    refine lv_iadd hx hb dX0_append_58 ?_
    refine lv_topi (fun f_63 ef_63 => ?_)
    obtain rfl : f_63 = (nI (y3 + 1)) := ef_63.trans (nI_add y3 1)
    refine pg_put (D := D) (ci := 0) (v := .int (nI (y3 + 1))) (ty := .int) (C := RX0) (T := TX0) (N := 5) hx hb hg inG0 tyX0 tyX0_ok nmX0 hown hK hP hD hS i_46.1 hM_57 rfl 3 (by decide) (hg _ wd_199) (fun _ h9 => h9) rfl (by decide +kernel) rfl rfl (Nat.le_of_ble_eq_true rfl) dX0_append_59 (fun H_64 locs hP hD hS => ?_)
    obtain ⟨M_65, eM_65⟩ : ∃ M1 : Hp, M1 = va_up M_55 oa ((b0_6 y0 y1 y2 (nI (y3 + 1)) y4)) := ⟨_, rfl⟩
    have hP : va_P D vwCl ([] ++ va_pl L M_65) H_64 := by rw [eM_65]; exact hP
    have hD : va_D A ([] ++ va_pl L M_65) := by rw [eM_65]; exact hD
    have hW : WOK cy K L M_65 := by rw [eM_65]; exact hW.up_0 i_46 ⟨y0, y1, y2, (y3 + 1), y4, rfl, i_47, i_48, i_49, (by omega)⟩
    have hF : fr K0 L0 [0, 8, 21, 72] M0 M_65 := by rw [eM_65]; exact hF.upX hX0 i_46 (by decide)
    have hM_66 : M_65 oa = (b0_6 y0 y1 y2 (nI (y3 + 1)) y4) := by rw [eM_65]; exact va_up_self _ _ _
    have hM_67 : M_65 y0 = .inl (cy 21, 120, .inr (.inr (.inr (.inr (f_59))))) := by rw [eM_65, va_up_ne _ _ (i_47.neT i_46 (by decide))]; exact hM_56
    have hM_68 : M_65 q_8 = (b8_9 v54_0 v54_1 v54_2 v54_3 v54_4 v54_5) := by rw [eM_65, va_up_ne _ _ (i_42.neT i_46 (by decide))]; exact hM_58
    have hb_69 : (y3 + 1) ≤ 120 := by omega
    refine lv_aload_n hx hb dX0_append_62 rfl (lv_at hl 0 rfl) ?_
    refine lv_iload_n hx hb dX0_append_63 rfl (lv_at hl 2 rfl) ?_
    have hPc : va_P D vwCl ([] ++ va_pl L M_65) H_64 := hP
    have hDc : va_D A ([] ++ va_pl L M_65) := hD
    have hFc : ∀ q, va_A ([] ++ va_pl L M_65) H_64.size q → A q := pg_free hDc hS hA
    refine va_callv (va_runV (As := [.int k1]) (rest := []) ⟨hx, hb, hml, hown, hg⟩ (s_X8_begin l D cy K L M_65 H_64.size q_8 k1  hW i_42) (cwV 1 hg (gV wd_624 wd_625 wd_626 wd_193 wd_627) rfl rfl rfl (by decide +kernel) ⟨(Nat.le_trans (Nat.le_of_ble_eq_true rfl) hRf), (Nat.le_trans (Nat.le_of_ble_eq_true rfl) hRl)⟩) ⟨PG.blind, pg_recv hK hP i_42.1 hM_68 rfl, fun U hU hW => ⟨rfl, PG.at hPc hK hDc hN hU hW⟩⟩ rfl rfl hl.1 rfl (lv_room (Nat.le_of_ble_eq_true rfl)) dX0_append_64 ⟨(Nat.le_trans (Nat.le_of_ble_eq_true rfl) hRc), (Nat.le_trans (Nat.le_of_ble_eq_true rfl) hRs)⟩) hS (fun q _ h => hFc q h) hFc (fun M_72 t H_70 locs ht hvm hw hB hz1 hk1 hS => ?_)
    obtain ⟨hW, hF2, hp_73⟩ := hw
    obtain ⟨hP1, hD1⟩ := hB
    rw [ht] at hP1
    have hP : va_P D vwCl ([] ++ va_pl L M_72) H_70 := hP1
    have hD : va_D A ([] ++ va_pl L M_72) := hD1.mono hFc
    have hM_74 : M_72 oa = (b0_6 y0 y1 y2 (nI (y3 + 1)) y4) := (hF2.at i_46 (by decide)).trans hM_66
    have hM_75 : M_72 y0 = .inl (cy 21, 120, .inr (.inr (.inr (.inr (f_59))))) := (hF2.at i_47 (by decide)).trans hM_67
    have hF : fr K0 L0 [0, 8, 21, 72] M0 M_72 := hF.trX hX0 hF2 (by decide)
    refine lv_aload_n hx hb dX0_append_67 rfl (lv_at hl 0 rfl) ?_
    rw [hQ]
    exact W.aret (v := .ref q_8) hx hb hr (Or.inl ⟨_, rfl⟩) (Or.inr ⟨_, rfl⟩) (fun t ht hW9 => ⟨⟨(some q_8), (K, L, M_72), rfl, ⟨hX0, hW, hF, hM_74, iskN.some i_42⟩, ⟨hNW, by rw [ht]; exact hP, hD⟩⟩, hS.F ht⟩) hS.2.2 dX0_append_68
  · have hb_7 := hq_6 bq_4 rfl
    refine lv_ifnonnull (tgt := 42) hx hb dX0_append_23 (by decide) ?_
    refine lv_aload_n hx hb dX0_append_42 rfl (lv_at hl 0 rfl) ?_
    refine pg_get (D := D) (ci := 0) (v := .ref y0) (C := RX0) (T := TX0) (N := 5) hx hb hg inG0 hown hK hP ia.1 hMy rfl 0 (by decide) (hg _ wd_200) (fun _ h9 => h9) rfl dX0_append_43 ?_
    refine lv_aload_n hx hb dX0_append_46 rfl (lv_at hl 0 rfl) ?_
    refine pg_get (D := D) (ci := 0) (v := .int (nI y3)) (C := RX0) (T := TX0) (N := 5) hx hb hg inG0 hown hK hP ia.1 hMy rfl 3 (by decide) (hg _ wd_199) (fun _ h9 => h9) rfl dX0_append_47 ?_
    have hi_76 : vp_in (nI y3) 120 := (inbN y3 120 (by omega) (by omega))
    refine pg_aldq hx hb hK hP hy0.1 7 hM1 rfl hi_76 dX0_append_50 ?_
    rw [show f1 ((nI y3) : Int32).toNatClampNeg = some bq_4 from (Eq.symm ho_5)]
    refine lv_astore_n (lv' := [(2, .ref bq_4), (0, .ref oa), (1, .int k1)]) hx hb dX0_append_51 rfl hl (by decide) rfl (fun ls hl => ?_)
    refine lv_aload_n hx hb dX0_append_52 rfl (lv_at hl 1 rfl) ?_
    refine lv_dup hx hb dX0_append_53 rfl ?_
    refine pg_get (D := D) (ci := 0) (v := .int (nI y3)) (C := RX0) (T := TX0) (N := 5) hx hb hg inG0 hown hK hP ia.1 hMy rfl 3 (by decide) (hg _ wd_199) (fun _ h9 => h9) rfl dX0_append_54 ?_
    refine lv_iconst (v := 1) hx hb dX0_append_57 (by decide) ?_
    refine lv_iadd hx hb dX0_append_58 ?_
    refine lv_topi (fun f_77 ef_77 => ?_)
    obtain rfl : f_77 = (nI (y3 + 1)) := ef_77.trans (nI_add y3 1)
    refine pg_put (D := D) (ci := 0) (v := .int (nI (y3 + 1))) (ty := .int) (C := RX0) (T := TX0) (N := 5) hx hb hg inG0 tyX0 tyX0_ok nmX0 hown hK hP hD hS ia.1 hMy rfl 3 (by decide) (hg _ wd_199) (fun _ h9 => h9) rfl (by decide +kernel) rfl rfl (Nat.le_of_ble_eq_true rfl) dX0_append_59 (fun H_78 locs hP hD hS => ?_)
    obtain ⟨M_79, eM_79⟩ : ∃ M1 : Hp, M1 = va_up M oa ((b0_6 y0 y1 y2 (nI (y3 + 1)) y4)) := ⟨_, rfl⟩
    have hP : va_P D vwCl ([] ++ va_pl L M_79) H_78 := by rw [eM_79]; exact hP
    have hD : va_D A ([] ++ va_pl L M_79) := by rw [eM_79]; exact hD
    have hW : WOK cy K L M_79 := by rw [eM_79]; exact hW.up_0 ia ⟨y0, y1, y2, (y3 + 1), y4, rfl, hy0, hy1, hy2, (by omega)⟩
    have hF : fr K0 L0 [0, 8, 21, 72] M0 M_79 := by rw [eM_79]; exact hF.upX hX0 ia (by decide)
    have hM_80 : M_79 oa = (b0_6 y0 y1 y2 (nI (y3 + 1)) y4) := by rw [eM_79]; exact va_up_self _ _ _
    have hM_81 : M_79 y0 = .inl (cy 21, 120, .inr (.inr (.inr (.inr (f1))))) := by rw [eM_79, va_up_ne _ _ (hy0.neT ia (by decide))]; exact hM1
    have hb_82 : (y3 + 1) ≤ 120 := by omega
    refine lv_aload_n hx hb dX0_append_62 rfl (lv_at hl 0 rfl) ?_
    refine lv_iload_n hx hb dX0_append_63 rfl (lv_at hl 2 rfl) ?_
    obtain ⟨v83_0, v83_1, v83_2, v83_3, v83_4, v83_5, hM83, h83_0, h83_1⟩ := hW.open_8 hb_7
    have hPc : va_P D vwCl ([] ++ va_pl L M_79) H_78 := hP
    have hDc : va_D A ([] ++ va_pl L M_79) := hD
    have hFc : ∀ q, va_A ([] ++ va_pl L M_79) H_78.size q → A q := pg_free hDc hS hA
    refine va_callv (va_runV (As := [.int k1]) (rest := []) ⟨hx, hb, hml, hown, hg⟩ (s_X8_begin l D cy K L M_79 H_78.size bq_4 k1  hW hb_7) (cwV 1 hg (gV wd_624 wd_625 wd_626 wd_193 wd_627) rfl rfl rfl (by decide +kernel) ⟨(Nat.le_trans (Nat.le_of_ble_eq_true rfl) hRf), (Nat.le_trans (Nat.le_of_ble_eq_true rfl) hRl)⟩) ⟨PG.blind, pg_recv hK hP hb_7.1 hM83 rfl, fun U hU hW => ⟨rfl, PG.at hPc hK hDc hN hU hW⟩⟩ rfl rfl hl.1 rfl (lv_room (Nat.le_of_ble_eq_true rfl)) dX0_append_64 ⟨(Nat.le_trans (Nat.le_of_ble_eq_true rfl) hRc), (Nat.le_trans (Nat.le_of_ble_eq_true rfl) hRs)⟩) hS (fun q _ h => hFc q h) hFc (fun M_86 t H_84 locs ht hvm hw hB hz1 hk1 hS => ?_)
    obtain ⟨hW, hF2, hp_87⟩ := hw
    obtain ⟨hP1, hD1⟩ := hB
    rw [ht] at hP1
    have hP : va_P D vwCl ([] ++ va_pl L M_86) H_84 := hP1
    have hD : va_D A ([] ++ va_pl L M_86) := hD1.mono hFc
    have hM_88 : M_86 oa = (b0_6 y0 y1 y2 (nI (y3 + 1)) y4) := (hF2.at ia (by decide)).trans hM_80
    have hM_89 : M_86 y0 = .inl (cy 21, 120, .inr (.inr (.inr (.inr (f1))))) := (hF2.at hy0 (by decide)).trans hM_81
    have hF : fr K0 L0 [0, 8, 21, 72] M0 M_86 := hF.trX hX0 hF2 (by decide)
    refine lv_aload_n hx hb dX0_append_67 rfl (lv_at hl 0 rfl) ?_
    refine W.widen (k := 3) (n := 18) (Nat.le_of_ble_eq_true rfl) (Nat.le_of_ble_eq_true rfl) ?_
    rw [hQ]
    exact W.aret (v := .ref bq_4) hx hb hr (Or.inl ⟨_, rfl⟩) (Or.inr ⟨_, rfl⟩) (fun t ht hW9 => ⟨⟨(some bq_4), (K, L, M_86), rfl, ⟨hX0, hW, hF, hM_88, iskN.some hb_7⟩, ⟨hNW, by rw [ht]; exact hP, hD⟩⟩, hS.F ht⟩) hS.2.2 dX0_append_68
set_option maxHeartbeats 4000000 in
set_option maxRecDepth 100000 in
theorem e_partDays (l : Launch) (D : va_G) (cy : Nat → ClassId) (K0 : Kp) (L0 : List Nat) (M0 : Hp) (sz : Nat) (oa : Nat) (k1 : Nat) (k2 : Int32) (y0 : Nat) (y1 : Nat) (y2 : Nat) (y3 : Nat) (y4 : Int64) (hW : WOK cy K0 L0 M0) (ia : isk K0 L0 oa 0 0) (ik1 : isk K0 L0 k1 2 0) (hMy : M0 oa = (b0_6 y0 y1 y2 (nI y3) y4)) (hy0 : isk K0 L0 y0 21 120) (hy1 : isk K0 L0 y1 66 100) (hy2 : isk K0 L0 y2 7 0) (hy3 : y3 ≤ 120) : Met l yX0_partDays (wsM yX0_partDays cX0_partDays 5 none) ({ frames := 3, cells := 360, slots := 2160, locals := 67 }) (va_Pc [.ref oa, .ref k1, .int k2] (PG D cy [] L0 M0 sz)) (va_Qv (fun (u : Kp × List Nat × Hp) => ext K0 L0 u.1 u.2.1 ∧ WOK cy u.1 u.2.1 u.2.2 ∧ fr K0 L0 [0, 8, 21, 72] M0 u.2.2 ∧ (True)) (fun u t => NW2 K0 L0 u.1 u.2.1 ∧ PQ D [] u.2.1 u.2.2 (va_A ([] ++ va_pl L0 M0) sz) t) (va_A ([] ++ va_pl L0 M0) sz)) 360 2160 (va_A ([] ++ va_pl L0 M0) sz) := by
  refine Met.ofW (cc := cX0_partDays) (maxL := 5) (ret := none) (by decide) rfl ?_
  intro p e s m args below meth c s₁ B hml hv
  obtain ⟨rfl, hsz, hP, hK, hD0, hN⟩ := hv
  have hx := B.exec
  have hb := B.bytes
  have hr := B.returns
  have hts := atoms_spec (ws := (wsM yX0_partDays cX0_partDays 5 none)) B.pre
  have hg : ∀ w ∈ lw_good, w.before _ s = true := fun w h => hts w (List.mem_cons_of_mem _ h)
  have hown : s.vm.findClass RX0 = some m.cls := findClass_of_methodNamed B.named
  have hlocks := B.notSynchronized
  subst hsz
  have hD := hD0.self (sz := s.heap.size)
  generalize hAe : va_A ([] ++ va_pl L0 M0) s.heap.size = A at hD ⊢
  have hA : ∀ q : Nat, s.heap.size ≤ q → A q := fun q h => by rw [← hAe]; exact Or.inr h
  have hS : va_S A s.heap s.heap [] := va_S.rf
  have hl := lv_entry ([.ref oa, .ref k1, .int k2]) (n := 5) (Nat.le_of_ble_eq_true rfl)
  rw [lg_entry_eq]
  generalize (lg_sl ([.ref oa, .ref k1, .int k2]) ++ List.replicate (5 - (lg_sl ([.ref oa, .ref k1, .int k2])).length) Slot.unset).toArray = ls at hl ⊢
  refine W.nameQ (fun Q hQ => ?_)
  refine W.nameR (fun R hR => ?_)
  have hRf : 3 ≤ R.frames := by rw [hR]; exact Nat.le_of_ble_eq_true rfl
  have hRl : 67 ≤ R.locals := by rw [hR]; exact Nat.le_of_ble_eq_true rfl
  have hRc : 360 ≤ R.cells := by rw [hR]; exact Nat.le_of_ble_eq_true rfl
  have hRs : 2160 ≤ R.slots := by rw [hR]; exact Nat.le_of_ble_eq_true rfl
  have hW00 := hW
  have ia00 := ia
  have ik100 := ik1
  have hMy00 := hMy
  have hy000 := hy0
  have hy100 := hy1
  have hy200 := hy2
  obtain ⟨K, L, M, hX0, hF, hW, hP, hD, ia, ik1, hMy, hy0, hy1, hy2, hMe, hKe, hLe⟩ : ∃ (K : Kp) (L : List Nat) (M : Hp), ext K0 L0 K L ∧ fr K0 L0 [0, 8, 21, 72] M0 M ∧ WOK cy K L M ∧ va_P D vwCl ([] ++ va_pl L M) s.heap ∧ va_D A ([] ++ va_pl L M) ∧ isk K L oa 0 0 ∧ isk K L k1 2 0 ∧ M oa = (b0_6 y0 y1 y2 (nI y3) y4) ∧ isk K L y0 21 120 ∧ isk K L y1 66 100 ∧ isk K L y2 7 0 ∧ M = M0 ∧ K = K0 ∧ L = L0 := ⟨K0, L0, M0, ext.rf, fr.rf, hW, hP, hD, ia, ik1, hMy, hy0, hy1, hy2, rfl, rfl, rfl⟩
  have hl : lv_has ls 5 [(0, .ref oa), (1, .ref k1), (2, .int k2)] := hl
  have hNW : NW2 K0 L0 K L := by rw [hKe, hLe]; exact NW2.rf
  refine lv_null hx hb dX0_partDays_0 ?_
  refine lv_astore_nN (lv' := [(3, .null), (0, .ref oa), (1, .ref k1), (2, .int k2)]) hx hb dX0_partDays_1 rfl hl (by decide) rfl (fun ls hl => ?_)
  refine lv_iconst (v := 0) hx hb dX0_partDays_2 (by decide) ?_
  refine lv_aload_n hx hb dX0_partDays_3 rfl (lv_at hl 2 rfl) ?_
  obtain ⟨v1_0, v1_1, v1_2, v1_3, v1_4, v1_5, v1_6, v1_7, v1_8, v1_9, v1_10, v1_11, v1_12, v1_13, v1_14, v1_15, v1_16, v1_17, v1_18, v1_19, hM1, h1_3, h1_4, h1_5, h1_6, h1_7, h1_8, h1_9, h1_10, h1_11, h1_12, h1_13, h1_16, h1_17, h1_18, h1_19⟩ := hW.open_2 ik1
  refine pg_get (D := D) (ci := 2) (v := .int v1_2) (C := RX2) (T := TX2) (N := 20) hx hb hg inG2 hown hK hP ik1.1 hM1 rfl 2 (by decide) (hg _ wd_628) (fun _ h9 => h9) rfl dX0_partDays_4 ?_
  refine lv_iconst (v := 1) hx hb dX0_partDays_7 (by decide) ?_
  refine lv_iadd hx hb dX0_partDays_8 ?_
  refine lv_topi (fun f_2 ef_2 => ?_)
  refine va_mmax hx hb (by rw [hml]; exact hl.1.symm) hown (hg _ wd_629) (hg _ wd_100) (hg _ wd_12) (hg _ wd_101) (Nat.le_trans (Nat.le_of_ble_eq_true rfl) hRf) (Nat.le_trans (Nat.le_of_ble_eq_true rfl) hRl) (Nat.le_trans (Nat.le_of_ble_eq_true rfl) hRc) (Nat.le_trans (Nat.le_of_ble_eq_true rfl) hRs) dX0_partDays_9 ?_
  refine lv_topi (fun f_3 ef_3 => ?_)
  obtain ⟨j_4, hj_5, rfl⟩ := max0 ef_3
  refine lv_istore (lv' := [(4, .int (nI j_4)), (3, .null), (0, .ref oa), (1, .ref k1), (2, .int k2)]) hx hb dX0_partDays_12 hl (by decide) rfl (fun ls hl => ?_)
  have key_6 : ∀ (fu_8 : Nat) (v3w9 : Option Nat) (v4w9 : Nat) (gw9 : Nat) (K : Kp) (L : List Nat) (M_12 : Hp) (H_13 : Heap) (locs : List Loc) (ls : Array Slot), 1000 - v4w9 < fu_8 → iskN K L v3w9 8 0 → v4w9 < 2147483648 → M_12 oa = (b0_6 y0 y1 y2 (nI gw9) y4) → isk K L oa 0 0 → isk K L k1 2 0 → isk K L y0 21 120 → isk K L y1 66 100 → isk K L y2 7 0 → gw9 ≤ 120 → ext K0 L0 K L → NW2 K0 L0 K L → WOK cy K L M_12 → fr K0 L0 [0, 8, 21, 72] M0 M_12 → va_P D vwCl ([] ++ va_pl L M_12) H_13 → va_D A ([] ++ va_pl L M_12) → va_S A s.heap H_13 locs → lv_has ls 5 [(4, .int (nI v4w9)), (3, (va_rf v3w9)), (0, .ref oa), (1, .ref k1), (2, .int k2)] → W p l e R s m ([.ref oa, .ref k1, .int k2] : List Value).toArray below meth c H_13 locs (3 * gw9) (18 * gw9) Q (F0 m 14 ls []) := by
    intro fu_8
    induction fu_8 with
    | zero => intro v3w9 v4w9 gw9 K L M_12 H_13 locs ls h; exact absurd h (Nat.not_lt_zero _)
    | succ fu_8 ih_7 =>
      intro v3w9 v4w9 gw9 K L M_12 H_13 locs ls hfu hq_10 hx_11 hM_14 i_15 i_16 i_17 i_18 i_19 hb_20 hX0 hNW hW hF hP hD hS hl
      rcases v3w9 with _ | b_21
      · have hz := rfl (a := 0)
        refine lv_iload hx hb dX0_partDays_14 (lv_at hl 0 rfl) ?_
        refine lv_iload_n hx hb dX0_partDays_16 rfl (lv_at hl 4 rfl) ?_
        refine lv_icmp_gt (tgt := 91) hx hb dX0_partDays_17 (by decide) (fun c_22 => ?_) (fun c_22 => ?_)
        · have hz := rfl (a := 0)
          refine W.widen (k := 360) (n := 2160) (by omega) (by omega) ?_
          rw [hQ]
          exact W.vret hx hb hr (fun t ht hW9 => ⟨⟨(K, L, M_12), rfl, ⟨hX0, hW, hF, trivial⟩, ⟨hNW, by rw [ht]; exact hP, hD⟩⟩, hS.F ht⟩) hS.2.2 dX0_partDays_91
        · have hz := rfl (a := 0)
          refine lv_iload hx hb dX0_partDays_20 (lv_at hl 0 rfl) ?_
          refine lv_sipush (v := 999) hx hb dX0_partDays_22 (by decide) ?_
          refine lv_icmp_gt (tgt := 91) hx hb dX0_partDays_25 (by decide) (fun c_23 => ?_) (fun c_23 => ?_)
          · have hz := rfl (a := 0)
            have n_24 : 999 < v4w9 := (iLT (a := 999) (b := v4w9) (by omega) (by omega)).mp c_23
            refine W.widen (k := 360) (n := 2160) (by omega) (by omega) ?_
            rw [hQ]
            exact W.vret hx hb hr (fun t ht hW9 => ⟨⟨(K, L, M_12), rfl, ⟨hX0, hW, hF, trivial⟩, ⟨hNW, by rw [ht]; exact hP, hD⟩⟩, hS.F ht⟩) hS.2.2 dX0_partDays_91
          · have hz := rfl (a := 0)
            have n_25 : ¬ (999 < v4w9) := fun q => c_23 ((iLT (a := 999) (b := v4w9) (by omega) (by omega)).mpr q)
            refine lv_aload_nN hx hb dX0_partDays_28 rfl (lv_at hl 1 rfl) ?_
            refine lv_ifnullN (tgt := 41) hx hb dX0_partDays_29 (by decide) ?_
            refine lv_aload_n hx hb dX0_partDays_41 rfl (lv_at hl 2 rfl) ?_
            refine lv_iload hx hb dX0_partDays_42 (lv_at hl 0 rfl) ?_
            rcases Nat.lt_or_ge gw9 120 with hlt | hge
            · have hz := rfl (a := 0)
              have hPc : va_P D vwCl ([] ++ va_pl L M_12) H_13 := hP
              have hDc : va_D A ([] ++ va_pl L M_12) := hD
              have hFc : ∀ q, va_A ([] ++ va_pl L M_12) H_13.size q → A q := pg_free hDc hS hA
              refine va_callq (va_runV (As := [.int (nI v4w9)]) (rest := []) ⟨hx, hb, hml, hown, hg⟩ (e_appN l D cy K L M_12 H_13.size oa (nI v4w9) y0 y1 y2 gw9 y4 hW i_15 (by omega) hM_14 i_17 i_18 i_19 hb_20) (cwV 1 hg (gV wd_630 wd_631 wd_632 wd_204 wd_633) rfl rfl rfl (by decide +kernel) ⟨(Nat.le_trans (Nat.le_of_ble_eq_true rfl) hRf), (Nat.le_trans (Nat.le_of_ble_eq_true rfl) hRl)⟩) ⟨PG.blind, pg_recv hK hP i_15.1 hM_14 rfl, fun U hU hW => ⟨rfl, PG.at hPc hK hDc hN hU hW⟩⟩ rfl rfl hl.1 rfl (lv_room (Nat.le_of_ble_eq_true rfl)) dX0_partDays_44 ⟨by omega, by omega⟩) hS (fun q _ h => hFc q h) hFc (fun r_27 M_28 t H_26 locs ht hvm hw hB hz1 hk1 hS => ?_)
              have hWb := hW
              obtain ⟨K9, L9, M_28m⟩ := M_28
              dsimp only at hw hB
              obtain ⟨hx9, hW, hF2, hM_30, hp_29⟩ := hw
              obtain ⟨hg_31, hP1, hD1⟩ := hB
              rw [ht] at hP1
              have hP : va_P D vwCl ([] ++ va_pl L9 M_28m) H_26 := hP1
              have hD : va_D A ([] ++ va_pl L9 M_28m) := hD1.mono hFc
              have hb_32 : (gw9 + 1) ≤ 120 := by omega
              have hF : fr K0 L0 [0, 8, 21, 72] M0 M_28m := hF.trX hX0 hF2 (by decide)
              have hX0 := hX0.tr hx9
              have hNW := hNW.tr hg_31
              have i_33 := i_15.ext hx9
              have i_34 := i_16.ext hx9
              have i_35 := i_17.ext hx9
              have i_36 := i_18.ext hx9
              have i_37 := i_19.ext hx9
              obtain ⟨K, L, hK9, hL9⟩ : ∃ (K : Kp) (L : List Nat), K = K9 ∧ L = L9 := ⟨_, _, rfl, rfl⟩
              subst hK9
              subst hL9
              have hz := rfl (a := 0)
              rcases r_27 with _ | b_38
              · have hz := rfl (a := 0)
                refine lv_astore_nN (lv' := [(3, .null), (4, .int (nI v4w9)), (0, .ref oa), (1, .ref k1), (2, .int k2)]) hx hb dX0_partDays_47 rfl hl (by decide) rfl (fun ls hl => ?_)
                refine lv_aload_nN hx hb dX0_partDays_48 rfl (lv_at hl 0 rfl) ?_
                refine lv_ifnullN (tgt := 85) hx hb dX0_partDays_49 (by decide) ?_
                refine lv_iinc (v := (nI (v4w9 + 1))) (lv' := [(4, .int (nI (v4w9 + 1))), (3, .null), (0, .ref oa), (1, .ref k1), (2, .int k2)]) hx hb dX0_partDays_85 hl (k := 1) rfl (nI_1 v4w9) (by decide) rfl (fun ls hl => ?_)
                refine lv_goto (tgt := 14) hx hb dX0_partDays_88 (by decide) ?_
                refine W.widen (k := 3 * (gw9 + 1)) (n := 18 * (gw9 + 1)) (by omega) (by omega) ?_
                exact ih_7 none (v4w9 + 1) (gw9 + 1) K L M_28m H_26 _ _ (by omega) iskN.none (by omega) hM_30 i_33 i_34 i_35 i_36 i_37 hb_32 hX0 hNW hW hF hP hD hS (lv_sub hl [0, 1, 2, 3, 4] rfl)
              · have hb_39 := hp_29 b_38 rfl
                refine lv_astore_n (lv' := [(3, .ref b_38), (4, .int (nI v4w9)), (0, .ref oa), (1, .ref k1), (2, .int k2)]) hx hb dX0_partDays_47 rfl hl (by decide) rfl (fun ls hl => ?_)
                refine lv_aload_n hx hb dX0_partDays_48 rfl (lv_at hl 0 rfl) ?_
                refine lv_ifnull hx hb dX0_partDays_49 ?_
                refine lv_aload_n hx hb dX0_partDays_52 rfl (lv_at hl 0 rfl) ?_
                refine lv_dup hx hb dX0_partDays_53 rfl ?_
                obtain ⟨v40_0, v40_1, v40_2, v40_3, v40_4, v40_5, hM40, h40_0, h40_1⟩ := hW.open_8 hb_39
                refine pg_get (D := D) (ci := 8) (v := .int v40_3) (C := RX8) (T := TX8) (N := 6) hx hb hg inG8 hown hK hP hb_39.1 hM40 rfl 3 (by decide) (hg _ wd_220) (fun _ h9 => h9) rfl dX0_partDays_54 ?_
                refine lv_iconst (v := 1) hx hb dX0_partDays_57 (by decide) ?_
                refine lv_iadd hx hb dX0_partDays_58 ?_
                refine lv_topi (fun f_41 ef_41 => ?_)
                refine pg_put (D := D) (ci := 8) (v := .int f_41) (ty := .int) (C := RX8) (T := TX8) (N := 6) hx hb hg inG8 tyX8 tyX8_ok nmX8 hown hK hP hD hS hb_39.1 hM40 rfl 3 (by decide) (hg _ wd_220) (fun _ h9 => h9) rfl (by decide +kernel) rfl rfl (Nat.le_of_ble_eq_true rfl) dX0_partDays_59 (fun H_42 locs hP hD hS => ?_)
                obtain ⟨M_43, eM_43⟩ : ∃ M1 : Hp, M1 = va_up M_28m b_38 ((b8_9 v40_0 v40_1 v40_2 f_41 v40_4 v40_5)) := ⟨_, rfl⟩
                have hP : va_P D vwCl ([] ++ va_pl L M_43) H_42 := by rw [eM_43]; exact hP
                have hD : va_D A ([] ++ va_pl L M_43) := by rw [eM_43]; exact hD
                have hW : WOK cy K L M_43 := by rw [eM_43]; exact hW.up_8 hb_39 ⟨v40_0, v40_1, v40_2, f_41, v40_4, v40_5, rfl, h40_0, h40_1⟩
                have hF : fr K0 L0 [0, 8, 21, 72] M0 M_43 := by rw [eM_43]; exact hF.upX hX0 hb_39 (by decide)
                have hM_44 : M_43 b_38 = (b8_9 v40_0 v40_1 v40_2 f_41 v40_4 v40_5) := by rw [eM_43]; exact va_up_self _ _ _
                have hM_45 : M_43 oa = (b0_6 y0 y1 y2 (nI (gw9 + 1)) y4) := by rw [eM_43, va_up_ne _ _ (i_33.neT hb_39 (by decide))]; exact hM_30
                refine lv_aload_n hx hb dX0_partDays_62 rfl (lv_at hl 0 rfl) ?_
                refine lv_dup hx hb dX0_partDays_63 rfl ?_
                refine pg_get (D := D) (ci := 8) (v := .long v40_4) (C := RX8) (T := TX8) (N := 6) hx hb hg inG8 hown hK hP hb_39.1 hM_44 rfl 4 (by decide) (hg _ wd_255) (fun _ h9 => h9) rfl dX0_partDays_64 ?_
                refine lv_aload_n hx hb dX0_partDays_67 rfl (lv_at hl 3 rfl) ?_
                refine lv_iload hx hb dX0_partDays_68 (lv_at hl 1 rfl) ?_
                obtain ⟨v46_0, v46_1, v46_2, v46_3, v46_4, v46_5, v46_6, v46_7, v46_8, v46_9, v46_10, v46_11, v46_12, v46_13, v46_14, v46_15, v46_16, v46_17, v46_18, v46_19, hM46, h46_3, h46_4, h46_5, h46_6, h46_7, h46_8, h46_9, h46_10, h46_11, h46_12, h46_13, h46_16, h46_17, h46_18, h46_19⟩ := hW.open_2 i_34
                have hPc : va_P D vwCl ([] ++ va_pl L M_43) H_42 := hP
                have hDc : va_D A ([] ++ va_pl L M_43) := hD
                have hFc : ∀ q, va_A ([] ++ va_pl L M_43) H_42.size q → A q := pg_free hDc hS hA
                refine va_calll (va_runV (As := [.int (nI v4w9)]) (rest := [.long v40_4, .ref b_38]) ⟨hx, hb, hml, hown, hg⟩ (s_X2_entriesOn l D cy K L M_43 H_42.size k1 (nI v4w9)  hW i_34) (cwV 1 hg (gV wd_634 wd_508 wd_509 wd_57 wd_510) rfl rfl rfl (by decide +kernel) ⟨(Nat.le_trans (Nat.le_of_ble_eq_true rfl) hRf), (Nat.le_trans (Nat.le_of_ble_eq_true rfl) hRl)⟩) ⟨PG.blind, pg_recv hK hP i_34.1 hM46 rfl, fun U hU hW => ⟨rfl, PG.at hPc hK hDc hN hU hW⟩⟩ rfl rfl hl.1 rfl (lv_room (Nat.le_of_ble_eq_true rfl)) dX0_partDays_70 ⟨by omega, by omega⟩) hS (fun q _ h => hFc q h) hFc (fun r_48 M_49 t H_47 locs ht hvm hw hB hz1 hk1 hS => ?_)
                have hp_50 := hw
                obtain ⟨hP1, hD1⟩ := hB
                rw [ht] at hP1
                have hP : va_P D vwCl ([] ++ va_pl L M_43) H_47 := hP1
                have hD : va_D A ([] ++ va_pl L M_43) := hD1.mono hFc
                refine lv_aload_n hx hb dX0_partDays_73 rfl (lv_at hl 3 rfl) ?_
                refine pg_get (D := D) (ci := 2) (v := .ref v46_13) (C := RX2) (T := TX2) (N := 20) hx hb hg inG2 hown hK hP i_34.1 hM46 rfl 13 (by decide) (hg _ wd_635) (fun _ h9 => h9) rfl dX0_partDays_74 ?_
                refine lv_iload hx hb dX0_partDays_77 (lv_at hl 1 rfl) ?_
                obtain ⟨f51, hM51⟩ := hW.open_67 h46_13
                refine pg_lald hx hb hK hP h46_13.1 1 hM51 rfl (inbN v4w9 1000 (by omega) (by omega)) dX0_partDays_79 ?_
                refine lv_topl (fun f_52 ef_52 => ?_)
                refine lv_ladd hx hb dX0_partDays_80 ?_
                refine lv_topl (fun f_53 ef_53 => ?_)
                refine lv_ladd hx hb dX0_partDays_81 ?_
                refine lv_topl (fun f_54 ef_54 => ?_)
                refine pg_put (D := D) (ci := 8) (v := .long f_54) (ty := .long) (C := RX8) (T := TX8) (N := 6) hx hb hg inG8 tyX8 tyX8_ok nmX8 hown hK hP hD hS hb_39.1 hM_44 rfl 4 (by decide) (hg _ wd_255) (fun _ h9 => h9) rfl (by decide +kernel) rfl rfl (Nat.le_of_ble_eq_true rfl) dX0_partDays_82 (fun H_55 locs hP hD hS => ?_)
                obtain ⟨M_56, eM_56⟩ : ∃ M1 : Hp, M1 = va_up M_43 b_38 ((b8_9 v40_0 v40_1 v40_2 f_41 f_54 v40_5)) := ⟨_, rfl⟩
                have hP : va_P D vwCl ([] ++ va_pl L M_56) H_55 := by rw [eM_56]; exact hP
                have hD : va_D A ([] ++ va_pl L M_56) := by rw [eM_56]; exact hD
                have hW : WOK cy K L M_56 := by rw [eM_56]; exact hW.up_8 hb_39 ⟨v40_0, v40_1, v40_2, f_41, f_54, v40_5, rfl, h40_0, h40_1⟩
                have hF : fr K0 L0 [0, 8, 21, 72] M0 M_56 := by rw [eM_56]; exact hF.upX hX0 hb_39 (by decide)
                have hM_57 : M_56 b_38 = (b8_9 v40_0 v40_1 v40_2 f_41 f_54 v40_5) := by rw [eM_56]; exact va_up_self _ _ _
                have hM_58 : M_56 oa = (b0_6 y0 y1 y2 (nI (gw9 + 1)) y4) := by rw [eM_56, va_up_ne _ _ (i_33.neT hb_39 (by decide))]; exact hM_45
                have hM_59 : M_56 k1 = (b2_2 v46_0 v46_1 v46_2 v46_3 (nI v46_4) (nI v46_5) v46_6 v46_7 v46_8 (nI v46_9) v46_10 (nI v46_11) v46_12 v46_13 v46_14 v46_15 v46_16 v46_17 v46_18 v46_19) := by rw [eM_56, va_up_ne _ _ (i_34.neT hb_39 (by decide))]; exact hM46
                have hM_60 : M_56 v46_13 = .inl (cy 15, 1000, .inr (.inl (f51))) := by rw [eM_56, va_up_ne _ _ (h46_13.neT hb_39 (by decide))]; exact hM51
                refine lv_iinc (v := (nI (v4w9 + 1))) (lv' := [(4, .int (nI (v4w9 + 1))), (3, .ref b_38), (0, .ref oa), (1, .ref k1), (2, .int k2)]) hx hb dX0_partDays_85 hl (k := 1) rfl (nI_1 v4w9) (by decide) rfl (fun ls hl => ?_)
                refine lv_goto (tgt := 14) hx hb dX0_partDays_88 (by decide) ?_
                refine W.widen (k := 3 * (gw9 + 1)) (n := 18 * (gw9 + 1)) (by omega) (by omega) ?_
                exact ih_7 (some b_38) (v4w9 + 1) (gw9 + 1) K L M_56 H_55 _ _ (by omega) (iskN.some hb_39) (by omega) hM_58 i_33 i_34 i_35 i_36 i_37 hb_32 hX0 hNW hW hF hP hD hS (lv_sub hl [0, 1, 2, 3, 4] rfl)
            · have hz := rfl (a := 0)
              have hPc : va_P D vwCl ([] ++ va_pl L M_12) H_13 := hP
              have hDc : va_D A ([] ++ va_pl L M_12) := hD
              have hFc : ∀ q, va_A ([] ++ va_pl L M_12) H_13.size q → A q := pg_free hDc hS hA
              refine va_callq (va_runV (As := [.int (nI v4w9)]) (rest := []) ⟨hx, hb, hml, hown, hg⟩ (s_append_full l D cy K L M_12 H_13.size oa (nI v4w9) y0 y1 y2 gw9 y4 hW i_15 (by omega) hM_14 i_17 i_18 i_19 hb_20) (cwV 1 hg (gV wd_630 wd_631 wd_632 wd_204 wd_633) rfl rfl rfl (by decide +kernel) ⟨(Nat.le_trans (Nat.le_of_ble_eq_true rfl) hRf), (Nat.le_trans (Nat.le_of_ble_eq_true rfl) hRl)⟩) ⟨PG.blind, pg_recv hK hP i_15.1 hM_14 rfl, fun U hU hW => ⟨rfl, PG.at hPc hK hDc hN hU hW⟩⟩ rfl rfl hl.1 rfl (lv_room (Nat.le_of_ble_eq_true rfl)) dX0_partDays_44 ⟨by omega, by omega⟩) hS (fun q _ h => hFc q h) hFc (fun r_62 M_63 t H_61 locs ht hvm hw hB hz1 hk1 hS => ?_)
              have hp_64 := hw
              obtain ⟨hP1, hD1⟩ := hB
              rw [ht] at hP1
              have hP : va_P D vwCl ([] ++ va_pl L M_12) H_61 := hP1
              have hD : va_D A ([] ++ va_pl L M_12) := hD1.mono hFc
              rcases r_62 with _ | b_65
              · have hz := rfl (a := 0)
                refine lv_astore_nN (lv' := [(3, .null), (4, .int (nI v4w9)), (0, .ref oa), (1, .ref k1), (2, .int k2)]) hx hb dX0_partDays_47 rfl hl (by decide) rfl (fun ls hl => ?_)
                refine lv_aload_nN hx hb dX0_partDays_48 rfl (lv_at hl 0 rfl) ?_
                refine lv_ifnullN (tgt := 85) hx hb dX0_partDays_49 (by decide) ?_
                refine lv_iinc (v := (nI (v4w9 + 1))) (lv' := [(4, .int (nI (v4w9 + 1))), (3, .null), (0, .ref oa), (1, .ref k1), (2, .int k2)]) hx hb dX0_partDays_85 hl (k := 1) rfl (nI_1 v4w9) (by decide) rfl (fun ls hl => ?_)
                refine lv_goto (tgt := 14) hx hb dX0_partDays_88 (by decide) ?_
                refine W.widen (k := 3 * gw9) (n := 18 * gw9) (by omega) (by omega) ?_
                exact ih_7 none (v4w9 + 1) gw9 K L M_12 H_61 _ _ (by omega) iskN.none (by omega) hM_14 i_15 i_16 i_17 i_18 i_19 hb_20 hX0 hNW hW hF hP hD hS (lv_sub hl [0, 1, 2, 3, 4] rfl)
              · have hb_66 := hp_64 b_65 rfl
                refine lv_astore_n (lv' := [(3, .ref b_65), (4, .int (nI v4w9)), (0, .ref oa), (1, .ref k1), (2, .int k2)]) hx hb dX0_partDays_47 rfl hl (by decide) rfl (fun ls hl => ?_)
                refine lv_aload_n hx hb dX0_partDays_48 rfl (lv_at hl 0 rfl) ?_
                refine lv_ifnull hx hb dX0_partDays_49 ?_
                refine lv_aload_n hx hb dX0_partDays_52 rfl (lv_at hl 0 rfl) ?_
                refine lv_dup hx hb dX0_partDays_53 rfl ?_
                obtain ⟨v67_0, v67_1, v67_2, v67_3, v67_4, v67_5, hM67, h67_0, h67_1⟩ := hW.open_8 hb_66
                refine pg_get (D := D) (ci := 8) (v := .int v67_3) (C := RX8) (T := TX8) (N := 6) hx hb hg inG8 hown hK hP hb_66.1 hM67 rfl 3 (by decide) (hg _ wd_220) (fun _ h9 => h9) rfl dX0_partDays_54 ?_
                refine lv_iconst (v := 1) hx hb dX0_partDays_57 (by decide) ?_
                refine lv_iadd hx hb dX0_partDays_58 ?_
                refine lv_topi (fun f_68 ef_68 => ?_)
                refine pg_put (D := D) (ci := 8) (v := .int f_68) (ty := .int) (C := RX8) (T := TX8) (N := 6) hx hb hg inG8 tyX8 tyX8_ok nmX8 hown hK hP hD hS hb_66.1 hM67 rfl 3 (by decide) (hg _ wd_220) (fun _ h9 => h9) rfl (by decide +kernel) rfl rfl (Nat.le_of_ble_eq_true rfl) dX0_partDays_59 (fun H_69 locs hP hD hS => ?_)
                obtain ⟨M_70, eM_70⟩ : ∃ M1 : Hp, M1 = va_up M_12 b_65 ((b8_9 v67_0 v67_1 v67_2 f_68 v67_4 v67_5)) := ⟨_, rfl⟩
                have hP : va_P D vwCl ([] ++ va_pl L M_70) H_69 := by rw [eM_70]; exact hP
                have hD : va_D A ([] ++ va_pl L M_70) := by rw [eM_70]; exact hD
                have hW : WOK cy K L M_70 := by rw [eM_70]; exact hW.up_8 hb_66 ⟨v67_0, v67_1, v67_2, f_68, v67_4, v67_5, rfl, h67_0, h67_1⟩
                have hF : fr K0 L0 [0, 8, 21, 72] M0 M_70 := by rw [eM_70]; exact hF.upX hX0 hb_66 (by decide)
                have hM_71 : M_70 b_65 = (b8_9 v67_0 v67_1 v67_2 f_68 v67_4 v67_5) := by rw [eM_70]; exact va_up_self _ _ _
                have hM_72 : M_70 oa = (b0_6 y0 y1 y2 (nI gw9) y4) := by rw [eM_70, va_up_ne _ _ (i_15.neT hb_66 (by decide))]; exact hM_14
                refine lv_aload_n hx hb dX0_partDays_62 rfl (lv_at hl 0 rfl) ?_
                refine lv_dup hx hb dX0_partDays_63 rfl ?_
                refine pg_get (D := D) (ci := 8) (v := .long v67_4) (C := RX8) (T := TX8) (N := 6) hx hb hg inG8 hown hK hP hb_66.1 hM_71 rfl 4 (by decide) (hg _ wd_255) (fun _ h9 => h9) rfl dX0_partDays_64 ?_
                refine lv_aload_n hx hb dX0_partDays_67 rfl (lv_at hl 3 rfl) ?_
                refine lv_iload hx hb dX0_partDays_68 (lv_at hl 1 rfl) ?_
                obtain ⟨v73_0, v73_1, v73_2, v73_3, v73_4, v73_5, v73_6, v73_7, v73_8, v73_9, v73_10, v73_11, v73_12, v73_13, v73_14, v73_15, v73_16, v73_17, v73_18, v73_19, hM73, h73_3, h73_4, h73_5, h73_6, h73_7, h73_8, h73_9, h73_10, h73_11, h73_12, h73_13, h73_16, h73_17, h73_18, h73_19⟩ := hW.open_2 i_16
                have hPc : va_P D vwCl ([] ++ va_pl L M_70) H_69 := hP
                have hDc : va_D A ([] ++ va_pl L M_70) := hD
                have hFc : ∀ q, va_A ([] ++ va_pl L M_70) H_69.size q → A q := pg_free hDc hS hA
                refine va_calll (va_runV (As := [.int (nI v4w9)]) (rest := [.long v67_4, .ref b_65]) ⟨hx, hb, hml, hown, hg⟩ (s_X2_entriesOn l D cy K L M_70 H_69.size k1 (nI v4w9)  hW i_16) (cwV 1 hg (gV wd_634 wd_508 wd_509 wd_57 wd_510) rfl rfl rfl (by decide +kernel) ⟨(Nat.le_trans (Nat.le_of_ble_eq_true rfl) hRf), (Nat.le_trans (Nat.le_of_ble_eq_true rfl) hRl)⟩) ⟨PG.blind, pg_recv hK hP i_16.1 hM73 rfl, fun U hU hW => ⟨rfl, PG.at hPc hK hDc hN hU hW⟩⟩ rfl rfl hl.1 rfl (lv_room (Nat.le_of_ble_eq_true rfl)) dX0_partDays_70 ⟨by omega, by omega⟩) hS (fun q _ h => hFc q h) hFc (fun r_75 M_76 t H_74 locs ht hvm hw hB hz1 hk1 hS => ?_)
                have hp_77 := hw
                obtain ⟨hP1, hD1⟩ := hB
                rw [ht] at hP1
                have hP : va_P D vwCl ([] ++ va_pl L M_70) H_74 := hP1
                have hD : va_D A ([] ++ va_pl L M_70) := hD1.mono hFc
                refine lv_aload_n hx hb dX0_partDays_73 rfl (lv_at hl 3 rfl) ?_
                refine pg_get (D := D) (ci := 2) (v := .ref v73_13) (C := RX2) (T := TX2) (N := 20) hx hb hg inG2 hown hK hP i_16.1 hM73 rfl 13 (by decide) (hg _ wd_635) (fun _ h9 => h9) rfl dX0_partDays_74 ?_
                refine lv_iload hx hb dX0_partDays_77 (lv_at hl 1 rfl) ?_
                obtain ⟨f78, hM78⟩ := hW.open_67 h73_13
                refine pg_lald hx hb hK hP h73_13.1 1 hM78 rfl (inbN v4w9 1000 (by omega) (by omega)) dX0_partDays_79 ?_
                refine lv_topl (fun f_79 ef_79 => ?_)
                refine lv_ladd hx hb dX0_partDays_80 ?_
                refine lv_topl (fun f_80 ef_80 => ?_)
                refine lv_ladd hx hb dX0_partDays_81 ?_
                refine lv_topl (fun f_81 ef_81 => ?_)
                refine pg_put (D := D) (ci := 8) (v := .long f_81) (ty := .long) (C := RX8) (T := TX8) (N := 6) hx hb hg inG8 tyX8 tyX8_ok nmX8 hown hK hP hD hS hb_66.1 hM_71 rfl 4 (by decide) (hg _ wd_255) (fun _ h9 => h9) rfl (by decide +kernel) rfl rfl (Nat.le_of_ble_eq_true rfl) dX0_partDays_82 (fun H_82 locs hP hD hS => ?_)
                obtain ⟨M_83, eM_83⟩ : ∃ M1 : Hp, M1 = va_up M_70 b_65 ((b8_9 v67_0 v67_1 v67_2 f_68 f_81 v67_5)) := ⟨_, rfl⟩
                have hP : va_P D vwCl ([] ++ va_pl L M_83) H_82 := by rw [eM_83]; exact hP
                have hD : va_D A ([] ++ va_pl L M_83) := by rw [eM_83]; exact hD
                have hW : WOK cy K L M_83 := by rw [eM_83]; exact hW.up_8 hb_66 ⟨v67_0, v67_1, v67_2, f_68, f_81, v67_5, rfl, h67_0, h67_1⟩
                have hF : fr K0 L0 [0, 8, 21, 72] M0 M_83 := by rw [eM_83]; exact hF.upX hX0 hb_66 (by decide)
                have hM_84 : M_83 b_65 = (b8_9 v67_0 v67_1 v67_2 f_68 f_81 v67_5) := by rw [eM_83]; exact va_up_self _ _ _
                have hM_85 : M_83 oa = (b0_6 y0 y1 y2 (nI gw9) y4) := by rw [eM_83, va_up_ne _ _ (i_15.neT hb_66 (by decide))]; exact hM_72
                have hM_86 : M_83 k1 = (b2_2 v73_0 v73_1 v73_2 v73_3 (nI v73_4) (nI v73_5) v73_6 v73_7 v73_8 (nI v73_9) v73_10 (nI v73_11) v73_12 v73_13 v73_14 v73_15 v73_16 v73_17 v73_18 v73_19) := by rw [eM_83, va_up_ne _ _ (i_16.neT hb_66 (by decide))]; exact hM73
                have hM_87 : M_83 v73_13 = .inl (cy 15, 1000, .inr (.inl (f78))) := by rw [eM_83, va_up_ne _ _ (h73_13.neT hb_66 (by decide))]; exact hM78
                refine lv_iinc (v := (nI (v4w9 + 1))) (lv' := [(4, .int (nI (v4w9 + 1))), (3, .ref b_65), (0, .ref oa), (1, .ref k1), (2, .int k2)]) hx hb dX0_partDays_85 hl (k := 1) rfl (nI_1 v4w9) (by decide) rfl (fun ls hl => ?_)
                refine lv_goto (tgt := 14) hx hb dX0_partDays_88 (by decide) ?_
                refine W.widen (k := 3 * gw9) (n := 18 * gw9) (by omega) (by omega) ?_
                exact ih_7 (some b_65) (v4w9 + 1) gw9 K L M_83 H_82 _ _ (by omega) (iskN.some hb_66) (by omega) hM_85 i_15 i_16 i_17 i_18 i_19 hb_20 hX0 hNW hW hF hP hD hS (lv_sub hl [0, 1, 2, 3, 4] rfl)
      · have hb_88 := hq_10 b_21 rfl
        refine lv_iload hx hb dX0_partDays_14 (lv_at hl 0 rfl) ?_
        refine lv_iload_n hx hb dX0_partDays_16 rfl (lv_at hl 4 rfl) ?_
        refine lv_icmp_gt (tgt := 91) hx hb dX0_partDays_17 (by decide) (fun c_89 => ?_) (fun c_89 => ?_)
        · have hz := rfl (a := 0)
          refine W.widen (k := 360) (n := 2160) (by omega) (by omega) ?_
          rw [hQ]
          exact W.vret hx hb hr (fun t ht hW9 => ⟨⟨(K, L, M_12), rfl, ⟨hX0, hW, hF, trivial⟩, ⟨hNW, by rw [ht]; exact hP, hD⟩⟩, hS.F ht⟩) hS.2.2 dX0_partDays_91
        · have hz := rfl (a := 0)
          refine lv_iload hx hb dX0_partDays_20 (lv_at hl 0 rfl) ?_
          refine lv_sipush (v := 999) hx hb dX0_partDays_22 (by decide) ?_
          refine lv_icmp_gt (tgt := 91) hx hb dX0_partDays_25 (by decide) (fun c_90 => ?_) (fun c_90 => ?_)
          · have hz := rfl (a := 0)
            have n_91 : 999 < v4w9 := (iLT (a := 999) (b := v4w9) (by omega) (by omega)).mp c_90
            refine W.widen (k := 360) (n := 2160) (by omega) (by omega) ?_
            rw [hQ]
            exact W.vret hx hb hr (fun t ht hW9 => ⟨⟨(K, L, M_12), rfl, ⟨hX0, hW, hF, trivial⟩, ⟨hNW, by rw [ht]; exact hP, hD⟩⟩, hS.F ht⟩) hS.2.2 dX0_partDays_91
          · have hz := rfl (a := 0)
            have n_92 : ¬ (999 < v4w9) := fun q => c_90 ((iLT (a := 999) (b := v4w9) (by omega) (by omega)).mpr q)
            refine lv_aload_n hx hb dX0_partDays_28 rfl (lv_at hl 1 rfl) ?_
            refine lv_ifnull hx hb dX0_partDays_29 ?_
            refine lv_aload_n hx hb dX0_partDays_32 rfl (lv_at hl 3 rfl) ?_
            refine lv_iload hx hb dX0_partDays_33 (lv_at hl 0 rfl) ?_
            obtain ⟨v93_0, v93_1, v93_2, v93_3, v93_4, v93_5, v93_6, v93_7, v93_8, v93_9, v93_10, v93_11, v93_12, v93_13, v93_14, v93_15, v93_16, v93_17, v93_18, v93_19, hM93, h93_3, h93_4, h93_5, h93_6, h93_7, h93_8, h93_9, h93_10, h93_11, h93_12, h93_13, h93_16, h93_17, h93_18, h93_19⟩ := hW.open_2 i_16
            have hPc : va_P D vwCl ([] ++ va_pl L M_12) H_13 := hP
            have hDc : va_D A ([] ++ va_pl L M_12) := hD
            have hFc : ∀ q, va_A ([] ++ va_pl L M_12) H_13.size q → A q := pg_free hDc hS hA
            refine va_calli (va_runV (As := [.int (nI v4w9)]) (rest := []) ⟨hx, hb, hml, hown, hg⟩ (s_X2_isParted l D cy K L M_12 H_13.size k1 (nI v4w9)  hW i_16) (cwV 1 hg (gV wd_636 wd_637 wd_638 wd_57 wd_639) rfl rfl rfl (by decide +kernel) ⟨(Nat.le_trans (Nat.le_of_ble_eq_true rfl) hRf), (Nat.le_trans (Nat.le_of_ble_eq_true rfl) hRl)⟩) ⟨PG.blind, pg_recv hK hP i_16.1 hM93 rfl, fun U hU hW => ⟨rfl, PG.at hPc hK hDc hN hU hW⟩⟩ rfl rfl hl.1 rfl (lv_room (Nat.le_of_ble_eq_true rfl)) dX0_partDays_35 ⟨by omega, by omega⟩) hS (fun q _ h => hFc q h) hFc (fun r_95 M_96 t H_94 locs ht hvm hw hB hz1 hk1 hS => ?_)
            have hp_97 := hw
            obtain ⟨hP1, hD1⟩ := hB
            rw [ht] at hP1
            have hP : va_P D vwCl ([] ++ va_pl L M_12) H_94 := hP1
            have hD : va_D A ([] ++ va_pl L M_12) := hD1.mono hFc
            rcases hp_97 with rfl | rfl
            · have hz := rfl (a := 0)
              refine lv_if_eq (tgt := 48) hx hb dX0_partDays_38 (by decide) (fun c_98 => absurd c_98 (by decide)) (fun _ => ?_)
              refine lv_aload_n hx hb dX0_partDays_41 rfl (lv_at hl 2 rfl) ?_
              refine lv_iload hx hb dX0_partDays_42 (lv_at hl 0 rfl) ?_
              rcases Nat.lt_or_ge gw9 120 with hlt | hge
              · have hz := rfl (a := 0)
                have hPc : va_P D vwCl ([] ++ va_pl L M_12) H_94 := hP
                have hDc : va_D A ([] ++ va_pl L M_12) := hD
                have hFc : ∀ q, va_A ([] ++ va_pl L M_12) H_94.size q → A q := pg_free hDc hS hA
                refine va_callq (va_runV (As := [.int (nI v4w9)]) (rest := []) ⟨hx, hb, hml, hown, hg⟩ (e_appN l D cy K L M_12 H_94.size oa (nI v4w9) y0 y1 y2 gw9 y4 hW i_15 (by omega) hM_14 i_17 i_18 i_19 hb_20) (cwV 1 hg (gV wd_630 wd_631 wd_632 wd_204 wd_633) rfl rfl rfl (by decide +kernel) ⟨(Nat.le_trans (Nat.le_of_ble_eq_true rfl) hRf), (Nat.le_trans (Nat.le_of_ble_eq_true rfl) hRl)⟩) ⟨PG.blind, pg_recv hK hP i_15.1 hM_14 rfl, fun U hU hW => ⟨rfl, PG.at hPc hK hDc hN hU hW⟩⟩ rfl rfl hl.1 rfl (lv_room (Nat.le_of_ble_eq_true rfl)) dX0_partDays_44 ⟨by omega, by omega⟩) hS (fun q _ h => hFc q h) hFc (fun r_100 M_101 t H_99 locs ht hvm hw hB hz1 hk1 hS => ?_)
                have hWb := hW
                obtain ⟨K9, L9, M_101m⟩ := M_101
                dsimp only at hw hB
                obtain ⟨hx9, hW, hF2, hM_103, hp_102⟩ := hw
                obtain ⟨hg_104, hP1, hD1⟩ := hB
                rw [ht] at hP1
                have hP : va_P D vwCl ([] ++ va_pl L9 M_101m) H_99 := hP1
                have hD : va_D A ([] ++ va_pl L9 M_101m) := hD1.mono hFc
                have hM_105 : M_101m k1 = (b2_2 v93_0 v93_1 v93_2 v93_3 (nI v93_4) (nI v93_5) v93_6 v93_7 v93_8 (nI v93_9) v93_10 (nI v93_11) v93_12 v93_13 v93_14 v93_15 v93_16 v93_17 v93_18 v93_19) := (hF2.at i_16 (by decide)).trans hM93
                have hb_106 : (gw9 + 1) ≤ 120 := by omega
                have hF : fr K0 L0 [0, 8, 21, 72] M0 M_101m := hF.trX hX0 hF2 (by decide)
                have hX0 := hX0.tr hx9
                have hNW := hNW.tr hg_104
                have i_107 := i_15.ext hx9
                have i_108 := i_16.ext hx9
                have i_109 := i_17.ext hx9
                have i_110 := i_18.ext hx9
                have i_111 := i_19.ext hx9
                have i_112 := hb_88.ext hx9
                have i_113 := h93_3.ext hx9
                have i_114 := h93_6.ext hx9
                have i_115 := h93_7.ext hx9
                have i_116 := h93_8.ext hx9
                have i_117 := h93_10.ext hx9
                have i_118 := h93_12.ext hx9
                have i_119 := h93_13.ext hx9
                have i_120 := h93_16.ext hx9
                have i_121 := h93_17.ext hx9
                have i_122 := h93_18.ext hx9
                have i_123 := h93_19.ext hx9
                obtain ⟨K, L, hK9, hL9⟩ : ∃ (K : Kp) (L : List Nat), K = K9 ∧ L = L9 := ⟨_, _, rfl, rfl⟩
                subst hK9
                subst hL9
                have hz := rfl (a := 0)
                rcases r_100 with _ | b_124
                · have hz := rfl (a := 0)
                  refine lv_astore_nN (lv' := [(3, .null), (4, .int (nI v4w9)), (0, .ref oa), (1, .ref k1), (2, .int k2)]) hx hb dX0_partDays_47 rfl hl (by decide) rfl (fun ls hl => ?_)
                  refine lv_aload_nN hx hb dX0_partDays_48 rfl (lv_at hl 0 rfl) ?_
                  refine lv_ifnullN (tgt := 85) hx hb dX0_partDays_49 (by decide) ?_
                  refine lv_iinc (v := (nI (v4w9 + 1))) (lv' := [(4, .int (nI (v4w9 + 1))), (3, .null), (0, .ref oa), (1, .ref k1), (2, .int k2)]) hx hb dX0_partDays_85 hl (k := 1) rfl (nI_1 v4w9) (by decide) rfl (fun ls hl => ?_)
                  refine lv_goto (tgt := 14) hx hb dX0_partDays_88 (by decide) ?_
                  refine W.widen (k := 3 * (gw9 + 1)) (n := 18 * (gw9 + 1)) (by omega) (by omega) ?_
                  exact ih_7 none (v4w9 + 1) (gw9 + 1) K L M_101m H_99 _ _ (by omega) iskN.none (by omega) hM_103 i_107 i_108 i_109 i_110 i_111 hb_106 hX0 hNW hW hF hP hD hS (lv_sub hl [0, 1, 2, 3, 4] rfl)
                · have hb_125 := hp_102 b_124 rfl
                  refine lv_astore_n (lv' := [(3, .ref b_124), (4, .int (nI v4w9)), (0, .ref oa), (1, .ref k1), (2, .int k2)]) hx hb dX0_partDays_47 rfl hl (by decide) rfl (fun ls hl => ?_)
                  refine lv_aload_n hx hb dX0_partDays_48 rfl (lv_at hl 0 rfl) ?_
                  refine lv_ifnull hx hb dX0_partDays_49 ?_
                  refine lv_aload_n hx hb dX0_partDays_52 rfl (lv_at hl 0 rfl) ?_
                  refine lv_dup hx hb dX0_partDays_53 rfl ?_
                  obtain ⟨v126_0, v126_1, v126_2, v126_3, v126_4, v126_5, hM126, h126_0, h126_1⟩ := hW.open_8 hb_125
                  refine pg_get (D := D) (ci := 8) (v := .int v126_3) (C := RX8) (T := TX8) (N := 6) hx hb hg inG8 hown hK hP hb_125.1 hM126 rfl 3 (by decide) (hg _ wd_220) (fun _ h9 => h9) rfl dX0_partDays_54 ?_
                  refine lv_iconst (v := 1) hx hb dX0_partDays_57 (by decide) ?_
                  refine lv_iadd hx hb dX0_partDays_58 ?_
                  refine lv_topi (fun f_127 ef_127 => ?_)
                  refine pg_put (D := D) (ci := 8) (v := .int f_127) (ty := .int) (C := RX8) (T := TX8) (N := 6) hx hb hg inG8 tyX8 tyX8_ok nmX8 hown hK hP hD hS hb_125.1 hM126 rfl 3 (by decide) (hg _ wd_220) (fun _ h9 => h9) rfl (by decide +kernel) rfl rfl (Nat.le_of_ble_eq_true rfl) dX0_partDays_59 (fun H_128 locs hP hD hS => ?_)
                  obtain ⟨M_129, eM_129⟩ : ∃ M1 : Hp, M1 = va_up M_101m b_124 ((b8_9 v126_0 v126_1 v126_2 f_127 v126_4 v126_5)) := ⟨_, rfl⟩
                  have hP : va_P D vwCl ([] ++ va_pl L M_129) H_128 := by rw [eM_129]; exact hP
                  have hD : va_D A ([] ++ va_pl L M_129) := by rw [eM_129]; exact hD
                  have hW : WOK cy K L M_129 := by rw [eM_129]; exact hW.up_8 hb_125 ⟨v126_0, v126_1, v126_2, f_127, v126_4, v126_5, rfl, h126_0, h126_1⟩
                  have hF : fr K0 L0 [0, 8, 21, 72] M0 M_129 := by rw [eM_129]; exact hF.upX hX0 hb_125 (by decide)
                  have hM_130 : M_129 b_124 = (b8_9 v126_0 v126_1 v126_2 f_127 v126_4 v126_5) := by rw [eM_129]; exact va_up_self _ _ _
                  have hM_131 : M_129 k1 = (b2_2 v93_0 v93_1 v93_2 v93_3 (nI v93_4) (nI v93_5) v93_6 v93_7 v93_8 (nI v93_9) v93_10 (nI v93_11) v93_12 v93_13 v93_14 v93_15 v93_16 v93_17 v93_18 v93_19) := by rw [eM_129, va_up_ne _ _ (i_108.neT hb_125 (by decide))]; exact hM_105
                  have hM_132 : M_129 oa = (b0_6 y0 y1 y2 (nI (gw9 + 1)) y4) := by rw [eM_129, va_up_ne _ _ (i_107.neT hb_125 (by decide))]; exact hM_103
                  refine lv_aload_n hx hb dX0_partDays_62 rfl (lv_at hl 0 rfl) ?_
                  refine lv_dup hx hb dX0_partDays_63 rfl ?_
                  refine pg_get (D := D) (ci := 8) (v := .long v126_4) (C := RX8) (T := TX8) (N := 6) hx hb hg inG8 hown hK hP hb_125.1 hM_130 rfl 4 (by decide) (hg _ wd_255) (fun _ h9 => h9) rfl dX0_partDays_64 ?_
                  refine lv_aload_n hx hb dX0_partDays_67 rfl (lv_at hl 3 rfl) ?_
                  refine lv_iload hx hb dX0_partDays_68 (lv_at hl 1 rfl) ?_
                  have hPc : va_P D vwCl ([] ++ va_pl L M_129) H_128 := hP
                  have hDc : va_D A ([] ++ va_pl L M_129) := hD
                  have hFc : ∀ q, va_A ([] ++ va_pl L M_129) H_128.size q → A q := pg_free hDc hS hA
                  refine va_calll (va_runV (As := [.int (nI v4w9)]) (rest := [.long v126_4, .ref b_124]) ⟨hx, hb, hml, hown, hg⟩ (s_X2_entriesOn l D cy K L M_129 H_128.size k1 (nI v4w9)  hW i_108) (cwV 1 hg (gV wd_634 wd_508 wd_509 wd_57 wd_510) rfl rfl rfl (by decide +kernel) ⟨(Nat.le_trans (Nat.le_of_ble_eq_true rfl) hRf), (Nat.le_trans (Nat.le_of_ble_eq_true rfl) hRl)⟩) ⟨PG.blind, pg_recv hK hP i_108.1 hM_131 rfl, fun U hU hW => ⟨rfl, PG.at hPc hK hDc hN hU hW⟩⟩ rfl rfl hl.1 rfl (lv_room (Nat.le_of_ble_eq_true rfl)) dX0_partDays_70 ⟨by omega, by omega⟩) hS (fun q _ h => hFc q h) hFc (fun r_134 M_135 t H_133 locs ht hvm hw hB hz1 hk1 hS => ?_)
                  have hp_136 := hw
                  obtain ⟨hP1, hD1⟩ := hB
                  rw [ht] at hP1
                  have hP : va_P D vwCl ([] ++ va_pl L M_129) H_133 := hP1
                  have hD : va_D A ([] ++ va_pl L M_129) := hD1.mono hFc
                  refine lv_aload_n hx hb dX0_partDays_73 rfl (lv_at hl 3 rfl) ?_
                  refine pg_get (D := D) (ci := 2) (v := .ref v93_13) (C := RX2) (T := TX2) (N := 20) hx hb hg inG2 hown hK hP i_108.1 hM_131 rfl 13 (by decide) (hg _ wd_635) (fun _ h9 => h9) rfl dX0_partDays_74 ?_
                  refine lv_iload hx hb dX0_partDays_77 (lv_at hl 1 rfl) ?_
                  obtain ⟨f137, hM137⟩ := hW.open_67 i_119
                  refine pg_lald hx hb hK hP i_119.1 1 hM137 rfl (inbN v4w9 1000 (by omega) (by omega)) dX0_partDays_79 ?_
                  refine lv_topl (fun f_138 ef_138 => ?_)
                  refine lv_ladd hx hb dX0_partDays_80 ?_
                  refine lv_topl (fun f_139 ef_139 => ?_)
                  refine lv_ladd hx hb dX0_partDays_81 ?_
                  refine lv_topl (fun f_140 ef_140 => ?_)
                  refine pg_put (D := D) (ci := 8) (v := .long f_140) (ty := .long) (C := RX8) (T := TX8) (N := 6) hx hb hg inG8 tyX8 tyX8_ok nmX8 hown hK hP hD hS hb_125.1 hM_130 rfl 4 (by decide) (hg _ wd_255) (fun _ h9 => h9) rfl (by decide +kernel) rfl rfl (Nat.le_of_ble_eq_true rfl) dX0_partDays_82 (fun H_141 locs hP hD hS => ?_)
                  obtain ⟨M_142, eM_142⟩ : ∃ M1 : Hp, M1 = va_up M_129 b_124 ((b8_9 v126_0 v126_1 v126_2 f_127 f_140 v126_5)) := ⟨_, rfl⟩
                  have hP : va_P D vwCl ([] ++ va_pl L M_142) H_141 := by rw [eM_142]; exact hP
                  have hD : va_D A ([] ++ va_pl L M_142) := by rw [eM_142]; exact hD
                  have hW : WOK cy K L M_142 := by rw [eM_142]; exact hW.up_8 hb_125 ⟨v126_0, v126_1, v126_2, f_127, f_140, v126_5, rfl, h126_0, h126_1⟩
                  have hF : fr K0 L0 [0, 8, 21, 72] M0 M_142 := by rw [eM_142]; exact hF.upX hX0 hb_125 (by decide)
                  have hM_143 : M_142 b_124 = (b8_9 v126_0 v126_1 v126_2 f_127 f_140 v126_5) := by rw [eM_142]; exact va_up_self _ _ _
                  have hM_144 : M_142 k1 = (b2_2 v93_0 v93_1 v93_2 v93_3 (nI v93_4) (nI v93_5) v93_6 v93_7 v93_8 (nI v93_9) v93_10 (nI v93_11) v93_12 v93_13 v93_14 v93_15 v93_16 v93_17 v93_18 v93_19) := by rw [eM_142, va_up_ne _ _ (i_108.neT hb_125 (by decide))]; exact hM_131
                  have hM_145 : M_142 oa = (b0_6 y0 y1 y2 (nI (gw9 + 1)) y4) := by rw [eM_142, va_up_ne _ _ (i_107.neT hb_125 (by decide))]; exact hM_132
                  have hM_146 : M_142 v93_13 = .inl (cy 15, 1000, .inr (.inl (f137))) := by rw [eM_142, va_up_ne _ _ (i_119.neT hb_125 (by decide))]; exact hM137
                  refine lv_iinc (v := (nI (v4w9 + 1))) (lv' := [(4, .int (nI (v4w9 + 1))), (3, .ref b_124), (0, .ref oa), (1, .ref k1), (2, .int k2)]) hx hb dX0_partDays_85 hl (k := 1) rfl (nI_1 v4w9) (by decide) rfl (fun ls hl => ?_)
                  refine lv_goto (tgt := 14) hx hb dX0_partDays_88 (by decide) ?_
                  refine W.widen (k := 3 * (gw9 + 1)) (n := 18 * (gw9 + 1)) (by omega) (by omega) ?_
                  exact ih_7 (some b_124) (v4w9 + 1) (gw9 + 1) K L M_142 H_141 _ _ (by omega) (iskN.some hb_125) (by omega) hM_145 i_107 i_108 i_109 i_110 i_111 hb_106 hX0 hNW hW hF hP hD hS (lv_sub hl [0, 1, 2, 3, 4] rfl)
              · have hz := rfl (a := 0)
                have hPc : va_P D vwCl ([] ++ va_pl L M_12) H_94 := hP
                have hDc : va_D A ([] ++ va_pl L M_12) := hD
                have hFc : ∀ q, va_A ([] ++ va_pl L M_12) H_94.size q → A q := pg_free hDc hS hA
                refine va_callq (va_runV (As := [.int (nI v4w9)]) (rest := []) ⟨hx, hb, hml, hown, hg⟩ (s_append_full l D cy K L M_12 H_94.size oa (nI v4w9) y0 y1 y2 gw9 y4 hW i_15 (by omega) hM_14 i_17 i_18 i_19 hb_20) (cwV 1 hg (gV wd_630 wd_631 wd_632 wd_204 wd_633) rfl rfl rfl (by decide +kernel) ⟨(Nat.le_trans (Nat.le_of_ble_eq_true rfl) hRf), (Nat.le_trans (Nat.le_of_ble_eq_true rfl) hRl)⟩) ⟨PG.blind, pg_recv hK hP i_15.1 hM_14 rfl, fun U hU hW => ⟨rfl, PG.at hPc hK hDc hN hU hW⟩⟩ rfl rfl hl.1 rfl (lv_room (Nat.le_of_ble_eq_true rfl)) dX0_partDays_44 ⟨by omega, by omega⟩) hS (fun q _ h => hFc q h) hFc (fun r_148 M_149 t H_147 locs ht hvm hw hB hz1 hk1 hS => ?_)
                have hp_150 := hw
                obtain ⟨hP1, hD1⟩ := hB
                rw [ht] at hP1
                have hP : va_P D vwCl ([] ++ va_pl L M_12) H_147 := hP1
                have hD : va_D A ([] ++ va_pl L M_12) := hD1.mono hFc
                rcases r_148 with _ | b_151
                · have hz := rfl (a := 0)
                  refine lv_astore_nN (lv' := [(3, .null), (4, .int (nI v4w9)), (0, .ref oa), (1, .ref k1), (2, .int k2)]) hx hb dX0_partDays_47 rfl hl (by decide) rfl (fun ls hl => ?_)
                  refine lv_aload_nN hx hb dX0_partDays_48 rfl (lv_at hl 0 rfl) ?_
                  refine lv_ifnullN (tgt := 85) hx hb dX0_partDays_49 (by decide) ?_
                  refine lv_iinc (v := (nI (v4w9 + 1))) (lv' := [(4, .int (nI (v4w9 + 1))), (3, .null), (0, .ref oa), (1, .ref k1), (2, .int k2)]) hx hb dX0_partDays_85 hl (k := 1) rfl (nI_1 v4w9) (by decide) rfl (fun ls hl => ?_)
                  refine lv_goto (tgt := 14) hx hb dX0_partDays_88 (by decide) ?_
                  refine W.widen (k := 3 * gw9) (n := 18 * gw9) (by omega) (by omega) ?_
                  exact ih_7 none (v4w9 + 1) gw9 K L M_12 H_147 _ _ (by omega) iskN.none (by omega) hM_14 i_15 i_16 i_17 i_18 i_19 hb_20 hX0 hNW hW hF hP hD hS (lv_sub hl [0, 1, 2, 3, 4] rfl)
                · have hb_152 := hp_150 b_151 rfl
                  refine lv_astore_n (lv' := [(3, .ref b_151), (4, .int (nI v4w9)), (0, .ref oa), (1, .ref k1), (2, .int k2)]) hx hb dX0_partDays_47 rfl hl (by decide) rfl (fun ls hl => ?_)
                  refine lv_aload_n hx hb dX0_partDays_48 rfl (lv_at hl 0 rfl) ?_
                  refine lv_ifnull hx hb dX0_partDays_49 ?_
                  refine lv_aload_n hx hb dX0_partDays_52 rfl (lv_at hl 0 rfl) ?_
                  refine lv_dup hx hb dX0_partDays_53 rfl ?_
                  obtain ⟨v153_0, v153_1, v153_2, v153_3, v153_4, v153_5, hM153, h153_0, h153_1⟩ := hW.open_8 hb_152
                  refine pg_get (D := D) (ci := 8) (v := .int v153_3) (C := RX8) (T := TX8) (N := 6) hx hb hg inG8 hown hK hP hb_152.1 hM153 rfl 3 (by decide) (hg _ wd_220) (fun _ h9 => h9) rfl dX0_partDays_54 ?_
                  refine lv_iconst (v := 1) hx hb dX0_partDays_57 (by decide) ?_
                  refine lv_iadd hx hb dX0_partDays_58 ?_
                  refine lv_topi (fun f_154 ef_154 => ?_)
                  refine pg_put (D := D) (ci := 8) (v := .int f_154) (ty := .int) (C := RX8) (T := TX8) (N := 6) hx hb hg inG8 tyX8 tyX8_ok nmX8 hown hK hP hD hS hb_152.1 hM153 rfl 3 (by decide) (hg _ wd_220) (fun _ h9 => h9) rfl (by decide +kernel) rfl rfl (Nat.le_of_ble_eq_true rfl) dX0_partDays_59 (fun H_155 locs hP hD hS => ?_)
                  obtain ⟨M_156, eM_156⟩ : ∃ M1 : Hp, M1 = va_up M_12 b_151 ((b8_9 v153_0 v153_1 v153_2 f_154 v153_4 v153_5)) := ⟨_, rfl⟩
                  have hP : va_P D vwCl ([] ++ va_pl L M_156) H_155 := by rw [eM_156]; exact hP
                  have hD : va_D A ([] ++ va_pl L M_156) := by rw [eM_156]; exact hD
                  have hW : WOK cy K L M_156 := by rw [eM_156]; exact hW.up_8 hb_152 ⟨v153_0, v153_1, v153_2, f_154, v153_4, v153_5, rfl, h153_0, h153_1⟩
                  have hF : fr K0 L0 [0, 8, 21, 72] M0 M_156 := by rw [eM_156]; exact hF.upX hX0 hb_152 (by decide)
                  have hM_157 : M_156 b_151 = (b8_9 v153_0 v153_1 v153_2 f_154 v153_4 v153_5) := by rw [eM_156]; exact va_up_self _ _ _
                  have hM_158 : M_156 oa = (b0_6 y0 y1 y2 (nI gw9) y4) := by rw [eM_156, va_up_ne _ _ (i_15.neT hb_152 (by decide))]; exact hM_14
                  have hM_159 : M_156 k1 = (b2_2 v93_0 v93_1 v93_2 v93_3 (nI v93_4) (nI v93_5) v93_6 v93_7 v93_8 (nI v93_9) v93_10 (nI v93_11) v93_12 v93_13 v93_14 v93_15 v93_16 v93_17 v93_18 v93_19) := by rw [eM_156, va_up_ne _ _ (i_16.neT hb_152 (by decide))]; exact hM93
                  refine lv_aload_n hx hb dX0_partDays_62 rfl (lv_at hl 0 rfl) ?_
                  refine lv_dup hx hb dX0_partDays_63 rfl ?_
                  refine pg_get (D := D) (ci := 8) (v := .long v153_4) (C := RX8) (T := TX8) (N := 6) hx hb hg inG8 hown hK hP hb_152.1 hM_157 rfl 4 (by decide) (hg _ wd_255) (fun _ h9 => h9) rfl dX0_partDays_64 ?_
                  refine lv_aload_n hx hb dX0_partDays_67 rfl (lv_at hl 3 rfl) ?_
                  refine lv_iload hx hb dX0_partDays_68 (lv_at hl 1 rfl) ?_
                  have hPc : va_P D vwCl ([] ++ va_pl L M_156) H_155 := hP
                  have hDc : va_D A ([] ++ va_pl L M_156) := hD
                  have hFc : ∀ q, va_A ([] ++ va_pl L M_156) H_155.size q → A q := pg_free hDc hS hA
                  refine va_calll (va_runV (As := [.int (nI v4w9)]) (rest := [.long v153_4, .ref b_151]) ⟨hx, hb, hml, hown, hg⟩ (s_X2_entriesOn l D cy K L M_156 H_155.size k1 (nI v4w9)  hW i_16) (cwV 1 hg (gV wd_634 wd_508 wd_509 wd_57 wd_510) rfl rfl rfl (by decide +kernel) ⟨(Nat.le_trans (Nat.le_of_ble_eq_true rfl) hRf), (Nat.le_trans (Nat.le_of_ble_eq_true rfl) hRl)⟩) ⟨PG.blind, pg_recv hK hP i_16.1 hM_159 rfl, fun U hU hW => ⟨rfl, PG.at hPc hK hDc hN hU hW⟩⟩ rfl rfl hl.1 rfl (lv_room (Nat.le_of_ble_eq_true rfl)) dX0_partDays_70 ⟨by omega, by omega⟩) hS (fun q _ h => hFc q h) hFc (fun r_161 M_162 t H_160 locs ht hvm hw hB hz1 hk1 hS => ?_)
                  have hp_163 := hw
                  obtain ⟨hP1, hD1⟩ := hB
                  rw [ht] at hP1
                  have hP : va_P D vwCl ([] ++ va_pl L M_156) H_160 := hP1
                  have hD : va_D A ([] ++ va_pl L M_156) := hD1.mono hFc
                  refine lv_aload_n hx hb dX0_partDays_73 rfl (lv_at hl 3 rfl) ?_
                  refine pg_get (D := D) (ci := 2) (v := .ref v93_13) (C := RX2) (T := TX2) (N := 20) hx hb hg inG2 hown hK hP i_16.1 hM_159 rfl 13 (by decide) (hg _ wd_635) (fun _ h9 => h9) rfl dX0_partDays_74 ?_
                  refine lv_iload hx hb dX0_partDays_77 (lv_at hl 1 rfl) ?_
                  obtain ⟨f164, hM164⟩ := hW.open_67 h93_13
                  refine pg_lald hx hb hK hP h93_13.1 1 hM164 rfl (inbN v4w9 1000 (by omega) (by omega)) dX0_partDays_79 ?_
                  refine lv_topl (fun f_165 ef_165 => ?_)
                  refine lv_ladd hx hb dX0_partDays_80 ?_
                  refine lv_topl (fun f_166 ef_166 => ?_)
                  refine lv_ladd hx hb dX0_partDays_81 ?_
                  refine lv_topl (fun f_167 ef_167 => ?_)
                  refine pg_put (D := D) (ci := 8) (v := .long f_167) (ty := .long) (C := RX8) (T := TX8) (N := 6) hx hb hg inG8 tyX8 tyX8_ok nmX8 hown hK hP hD hS hb_152.1 hM_157 rfl 4 (by decide) (hg _ wd_255) (fun _ h9 => h9) rfl (by decide +kernel) rfl rfl (Nat.le_of_ble_eq_true rfl) dX0_partDays_82 (fun H_168 locs hP hD hS => ?_)
                  obtain ⟨M_169, eM_169⟩ : ∃ M1 : Hp, M1 = va_up M_156 b_151 ((b8_9 v153_0 v153_1 v153_2 f_154 f_167 v153_5)) := ⟨_, rfl⟩
                  have hP : va_P D vwCl ([] ++ va_pl L M_169) H_168 := by rw [eM_169]; exact hP
                  have hD : va_D A ([] ++ va_pl L M_169) := by rw [eM_169]; exact hD
                  have hW : WOK cy K L M_169 := by rw [eM_169]; exact hW.up_8 hb_152 ⟨v153_0, v153_1, v153_2, f_154, f_167, v153_5, rfl, h153_0, h153_1⟩
                  have hF : fr K0 L0 [0, 8, 21, 72] M0 M_169 := by rw [eM_169]; exact hF.upX hX0 hb_152 (by decide)
                  have hM_170 : M_169 b_151 = (b8_9 v153_0 v153_1 v153_2 f_154 f_167 v153_5) := by rw [eM_169]; exact va_up_self _ _ _
                  have hM_171 : M_169 oa = (b0_6 y0 y1 y2 (nI gw9) y4) := by rw [eM_169, va_up_ne _ _ (i_15.neT hb_152 (by decide))]; exact hM_158
                  have hM_172 : M_169 k1 = (b2_2 v93_0 v93_1 v93_2 v93_3 (nI v93_4) (nI v93_5) v93_6 v93_7 v93_8 (nI v93_9) v93_10 (nI v93_11) v93_12 v93_13 v93_14 v93_15 v93_16 v93_17 v93_18 v93_19) := by rw [eM_169, va_up_ne _ _ (i_16.neT hb_152 (by decide))]; exact hM_159
                  have hM_173 : M_169 v93_13 = .inl (cy 15, 1000, .inr (.inl (f164))) := by rw [eM_169, va_up_ne _ _ (h93_13.neT hb_152 (by decide))]; exact hM164
                  refine lv_iinc (v := (nI (v4w9 + 1))) (lv' := [(4, .int (nI (v4w9 + 1))), (3, .ref b_151), (0, .ref oa), (1, .ref k1), (2, .int k2)]) hx hb dX0_partDays_85 hl (k := 1) rfl (nI_1 v4w9) (by decide) rfl (fun ls hl => ?_)
                  refine lv_goto (tgt := 14) hx hb dX0_partDays_88 (by decide) ?_
                  refine W.widen (k := 3 * gw9) (n := 18 * gw9) (by omega) (by omega) ?_
                  exact ih_7 (some b_151) (v4w9 + 1) gw9 K L M_169 H_168 _ _ (by omega) (iskN.some hb_152) (by omega) hM_171 i_15 i_16 i_17 i_18 i_19 hb_20 hX0 hNW hW hF hP hD hS (lv_sub hl [0, 1, 2, 3, 4] rfl)
            · have hz := rfl (a := 0)
              refine lv_if_eq (tgt := 48) hx hb dX0_partDays_38 (by decide) (fun _ => ?_) (fun c_174 => absurd c_174 (by decide))
              refine lv_aload_n hx hb dX0_partDays_48 rfl (lv_at hl 1 rfl) ?_
              refine lv_ifnull hx hb dX0_partDays_49 ?_
              refine lv_aload_n hx hb dX0_partDays_52 rfl (lv_at hl 1 rfl) ?_
              refine lv_dup hx hb dX0_partDays_53 rfl ?_
              obtain ⟨v175_0, v175_1, v175_2, v175_3, v175_4, v175_5, hM175, h175_0, h175_1⟩ := hW.open_8 hb_88
              refine pg_get (D := D) (ci := 8) (v := .int v175_3) (C := RX8) (T := TX8) (N := 6) hx hb hg inG8 hown hK hP hb_88.1 hM175 rfl 3 (by decide) (hg _ wd_220) (fun _ h9 => h9) rfl dX0_partDays_54 ?_
              refine lv_iconst (v := 1) hx hb dX0_partDays_57 (by decide) ?_
              refine lv_iadd hx hb dX0_partDays_58 ?_
              refine lv_topi (fun f_176 ef_176 => ?_)
              refine pg_put (D := D) (ci := 8) (v := .int f_176) (ty := .int) (C := RX8) (T := TX8) (N := 6) hx hb hg inG8 tyX8 tyX8_ok nmX8 hown hK hP hD hS hb_88.1 hM175 rfl 3 (by decide) (hg _ wd_220) (fun _ h9 => h9) rfl (by decide +kernel) rfl rfl (Nat.le_of_ble_eq_true rfl) dX0_partDays_59 (fun H_177 locs hP hD hS => ?_)
              obtain ⟨M_178, eM_178⟩ : ∃ M1 : Hp, M1 = va_up M_12 b_21 ((b8_9 v175_0 v175_1 v175_2 f_176 v175_4 v175_5)) := ⟨_, rfl⟩
              have hP : va_P D vwCl ([] ++ va_pl L M_178) H_177 := by rw [eM_178]; exact hP
              have hD : va_D A ([] ++ va_pl L M_178) := by rw [eM_178]; exact hD
              have hW : WOK cy K L M_178 := by rw [eM_178]; exact hW.up_8 hb_88 ⟨v175_0, v175_1, v175_2, f_176, v175_4, v175_5, rfl, h175_0, h175_1⟩
              have hF : fr K0 L0 [0, 8, 21, 72] M0 M_178 := by rw [eM_178]; exact hF.upX hX0 hb_88 (by decide)
              have hM_179 : M_178 b_21 = (b8_9 v175_0 v175_1 v175_2 f_176 v175_4 v175_5) := by rw [eM_178]; exact va_up_self _ _ _
              have hM_180 : M_178 oa = (b0_6 y0 y1 y2 (nI gw9) y4) := by rw [eM_178, va_up_ne _ _ (i_15.neT hb_88 (by decide))]; exact hM_14
              have hM_181 : M_178 k1 = (b2_2 v93_0 v93_1 v93_2 v93_3 (nI v93_4) (nI v93_5) v93_6 v93_7 v93_8 (nI v93_9) v93_10 (nI v93_11) v93_12 v93_13 v93_14 v93_15 v93_16 v93_17 v93_18 v93_19) := by rw [eM_178, va_up_ne _ _ (i_16.neT hb_88 (by decide))]; exact hM93
              refine lv_aload_n hx hb dX0_partDays_62 rfl (lv_at hl 1 rfl) ?_
              refine lv_dup hx hb dX0_partDays_63 rfl ?_
              refine pg_get (D := D) (ci := 8) (v := .long v175_4) (C := RX8) (T := TX8) (N := 6) hx hb hg inG8 hown hK hP hb_88.1 hM_179 rfl 4 (by decide) (hg _ wd_255) (fun _ h9 => h9) rfl dX0_partDays_64 ?_
              refine lv_aload_n hx hb dX0_partDays_67 rfl (lv_at hl 3 rfl) ?_
              refine lv_iload hx hb dX0_partDays_68 (lv_at hl 0 rfl) ?_
              have hPc : va_P D vwCl ([] ++ va_pl L M_178) H_177 := hP
              have hDc : va_D A ([] ++ va_pl L M_178) := hD
              have hFc : ∀ q, va_A ([] ++ va_pl L M_178) H_177.size q → A q := pg_free hDc hS hA
              refine va_calll (va_runV (As := [.int (nI v4w9)]) (rest := [.long v175_4, .ref b_21]) ⟨hx, hb, hml, hown, hg⟩ (s_X2_entriesOn l D cy K L M_178 H_177.size k1 (nI v4w9)  hW i_16) (cwV 1 hg (gV wd_634 wd_508 wd_509 wd_57 wd_510) rfl rfl rfl (by decide +kernel) ⟨(Nat.le_trans (Nat.le_of_ble_eq_true rfl) hRf), (Nat.le_trans (Nat.le_of_ble_eq_true rfl) hRl)⟩) ⟨PG.blind, pg_recv hK hP i_16.1 hM_181 rfl, fun U hU hW => ⟨rfl, PG.at hPc hK hDc hN hU hW⟩⟩ rfl rfl hl.1 rfl (lv_room (Nat.le_of_ble_eq_true rfl)) dX0_partDays_70 ⟨by omega, by omega⟩) hS (fun q _ h => hFc q h) hFc (fun r_183 M_184 t H_182 locs ht hvm hw hB hz1 hk1 hS => ?_)
              have hp_185 := hw
              obtain ⟨hP1, hD1⟩ := hB
              rw [ht] at hP1
              have hP : va_P D vwCl ([] ++ va_pl L M_178) H_182 := hP1
              have hD : va_D A ([] ++ va_pl L M_178) := hD1.mono hFc
              refine lv_aload_n hx hb dX0_partDays_73 rfl (lv_at hl 3 rfl) ?_
              refine pg_get (D := D) (ci := 2) (v := .ref v93_13) (C := RX2) (T := TX2) (N := 20) hx hb hg inG2 hown hK hP i_16.1 hM_181 rfl 13 (by decide) (hg _ wd_635) (fun _ h9 => h9) rfl dX0_partDays_74 ?_
              refine lv_iload hx hb dX0_partDays_77 (lv_at hl 0 rfl) ?_
              obtain ⟨f186, hM186⟩ := hW.open_67 h93_13
              refine pg_lald hx hb hK hP h93_13.1 1 hM186 rfl (inbN v4w9 1000 (by omega) (by omega)) dX0_partDays_79 ?_
              refine lv_topl (fun f_187 ef_187 => ?_)
              refine lv_ladd hx hb dX0_partDays_80 ?_
              refine lv_topl (fun f_188 ef_188 => ?_)
              refine lv_ladd hx hb dX0_partDays_81 ?_
              refine lv_topl (fun f_189 ef_189 => ?_)
              refine pg_put (D := D) (ci := 8) (v := .long f_189) (ty := .long) (C := RX8) (T := TX8) (N := 6) hx hb hg inG8 tyX8 tyX8_ok nmX8 hown hK hP hD hS hb_88.1 hM_179 rfl 4 (by decide) (hg _ wd_255) (fun _ h9 => h9) rfl (by decide +kernel) rfl rfl (Nat.le_of_ble_eq_true rfl) dX0_partDays_82 (fun H_190 locs hP hD hS => ?_)
              obtain ⟨M_191, eM_191⟩ : ∃ M1 : Hp, M1 = va_up M_178 b_21 ((b8_9 v175_0 v175_1 v175_2 f_176 f_189 v175_5)) := ⟨_, rfl⟩
              have hP : va_P D vwCl ([] ++ va_pl L M_191) H_190 := by rw [eM_191]; exact hP
              have hD : va_D A ([] ++ va_pl L M_191) := by rw [eM_191]; exact hD
              have hW : WOK cy K L M_191 := by rw [eM_191]; exact hW.up_8 hb_88 ⟨v175_0, v175_1, v175_2, f_176, f_189, v175_5, rfl, h175_0, h175_1⟩
              have hF : fr K0 L0 [0, 8, 21, 72] M0 M_191 := by rw [eM_191]; exact hF.upX hX0 hb_88 (by decide)
              have hM_192 : M_191 b_21 = (b8_9 v175_0 v175_1 v175_2 f_176 f_189 v175_5) := by rw [eM_191]; exact va_up_self _ _ _
              have hM_193 : M_191 oa = (b0_6 y0 y1 y2 (nI gw9) y4) := by rw [eM_191, va_up_ne _ _ (i_15.neT hb_88 (by decide))]; exact hM_180
              have hM_194 : M_191 k1 = (b2_2 v93_0 v93_1 v93_2 v93_3 (nI v93_4) (nI v93_5) v93_6 v93_7 v93_8 (nI v93_9) v93_10 (nI v93_11) v93_12 v93_13 v93_14 v93_15 v93_16 v93_17 v93_18 v93_19) := by rw [eM_191, va_up_ne _ _ (i_16.neT hb_88 (by decide))]; exact hM_181
              have hM_195 : M_191 v93_13 = .inl (cy 15, 1000, .inr (.inl (f186))) := by rw [eM_191, va_up_ne _ _ (h93_13.neT hb_88 (by decide))]; exact hM186
              refine lv_iinc (v := (nI (v4w9 + 1))) (lv' := [(4, .int (nI (v4w9 + 1))), (3, .ref b_21), (0, .ref oa), (1, .ref k1), (2, .int k2)]) hx hb dX0_partDays_85 hl (k := 0) rfl (nI_1 v4w9) (by decide) rfl (fun ls hl => ?_)
              refine lv_goto (tgt := 14) hx hb dX0_partDays_88 (by decide) ?_
              refine W.widen (k := 3 * gw9) (n := 18 * gw9) (by omega) (by omega) ?_
              exact ih_7 (some b_21) (v4w9 + 1) gw9 K L M_191 H_190 _ _ (by omega) (iskN.some hb_88) (by omega) hM_193 i_15 i_16 i_17 i_18 i_19 hb_20 hX0 hNW hW hF hP hD hS (lv_sub hl [0, 1, 2, 3, 4] rfl)
  refine W.widen (k := 3 * y3) (n := 18 * y3) (by omega) (by omega) ?_
  exact key_6 (1000 - j_4 + 1) none j_4 y3 K L M s.heap _ _ (by omega) iskN.none (by omega) hMy ia ik1 hy0 hy1 hy2 hy3 hX0 hNW hW hF hP hD hS (lv_sub hl [0, 1, 2, 3, 4] rfl)
set_option maxHeartbeats 4000000 in
set_option maxRecDepth 100000 in
theorem e_settleMends (l : Launch) (D : va_G) (cy : Nat → ClassId) (K0 : Kp) (L0 : List Nat) (M0 : Hp) (sz : Nat) (oa : Nat) (k1 : Nat) (y0 : Nat) (y1 : Nat) (y2 : Nat) (y3 : Nat) (y4 : Int64) (hW : WOK cy K0 L0 M0) (ia : isk K0 L0 oa 0 0) (ik1 : isk K0 L0 k1 2 0) (hMy : M0 oa = (b0_6 y0 y1 y2 (nI y3) y4)) (hy0 : isk K0 L0 y0 21 120) (hy1 : isk K0 L0 y1 66 100) (hy2 : isk K0 L0 y2 7 0) (hy3 : y3 ≤ 120) : Met l yX0_settleMends (wsM yX0_settleMends cX0_settleMends 5 none) ({ frames := 4, cells := 360, slots := 2160, locals := 108 }) (va_Pc [.ref oa, .ref k1] (PG D cy [] L0 M0 sz)) (va_Qv (fun (u : Kp × List Nat × Hp) => ext K0 L0 u.1 u.2.1 ∧ WOK cy u.1 u.2.1 u.2.2 ∧ fr K0 L0 [0, 7, 8, 9, 21, 64, 65, 68, 69, 70, 71, 72] M0 u.2.2 ∧ fT 9 K0 L0 [11] M0 u.2.2 ∧ (True)) (fun u t => NW2 K0 L0 u.1 u.2.1 ∧ PQ D [] u.2.1 u.2.2 (va_A ([] ++ va_pl L0 M0) sz) t) (va_A ([] ++ va_pl L0 M0) sz)) 360 2160 (va_A ([] ++ va_pl L0 M0) sz) := by
  refine Met.ofW (cc := cX0_settleMends) (maxL := 5) (ret := none) (by decide) rfl ?_
  intro p e s m args below meth c s₁ B hml hv
  obtain ⟨rfl, hsz, hP, hK, hD0, hN⟩ := hv
  have hx := B.exec
  have hb := B.bytes
  have hr := B.returns
  have hts := atoms_spec (ws := (wsM yX0_settleMends cX0_settleMends 5 none)) B.pre
  have hg : ∀ w ∈ lw_good, w.before _ s = true := fun w h => hts w (List.mem_cons_of_mem _ h)
  have hown : s.vm.findClass RX0 = some m.cls := findClass_of_methodNamed B.named
  have hlocks := B.notSynchronized
  subst hsz
  have hD := hD0.self (sz := s.heap.size)
  generalize hAe : va_A ([] ++ va_pl L0 M0) s.heap.size = A at hD ⊢
  have hA : ∀ q : Nat, s.heap.size ≤ q → A q := fun q h => by rw [← hAe]; exact Or.inr h
  have hS : va_S A s.heap s.heap [] := va_S.rf
  have hl := lv_entry ([.ref oa, .ref k1]) (n := 5) (Nat.le_of_ble_eq_true rfl)
  rw [lg_entry_eq]
  generalize (lg_sl ([.ref oa, .ref k1]) ++ List.replicate (5 - (lg_sl ([.ref oa, .ref k1])).length) Slot.unset).toArray = ls at hl ⊢
  refine W.nameQ (fun Q hQ => ?_)
  refine W.nameR (fun R hR => ?_)
  have hRf : 4 ≤ R.frames := by rw [hR]; exact Nat.le_of_ble_eq_true rfl
  have hRl : 108 ≤ R.locals := by rw [hR]; exact Nat.le_of_ble_eq_true rfl
  have hRc : 360 ≤ R.cells := by rw [hR]; exact Nat.le_of_ble_eq_true rfl
  have hRs : 2160 ≤ R.slots := by rw [hR]; exact Nat.le_of_ble_eq_true rfl
  have hW00 := hW
  have ia00 := ia
  have ik100 := ik1
  have hMy00 := hMy
  have hy000 := hy0
  have hy100 := hy1
  have hy200 := hy2
  obtain ⟨K, L, M, hX0, hF, hT9, hW, hP, hD, ia, ik1, hMy, hy0, hy1, hy2, hMe, hKe, hLe⟩ : ∃ (K : Kp) (L : List Nat) (M : Hp), ext K0 L0 K L ∧ fr K0 L0 [0, 7, 8, 9, 21, 64, 65, 68, 69, 70, 71, 72] M0 M ∧ fT 9 K0 L0 [11] M0 M ∧ WOK cy K L M ∧ va_P D vwCl ([] ++ va_pl L M) s.heap ∧ va_D A ([] ++ va_pl L M) ∧ isk K L oa 0 0 ∧ isk K L k1 2 0 ∧ M oa = (b0_6 y0 y1 y2 (nI y3) y4) ∧ isk K L y0 21 120 ∧ isk K L y1 66 100 ∧ isk K L y2 7 0 ∧ M = M0 ∧ K = K0 ∧ L = L0 := ⟨K0, L0, M0, ext.rf, fr.rf, fT.rf, hW, hP, hD, ia, ik1, hMy, hy0, hy1, hy2, rfl, rfl, rfl⟩
  have hl : lv_has ls 5 [(0, .ref oa), (1, .ref k1)] := hl
  have hNW : NW2 K0 L0 K L := by rw [hKe, hLe]; exact NW2.rf
  refine lv_iconst (v := 0) hx hb dX0_settleMends_0 (by decide) ?_
  refine lv_istore_n (lv' := [(2, .int 0), (0, .ref oa), (1, .ref k1)]) hx hb dX0_settleMends_1 rfl hl (by decide) rfl (fun ls hl => ?_)
  have key_1 : ∀ (fu_3 : Nat) (v2w4 : Nat) (gw4 : Nat) (K : Kp) (L : List Nat) (M_6 : Hp) (H_7 : Heap) (locs : List Loc) (ls : Array Slot), 120 - v2w4 < fu_3 → v2w4 ≤ 120 → M_6 oa = (b0_6 y0 y1 y2 (nI gw4) y4) → isk K L oa 0 0 → isk K L k1 2 0 → isk K L y0 21 120 → isk K L y1 66 100 → isk K L y2 7 0 → gw4 ≤ 120 → ext K0 L0 K L → NW2 K0 L0 K L → WOK cy K L M_6 → fr K0 L0 [0, 7, 8, 9, 21, 64, 65, 68, 69, 70, 71, 72] M0 M_6 → fT 9 K0 L0 [11] M0 M_6 → va_P D vwCl ([] ++ va_pl L M_6) H_7 → va_D A ([] ++ va_pl L M_6) → va_S A s.heap H_7 locs → lv_has ls 5 [(2, .int (nI v2w4)), (0, .ref oa), (1, .ref k1)] → W p l e R s m ([.ref oa, .ref k1] : List Value).toArray below meth c H_7 locs (3 * gw4) (18 * gw4) Q (F0 m 2 ls []) := by
    intro fu_3
    induction fu_3 with
    | zero => intro v2w4 gw4 K L M_6 H_7 locs ls h; exact absurd h (Nat.not_lt_zero _)
    | succ fu_3 ih_2 =>
      intro v2w4 gw4 K L M_6 H_7 locs ls hfu hx_5 hM_8 i_9 i_10 i_11 i_12 i_13 hb_14 hX0 hNW hW hF hT9 hP hD hS hl
      refine lv_iload_n hx hb dX0_settleMends_2 rfl (lv_at hl 0 rfl) ?_
      refine lv_aload_n hx hb dX0_settleMends_3 rfl (lv_at hl 2 rfl) ?_
      obtain ⟨v15_0, v15_1, v15_2, v15_3, v15_4, v15_5, v15_6, v15_7, v15_8, v15_9, v15_10, v15_11, v15_12, v15_13, v15_14, v15_15, v15_16, v15_17, v15_18, v15_19, hM15, h15_3, h15_4, h15_5, h15_6, h15_7, h15_8, h15_9, h15_10, h15_11, h15_12, h15_13, h15_16, h15_17, h15_18, h15_19⟩ := hW.open_2 i_10
      refine pg_get (D := D) (ci := 2) (v := .ref v15_17) (C := RX2) (T := TX2) (N := 20) hx hb hg inG2 hown hK hP i_10.1 hM15 rfl 17 (by decide) (hg _ wd_640) (fun _ h9 => h9) rfl dX0_settleMends_4 ?_
      obtain ⟨n16, v16_0, v16_1, v16_2, v16_3, hM16, h16_0, h16_1, h16_2, h16_3, y16_0⟩ := hW.open_1 h15_17
      refine pg_get (D := D) (ci := 1) (v := .int (nI v16_3)) (C := RX1) (T := TX1) (N := 4) hx hb hg inG1 hown hK hP h15_17.1 hM16 rfl 3 (by decide) (hg _ wd_225) (fun _ h9 => h9) rfl dX0_settleMends_7 ?_
      refine lv_icmp_ge (tgt := 117) hx hb dX0_settleMends_10 (by decide) (fun c_17 => ?_) (fun c_17 => ?_)
      · have hz := rfl (a := 0)
        have n_18 : v16_3 ≤ v2w4 := (iLE (a := v16_3) (b := v2w4) (by omega) (by omega)).mp c_17
        refine W.widen (k := 360) (n := 2160) (by omega) (by omega) ?_
        rw [hQ]
        exact W.vret hx hb hr (fun t ht hW9 => ⟨⟨(K, L, M_6), rfl, ⟨hX0, hW, hF, hT9, trivial⟩, ⟨hNW, by rw [ht]; exact hP, hD⟩⟩, hS.F ht⟩) hS.2.2 dX0_settleMends_117
      · have hz := rfl (a := 0)
        have n_19 : ¬ (v16_3 ≤ v2w4) := fun q => c_17 ((iLE (a := v16_3) (b := v2w4) (by omega) (by omega)).mpr q)
        refine lv_aload_n hx hb dX0_settleMends_13 rfl (lv_at hl 1 rfl) ?_
        refine lv_aload_n hx hb dX0_settleMends_14 rfl (lv_at hl 2 rfl) ?_
        refine pg_get (D := D) (ci := 2) (v := .ref v15_17) (C := RX2) (T := TX2) (N := 20) hx hb hg inG2 hown hK hP i_10.1 hM15 rfl 17 (by decide) (hg _ wd_640) (fun _ h9 => h9) rfl dX0_settleMends_15 ?_
        refine pg_get (D := D) (ci := 1) (v := .ref v16_1) (C := RX1) (T := TX1) (N := 4) hx hb hg inG1 hown hK hP h15_17.1 hM16 rfl 1 (by decide) (hg _ wd_227) (fun _ h9 => h9) rfl dX0_settleMends_18 ?_
        refine lv_iload_n hx hb dX0_settleMends_21 rfl (lv_at hl 0 rfl) ?_
        obtain ⟨f20, hM20⟩ := hW.open_56 h16_1
        refine pg_iald hx hb hK hP h16_1.1 0 hM20 rfl (inbN v2w4 n16 (by omega) (by omega)) dX0_settleMends_22 ?_
        refine lv_topi (fun f_21 ef_21 => ?_)
        rcases Nat.lt_or_ge gw4 120 with hlt | hge
        · have hz := rfl (a := 0)
          have hPc : va_P D vwCl ([] ++ va_pl L M_6) H_7 := hP
          have hDc : va_D A ([] ++ va_pl L M_6) := hD
          have hFc : ∀ q, va_A ([] ++ va_pl L M_6) H_7.size q → A q := pg_free hDc hS hA
          refine va_callq (va_runV (As := [.int f_21]) (rest := []) ⟨hx, hb, hml, hown, hg⟩ (e_appN l D cy K L M_6 H_7.size oa f_21 y0 y1 y2 gw4 y4 hW i_9 (by omega) hM_8 i_11 i_12 i_13 hb_14) (cwV 1 hg (gV wd_630 wd_631 wd_632 wd_204 wd_633) rfl rfl rfl (by decide +kernel) ⟨(Nat.le_trans (Nat.le_of_ble_eq_true rfl) hRf), (Nat.le_trans (Nat.le_of_ble_eq_true rfl) hRl)⟩) ⟨PG.blind, pg_recv hK hP i_9.1 hM_8 rfl, fun U hU hW => ⟨rfl, PG.at hPc hK hDc hN hU hW⟩⟩ rfl rfl hl.1 rfl (lv_room (Nat.le_of_ble_eq_true rfl)) dX0_settleMends_23 ⟨by omega, by omega⟩) hS (fun q _ h => hFc q h) hFc (fun r_23 M_24 t H_22 locs ht hvm hw hB hz1 hk1 hS => ?_)
          have hWb := hW
          obtain ⟨K9, L9, M_24m⟩ := M_24
          dsimp only at hw hB
          obtain ⟨hx9, hW, hF2, hM_26, hp_25⟩ := hw
          obtain ⟨hg_27, hP1, hD1⟩ := hB
          rw [ht] at hP1
          have hP : va_P D vwCl ([] ++ va_pl L9 M_24m) H_22 := hP1
          have hD : va_D A ([] ++ va_pl L9 M_24m) := hD1.mono hFc
          have hM_28 : M_24m k1 = (b2_2 v15_0 v15_1 v15_2 v15_3 (nI v15_4) (nI v15_5) v15_6 v15_7 v15_8 (nI v15_9) v15_10 (nI v15_11) v15_12 v15_13 v15_14 v15_15 v15_16 v15_17 v15_18 v15_19) := (hF2.at i_10 (by decide)).trans hM15
          have hM_29 : M_24m v15_17 = (b1_4 v16_0 v16_1 v16_2 (nI v16_3)) := (hF2.at h15_17 (by decide)).trans hM16
          have hM_30 : M_24m v16_1 = .inl (cy 14, n16, .inl (f20)) := (hF2.at h16_1 (by decide)).trans hM20
          have hb_31 : (gw4 + 1) ≤ 120 := by omega
          have hF : fr K0 L0 [0, 7, 8, 9, 21, 64, 65, 68, 69, 70, 71, 72] M0 M_24m := hF.trX hX0 hF2 (by decide)
          have hT9 : fT 9 K0 L0 [11] M0 M_24m := hT9.frrX hX0 hF2 (by decide)
          have hX0 := hX0.tr hx9
          have hNW := hNW.tr hg_27
          have i_32 := i_9.ext hx9
          have i_33 := i_10.ext hx9
          have i_34 := i_11.ext hx9
          have i_35 := i_12.ext hx9
          have i_36 := i_13.ext hx9
          have i_37 := h15_3.ext hx9
          have i_38 := h15_6.ext hx9
          have i_39 := h15_7.ext hx9
          have i_40 := h15_8.ext hx9
          have i_41 := h15_10.ext hx9
          have i_42 := h15_12.ext hx9
          have i_43 := h15_13.ext hx9
          have i_44 := h15_16.ext hx9
          have i_45 := h15_17.ext hx9
          have i_46 := h15_18.ext hx9
          have i_47 := h15_19.ext hx9
          have i_48 := h16_0.ext hx9
          have i_49 := h16_1.ext hx9
          have i_50 := h16_2.ext hx9
          obtain ⟨K, L, hK9, hL9⟩ : ∃ (K : Kp) (L : List Nat), K = K9 ∧ L = L9 := ⟨_, _, rfl, rfl⟩
          subst hK9
          subst hL9
          have hz := rfl (a := 0)
          rcases r_23 with _ | b_51
          · have hz := rfl (a := 0)
            refine lv_astore_nN (lv' := [(3, .null), (2, .int (nI v2w4)), (0, .ref oa), (1, .ref k1)]) hx hb dX0_settleMends_26 rfl hl (by decide) rfl (fun ls hl => ?_)
            refine lv_aload_nN hx hb dX0_settleMends_27 rfl (lv_at hl 0 rfl) ?_
            refine lv_ifnonnullN hx hb dX0_settleMends_28 ?_
            refine lv_null hx hb dX0_settleMends_31 ?_
            refine lv_goto (tgt := 43) hx hb dX0_settleMends_32 (by decide) ?_
            refine lv_astoreN (lv' := [(4, .null), (3, .null), (2, .int (nI v2w4)), (0, .ref oa), (1, .ref k1)]) hx hb dX0_settleMends_43 hl (by decide) rfl (fun ls hl => ?_)
            refine lv_aload_nN hx hb dX0_settleMends_45 rfl (lv_at hl 1 rfl) ?_
            refine lv_ifnullN (tgt := 111) hx hb dX0_settleMends_46 (by decide) ?_
            refine lv_iinc (v := (nI (v2w4 + 1))) (lv' := [(2, .int (nI (v2w4 + 1))), (4, .null), (3, .null), (0, .ref oa), (1, .ref k1)]) hx hb dX0_settleMends_111 hl (k := 2) rfl (nI_1 v2w4) (by decide) rfl (fun ls hl => ?_)
            refine lv_goto (tgt := 2) hx hb dX0_settleMends_114 (by decide) ?_
            refine W.widen (k := 3 * (gw4 + 1)) (n := 18 * (gw4 + 1)) (by omega) (by omega) ?_
            exact ih_2 (v2w4 + 1) (gw4 + 1) K L M_24m H_22 _ _ (by omega) (by omega) hM_26 i_32 i_33 i_34 i_35 i_36 hb_31 hX0 hNW hW hF hT9 hP hD hS (lv_sub hl [0, 3, 4] rfl)
          · have hb_52 := hp_25 b_51 rfl
            refine lv_astore_n (lv' := [(3, .ref b_51), (2, .int (nI v2w4)), (0, .ref oa), (1, .ref k1)]) hx hb dX0_settleMends_26 rfl hl (by decide) rfl (fun ls hl => ?_)
            refine lv_aload_n hx hb dX0_settleMends_27 rfl (lv_at hl 0 rfl) ?_
            refine lv_ifnonnull (tgt := 35) hx hb dX0_settleMends_28 (by decide) ?_
            refine lv_aload_n hx hb dX0_settleMends_35 rfl (lv_at hl 3 rfl) ?_
            refine lv_aload_n hx hb dX0_settleMends_36 rfl (lv_at hl 0 rfl) ?_
            obtain ⟨v53_0, v53_1, v53_2, v53_3, v53_4, v53_5, hM53, h53_0, h53_1⟩ := hW.open_8 hb_52
            refine pg_get (D := D) (ci := 8) (v := .int v53_2) (C := RX8) (T := TX8) (N := 6) hx hb hg inG8 hown hK hP hb_52.1 hM53 rfl 2 (by decide) (hg _ wd_228) (fun _ h9 => h9) rfl dX0_settleMends_37 ?_
            have hPc : va_P D vwCl ([] ++ va_pl L M_24m) H_22 := hP
            have hDc : va_D A ([] ++ va_pl L M_24m) := hD
            have hFc : ∀ q, va_A ([] ++ va_pl L M_24m) H_22.size q → A q := pg_free hDc hS hA
            refine va_callq (va_runV (As := [.int v53_2]) (rest := []) ⟨hx, hb, hml, hown, hg⟩ (s_X2_ruleOn l D cy K L M_24m H_22.size k1 v53_2  hW i_33) (cwV 1 hg (gV wd_250 wd_132 wd_133 wd_57 wd_134) rfl rfl rfl (by decide +kernel) ⟨(Nat.le_trans (Nat.le_of_ble_eq_true rfl) hRf), (Nat.le_trans (Nat.le_of_ble_eq_true rfl) hRl)⟩) ⟨PG.blind, pg_recv hK hP i_33.1 hM_28 rfl, fun U hU hW => ⟨rfl, PG.at hPc hK hDc hN hU hW⟩⟩ rfl rfl hl.1 rfl (lv_room (Nat.le_of_ble_eq_true rfl)) dX0_settleMends_40 ⟨by omega, by omega⟩) hS (fun q _ h => hFc q h) hFc (fun r_55 M_56 t H_54 locs ht hvm hw hB hz1 hk1 hS => ?_)
            have hp_57 := hw
            obtain ⟨hP1, hD1⟩ := hB
            rw [ht] at hP1
            have hP : va_P D vwCl ([] ++ va_pl L M_24m) H_54 := hP1
            have hD : va_D A ([] ++ va_pl L M_24m) := hD1.mono hFc
            rcases r_55 with _ | b_58
            · have hz := rfl (a := 0)
              refine lv_astoreN (lv' := [(4, .null), (3, .ref b_51), (2, .int (nI v2w4)), (0, .ref oa), (1, .ref k1)]) hx hb dX0_settleMends_43 hl (by decide) rfl (fun ls hl => ?_)
              refine lv_aload_n hx hb dX0_settleMends_45 rfl (lv_at hl 1 rfl) ?_
              refine lv_ifnull hx hb dX0_settleMends_46 ?_
              refine lv_aloadN hx hb dX0_settleMends_49 (lv_at hl 0 rfl) ?_
              refine lv_ifnonnullN hx hb dX0_settleMends_51 ?_
              refine lv_goto (tgt := 111) hx hb dX0_settleMends_54 (by decide) ?_
              refine lv_iinc (v := (nI (v2w4 + 1))) (lv' := [(2, .int (nI (v2w4 + 1))), (4, .null), (3, .ref b_51), (0, .ref oa), (1, .ref k1)]) hx hb dX0_settleMends_111 hl (k := 2) rfl (nI_1 v2w4) (by decide) rfl (fun ls hl => ?_)
              refine lv_goto (tgt := 2) hx hb dX0_settleMends_114 (by decide) ?_
              refine W.widen (k := 3 * (gw4 + 1)) (n := 18 * (gw4 + 1)) (by omega) (by omega) ?_
              exact ih_2 (v2w4 + 1) (gw4 + 1) K L M_24m H_54 _ _ (by omega) (by omega) hM_26 i_32 i_33 i_34 i_35 i_36 hb_31 hX0 hNW hW hF hT9 hP hD hS (lv_sub hl [0, 3, 4] rfl)
            · have hb_59 := hp_57 b_58 rfl
              refine lv_astore (lv' := [(4, .ref b_58), (3, .ref b_51), (2, .int (nI v2w4)), (0, .ref oa), (1, .ref k1)]) hx hb dX0_settleMends_43 hl (by decide) rfl (fun ls hl => ?_)
              refine lv_aload_n hx hb dX0_settleMends_45 rfl (lv_at hl 1 rfl) ?_
              refine lv_ifnull hx hb dX0_settleMends_46 ?_
              refine lv_aload hx hb dX0_settleMends_49 (lv_at hl 0 rfl) ?_
              refine lv_ifnonnull (tgt := 57) hx hb dX0_settleMends_51 (by decide) ?_
              refine lv_aload_n hx hb dX0_settleMends_57 rfl (lv_at hl 1 rfl) ?_
              refine lv_aload_n hx hb dX0_settleMends_58 rfl (lv_at hl 4 rfl) ?_
              have hPc : va_P D vwCl ([] ++ va_pl L M_24m) H_54 := hP
              have hDc : va_D A ([] ++ va_pl L M_24m) := hD
              have hFc : ∀ q, va_A ([] ++ va_pl L M_24m) H_54.size q → A q := pg_free hDc hS hA
              refine va_callv (va_runV (As := [.ref k1]) (rest := []) ⟨hx, hb, hml, hown, hg⟩ (s_X8_seatAll l D cy K L M_24m H_54.size b_51 k1  hW hb_52 i_33) (cwV 1 hg (gV wd_251 wd_252 wd_253 wd_193 wd_254) rfl rfl rfl (by decide +kernel) ⟨(Nat.le_trans (Nat.le_of_ble_eq_true rfl) hRf), (Nat.le_trans (Nat.le_of_ble_eq_true rfl) hRl)⟩) ⟨PG.blind, pg_recv hK hP hb_52.1 hM53 rfl, fun U hU hW => ⟨rfl, PG.at hPc hK hDc hN hU hW⟩⟩ rfl rfl hl.1 rfl (lv_room (Nat.le_of_ble_eq_true rfl)) dX0_settleMends_59 ⟨by omega, by omega⟩) hS (fun q _ h => hFc q h) hFc (fun M_62 t H_60 locs ht hvm hw hB hz1 hk1 hS => ?_)
              obtain ⟨hW, hF2, hp_63⟩ := hw
              obtain ⟨hP1, hD1⟩ := hB
              rw [ht] at hP1
              have hP : va_P D vwCl ([] ++ va_pl L M_62) H_60 := hP1
              have hD : va_D A ([] ++ va_pl L M_62) := hD1.mono hFc
              have hM_64 : M_62 k1 = (b2_2 v15_0 v15_1 v15_2 v15_3 (nI v15_4) (nI v15_5) v15_6 v15_7 v15_8 (nI v15_9) v15_10 (nI v15_11) v15_12 v15_13 v15_14 v15_15 v15_16 v15_17 v15_18 v15_19) := (hF2.at i_33 (by decide)).trans hM_28
              have hM_65 : M_62 v15_17 = (b1_4 v16_0 v16_1 v16_2 (nI v16_3)) := (hF2.at i_45 (by decide)).trans hM_29
              have hM_66 : M_62 v16_1 = .inl (cy 14, n16, .inl (f20)) := (hF2.at i_49 (by decide)).trans hM_30
              have hM_67 : M_62 oa = (b0_6 y0 y1 y2 (nI (gw4 + 1)) y4) := (hF2.at i_32 (by decide)).trans hM_26
              have hM_68 : M_62 b_51 = (b8_9 v53_0 v53_1 v53_2 v53_3 v53_4 v53_5) := (hF2.at hb_52 (by decide)).trans hM53
              have hF : fr K0 L0 [0, 7, 8, 9, 21, 64, 65, 68, 69, 70, 71, 72] M0 M_62 := hF.trX hX0 hF2 (by decide)
              have hT9 : fT 9 K0 L0 [11] M0 M_62 := hT9.frrX hX0 hF2 (by decide)
              refine lv_aload_n hx hb dX0_settleMends_62 rfl (lv_at hl 1 rfl) ?_
              refine lv_aload_n hx hb dX0_settleMends_63 rfl (lv_at hl 4 rfl) ?_
              refine pg_get (D := D) (ci := 2) (v := .ref v15_17) (C := RX2) (T := TX2) (N := 20) hx hb hg inG2 hown hK hP i_33.1 hM_64 rfl 17 (by decide) (hg _ wd_640) (fun _ h9 => h9) rfl dX0_settleMends_64 ?_
              refine pg_get (D := D) (ci := 1) (v := .ref v16_2) (C := RX1) (T := TX1) (N := 4) hx hb hg inG1 hown hK hP i_45.1 hM_65 rfl 2 (by decide) (hg _ wd_230) (fun _ h9 => h9) rfl dX0_settleMends_67 ?_
              refine lv_iload_n hx hb dX0_settleMends_70 rfl (lv_at hl 2 rfl) ?_
              obtain ⟨f69, hM69⟩ := hW.open_57 i_50
              refine pg_iald hx hb hK hP i_50.1 0 hM69 rfl (inbN v2w4 n16 (by omega) (by omega)) dX0_settleMends_71 ?_
              refine lv_topi (fun f_70 ef_70 => ?_)
              refine lv_i2l hx hb dX0_settleMends_72 rfl ?_
              refine lv_topl (fun f_71 ef_71 => ?_)
              refine pg_put (D := D) (ci := 8) (v := .long f_71) (ty := .long) (C := RX8) (T := TX8) (N := 6) hx hb hg inG8 tyX8 tyX8_ok nmX8 hown hK hP hD hS hb_52.1 hM_68 rfl 4 (by decide) (hg _ wd_255) (fun _ h9 => h9) rfl (by decide +kernel) rfl rfl (Nat.le_of_ble_eq_true rfl) dX0_settleMends_73 (fun H_72 locs hP hD hS => ?_)
              obtain ⟨M_73, eM_73⟩ : ∃ M1 : Hp, M1 = va_up M_62 b_51 ((b8_9 v53_0 v53_1 v53_2 v53_3 f_71 v53_5)) := ⟨_, rfl⟩
              have hP : va_P D vwCl ([] ++ va_pl L M_73) H_72 := by rw [eM_73]; exact hP
              have hD : va_D A ([] ++ va_pl L M_73) := by rw [eM_73]; exact hD
              have hW : WOK cy K L M_73 := by rw [eM_73]; exact hW.up_8 hb_52 ⟨v53_0, v53_1, v53_2, v53_3, f_71, v53_5, rfl, h53_0, h53_1⟩
              have hF : fr K0 L0 [0, 7, 8, 9, 21, 64, 65, 68, 69, 70, 71, 72] M0 M_73 := by rw [eM_73]; exact hF.upX hX0 hb_52 (by decide)
              have hT9 : fT 9 K0 L0 [11] M0 M_73 := by rw [eM_73]; exact hT9.neX hX0 hb_52 (by decide)
              have hM_74 : M_73 b_51 = (b8_9 v53_0 v53_1 v53_2 v53_3 f_71 v53_5) := by rw [eM_73]; exact va_up_self _ _ _
              have hM_75 : M_73 k1 = (b2_2 v15_0 v15_1 v15_2 v15_3 (nI v15_4) (nI v15_5) v15_6 v15_7 v15_8 (nI v15_9) v15_10 (nI v15_11) v15_12 v15_13 v15_14 v15_15 v15_16 v15_17 v15_18 v15_19) := by rw [eM_73, va_up_ne _ _ (i_33.neT hb_52 (by decide))]; exact hM_64
              have hM_76 : M_73 v15_17 = (b1_4 v16_0 v16_1 v16_2 (nI v16_3)) := by rw [eM_73, va_up_ne _ _ (i_45.neT hb_52 (by decide))]; exact hM_65
              have hM_77 : M_73 v16_1 = .inl (cy 14, n16, .inl (f20)) := by rw [eM_73, va_up_ne _ _ (i_49.neT hb_52 (by decide))]; exact hM_66
              have hM_78 : M_73 oa = (b0_6 y0 y1 y2 (nI (gw4 + 1)) y4) := by rw [eM_73, va_up_ne _ _ (i_32.neT hb_52 (by decide))]; exact hM_67
              have hM_79 : M_73 v16_2 = .inl (cy 14, n16, .inl (f69)) := by rw [eM_73, va_up_ne _ _ (i_50.neT hb_52 (by decide))]; exact hM69
              refine lv_aload_n hx hb dX0_settleMends_76 rfl (lv_at hl 1 rfl) ?_
              refine pg_get (D := D) (ci := 8) (v := .long f_71) (C := RX8) (T := TX8) (N := 6) hx hb hg inG8 hown hK hP hb_52.1 hM_74 rfl 4 (by decide) (hg _ wd_255) (fun _ h9 => h9) rfl dX0_settleMends_77 ?_
              refine lv_lconst (v := 0) hx hb dX0_settleMends_80 (by decide) ?_
              refine W.lcmp hx hb dX0_settleMends_81 ?_
              refine lv_if_le (tgt := 99) hx hb dX0_settleMends_82 (by decide) (fun c_80 => ?_) (fun c_80 => ?_)
              · have hz := rfl (a := 0)
                have d_81 : f_71 ≤ 0 := lc_let c_80
                refine lv_aload_n hx hb dX0_settleMends_99 rfl (lv_at hl 3 rfl) ?_
                refine lv_aload_n hx hb dX0_settleMends_100 rfl (lv_at hl 1 rfl) ?_
                refine lv_aload hx hb dX0_settleMends_101 (lv_at hl 0 rfl) ?_
                refine lv_aload_n hx hb dX0_settleMends_103 rfl (lv_at hl 1 rfl) ?_
                refine pg_get (D := D) (ci := 8) (v := .long f_71) (C := RX8) (T := TX8) (N := 6) hx hb hg inG8 hown hK hP hb_52.1 hM_74 rfl 4 (by decide) (hg _ wd_255) (fun _ h9 => h9) rfl dX0_settleMends_104 ?_
                refine lv_lneg hx hb dX0_settleMends_107 ?_
                refine lv_topl (fun f_82 ef_82 => ?_)
                have hPc : va_P D vwCl ([] ++ va_pl L M_73) H_72 := hP
                have hDc : va_D A ([] ++ va_pl L M_73) := hD
                have hFc : ∀ q, va_A ([] ++ va_pl L M_73) H_72.size q → A q := pg_free hDc hS hA
                refine va_callv (va_runV (As := [.ref b_51, .ref b_58, .long f_82]) (rest := []) ⟨hx, hb, hml, hown, hg⟩ (s_X0_shareLack l D cy K L M_73 H_72.size oa b_51 b_58 f_82  hW i_32 hb_52 hb_59) (cwV 3 hg (gV wd_264 wd_265 wd_266 wd_204 wd_267) rfl rfl rfl (by decide +kernel) ⟨(Nat.le_trans (Nat.le_of_ble_eq_true rfl) hRf), (Nat.le_trans (Nat.le_of_ble_eq_true rfl) hRl)⟩) ⟨PG.blind, pg_recv hK hP i_32.1 hM_78 rfl, fun U hU hW => ⟨rfl, PG.at hPc hK hDc hN hU hW⟩⟩ rfl rfl hl.1 rfl (lv_room (Nat.le_of_ble_eq_true rfl)) dX0_settleMends_108 ⟨by omega, by omega⟩) hS (fun q _ h => hFc q h) hFc (fun M_85 t H_83 locs ht hvm hw hB hz1 hk1 hS => ?_)
                obtain ⟨hW, hF2, gT9, hp_86⟩ := hw
                obtain ⟨hP1, hD1⟩ := hB
                rw [ht] at hP1
                have hP : va_P D vwCl ([] ++ va_pl L M_85) H_83 := hP1
                have hD : va_D A ([] ++ va_pl L M_85) := hD1.mono hFc
                have hM_87 : M_85 k1 = (b2_2 v15_0 v15_1 v15_2 v15_3 (nI v15_4) (nI v15_5) v15_6 v15_7 v15_8 (nI v15_9) v15_10 (nI v15_11) v15_12 v15_13 v15_14 v15_15 v15_16 v15_17 v15_18 v15_19) := (hF2.at i_33 (by decide)).trans hM_75
                have hM_88 : M_85 v15_17 = (b1_4 v16_0 v16_1 v16_2 (nI v16_3)) := (hF2.at i_45 (by decide)).trans hM_76
                have hM_89 : M_85 v16_1 = .inl (cy 14, n16, .inl (f20)) := (hF2.at i_49 (by decide)).trans hM_77
                have hM_90 : M_85 oa = (b0_6 y0 y1 y2 (nI (gw4 + 1)) y4) := (hF2.at i_32 (by decide)).trans hM_78
                have hM_91 : M_85 v16_2 = .inl (cy 14, n16, .inl (f69)) := (hF2.at i_50 (by decide)).trans hM_79
                have hF : fr K0 L0 [0, 7, 8, 9, 21, 64, 65, 68, 69, 70, 71, 72] M0 M_85 := hF.trX hX0 hF2 (by decide)
                have hT9 : fT 9 K0 L0 [11] M0 M_85 := hT9.trX hX0 gT9 (by decide)
                refine lv_iinc (v := (nI (v2w4 + 1))) (lv' := [(2, .int (nI (v2w4 + 1))), (4, .ref b_58), (3, .ref b_51), (0, .ref oa), (1, .ref k1)]) hx hb dX0_settleMends_111 hl (k := 2) rfl (nI_1 v2w4) (by decide) rfl (fun ls hl => ?_)
                refine lv_goto (tgt := 2) hx hb dX0_settleMends_114 (by decide) ?_
                refine W.widen (k := 3 * (gw4 + 1)) (n := 18 * (gw4 + 1)) (by omega) (by omega) ?_
                exact ih_2 (v2w4 + 1) (gw4 + 1) K L M_85 H_83 _ _ (by omega) (by omega) hM_90 i_32 i_33 i_34 i_35 i_36 hb_31 hX0 hNW hW hF hT9 hP hD hS (lv_sub hl [0, 3, 4] rfl)
              · have hz := rfl (a := 0)
                have d_81 : ¬ f_71 ≤ 0 := lc_lef c_80
                refine lv_aload_n hx hb dX0_settleMends_85 rfl (lv_at hl 3 rfl) ?_
                refine lv_aload_n hx hb dX0_settleMends_86 rfl (lv_at hl 1 rfl) ?_
                refine lv_aload hx hb dX0_settleMends_87 (lv_at hl 0 rfl) ?_
                refine lv_aload_n hx hb dX0_settleMends_89 rfl (lv_at hl 1 rfl) ?_
                refine pg_get (D := D) (ci := 8) (v := .long f_71) (C := RX8) (T := TX8) (N := 6) hx hb hg inG8 hown hK hP hb_52.1 hM_74 rfl 4 (by decide) (hg _ wd_255) (fun _ h9 => h9) rfl dX0_settleMends_90 ?_
                have hPc : va_P D vwCl ([] ++ va_pl L M_73) H_72 := hP
                have hDc : va_D A ([] ++ va_pl L M_73) := hD
                have hFc : ∀ q, va_A ([] ++ va_pl L M_73) H_72.size q → A q := pg_free hDc hS hA
                refine va_callv (va_runV (As := [.ref b_51, .ref b_58, .long f_71]) (rest := []) ⟨hx, hb, hml, hown, hg⟩ (s_X0_shareGain l D cy K L M_73 H_72.size oa b_51 b_58 f_71  hW i_32 hb_52 hb_59) (cwV 3 hg (gV wd_272 wd_273 wd_274 wd_204 wd_275) rfl rfl rfl (by decide +kernel) ⟨(Nat.le_trans (Nat.le_of_ble_eq_true rfl) hRf), (Nat.le_trans (Nat.le_of_ble_eq_true rfl) hRl)⟩) ⟨PG.blind, pg_recv hK hP i_32.1 hM_78 rfl, fun U hU hW => ⟨rfl, PG.at hPc hK hDc hN hU hW⟩⟩ rfl rfl hl.1 rfl (lv_room (Nat.le_of_ble_eq_true rfl)) dX0_settleMends_93 ⟨by omega, by omega⟩) hS (fun q _ h => hFc q h) hFc (fun M_94 t H_92 locs ht hvm hw hB hz1 hk1 hS => ?_)
                obtain ⟨hW, hF2, hp_95⟩ := hw
                obtain ⟨hP1, hD1⟩ := hB
                rw [ht] at hP1
                have hP : va_P D vwCl ([] ++ va_pl L M_94) H_92 := hP1
                have hD : va_D A ([] ++ va_pl L M_94) := hD1.mono hFc
                have hM_96 : M_94 k1 = (b2_2 v15_0 v15_1 v15_2 v15_3 (nI v15_4) (nI v15_5) v15_6 v15_7 v15_8 (nI v15_9) v15_10 (nI v15_11) v15_12 v15_13 v15_14 v15_15 v15_16 v15_17 v15_18 v15_19) := (hF2.at i_33 (by decide)).trans hM_75
                have hM_97 : M_94 v15_17 = (b1_4 v16_0 v16_1 v16_2 (nI v16_3)) := (hF2.at i_45 (by decide)).trans hM_76
                have hM_98 : M_94 v16_1 = .inl (cy 14, n16, .inl (f20)) := (hF2.at i_49 (by decide)).trans hM_77
                have hM_99 : M_94 oa = (b0_6 y0 y1 y2 (nI (gw4 + 1)) y4) := (hF2.at i_32 (by decide)).trans hM_78
                have hM_100 : M_94 v16_2 = .inl (cy 14, n16, .inl (f69)) := (hF2.at i_50 (by decide)).trans hM_79
                have hF : fr K0 L0 [0, 7, 8, 9, 21, 64, 65, 68, 69, 70, 71, 72] M0 M_94 := hF.trX hX0 hF2 (by decide)
                have hT9 : fT 9 K0 L0 [11] M0 M_94 := hT9.frrX hX0 hF2 (by decide)
                refine lv_goto (tgt := 111) hx hb dX0_settleMends_96 (by decide) ?_
                refine lv_iinc (v := (nI (v2w4 + 1))) (lv' := [(2, .int (nI (v2w4 + 1))), (4, .ref b_58), (3, .ref b_51), (0, .ref oa), (1, .ref k1)]) hx hb dX0_settleMends_111 hl (k := 2) rfl (nI_1 v2w4) (by decide) rfl (fun ls hl => ?_)
                refine lv_goto (tgt := 2) hx hb dX0_settleMends_114 (by decide) ?_
                refine W.widen (k := 3 * (gw4 + 1)) (n := 18 * (gw4 + 1)) (by omega) (by omega) ?_
                exact ih_2 (v2w4 + 1) (gw4 + 1) K L M_94 H_92 _ _ (by omega) (by omega) hM_99 i_32 i_33 i_34 i_35 i_36 hb_31 hX0 hNW hW hF hT9 hP hD hS (lv_sub hl [0, 3, 4] rfl)
        · have hz := rfl (a := 0)
          have hPc : va_P D vwCl ([] ++ va_pl L M_6) H_7 := hP
          have hDc : va_D A ([] ++ va_pl L M_6) := hD
          have hFc : ∀ q, va_A ([] ++ va_pl L M_6) H_7.size q → A q := pg_free hDc hS hA
          refine va_callq (va_runV (As := [.int f_21]) (rest := []) ⟨hx, hb, hml, hown, hg⟩ (s_append_full l D cy K L M_6 H_7.size oa f_21 y0 y1 y2 gw4 y4 hW i_9 (by omega) hM_8 i_11 i_12 i_13 hb_14) (cwV 1 hg (gV wd_630 wd_631 wd_632 wd_204 wd_633) rfl rfl rfl (by decide +kernel) ⟨(Nat.le_trans (Nat.le_of_ble_eq_true rfl) hRf), (Nat.le_trans (Nat.le_of_ble_eq_true rfl) hRl)⟩) ⟨PG.blind, pg_recv hK hP i_9.1 hM_8 rfl, fun U hU hW => ⟨rfl, PG.at hPc hK hDc hN hU hW⟩⟩ rfl rfl hl.1 rfl (lv_room (Nat.le_of_ble_eq_true rfl)) dX0_settleMends_23 ⟨by omega, by omega⟩) hS (fun q _ h => hFc q h) hFc (fun r_102 M_103 t H_101 locs ht hvm hw hB hz1 hk1 hS => ?_)
          have hp_104 := hw
          obtain ⟨hP1, hD1⟩ := hB
          rw [ht] at hP1
          have hP : va_P D vwCl ([] ++ va_pl L M_6) H_101 := hP1
          have hD : va_D A ([] ++ va_pl L M_6) := hD1.mono hFc
          rcases r_102 with _ | b_105
          · have hz := rfl (a := 0)
            refine lv_astore_nN (lv' := [(3, .null), (2, .int (nI v2w4)), (0, .ref oa), (1, .ref k1)]) hx hb dX0_settleMends_26 rfl hl (by decide) rfl (fun ls hl => ?_)
            refine lv_aload_nN hx hb dX0_settleMends_27 rfl (lv_at hl 0 rfl) ?_
            refine lv_ifnonnullN hx hb dX0_settleMends_28 ?_
            refine lv_null hx hb dX0_settleMends_31 ?_
            refine lv_goto (tgt := 43) hx hb dX0_settleMends_32 (by decide) ?_
            refine lv_astoreN (lv' := [(4, .null), (3, .null), (2, .int (nI v2w4)), (0, .ref oa), (1, .ref k1)]) hx hb dX0_settleMends_43 hl (by decide) rfl (fun ls hl => ?_)
            refine lv_aload_nN hx hb dX0_settleMends_45 rfl (lv_at hl 1 rfl) ?_
            refine lv_ifnullN (tgt := 111) hx hb dX0_settleMends_46 (by decide) ?_
            refine lv_iinc (v := (nI (v2w4 + 1))) (lv' := [(2, .int (nI (v2w4 + 1))), (4, .null), (3, .null), (0, .ref oa), (1, .ref k1)]) hx hb dX0_settleMends_111 hl (k := 2) rfl (nI_1 v2w4) (by decide) rfl (fun ls hl => ?_)
            refine lv_goto (tgt := 2) hx hb dX0_settleMends_114 (by decide) ?_
            refine W.widen (k := 3 * gw4) (n := 18 * gw4) (by omega) (by omega) ?_
            exact ih_2 (v2w4 + 1) gw4 K L M_6 H_101 _ _ (by omega) (by omega) hM_8 i_9 i_10 i_11 i_12 i_13 hb_14 hX0 hNW hW hF hT9 hP hD hS (lv_sub hl [0, 3, 4] rfl)
          · have hb_106 := hp_104 b_105 rfl
            refine lv_astore_n (lv' := [(3, .ref b_105), (2, .int (nI v2w4)), (0, .ref oa), (1, .ref k1)]) hx hb dX0_settleMends_26 rfl hl (by decide) rfl (fun ls hl => ?_)
            refine lv_aload_n hx hb dX0_settleMends_27 rfl (lv_at hl 0 rfl) ?_
            refine lv_ifnonnull (tgt := 35) hx hb dX0_settleMends_28 (by decide) ?_
            refine lv_aload_n hx hb dX0_settleMends_35 rfl (lv_at hl 3 rfl) ?_
            refine lv_aload_n hx hb dX0_settleMends_36 rfl (lv_at hl 0 rfl) ?_
            obtain ⟨v107_0, v107_1, v107_2, v107_3, v107_4, v107_5, hM107, h107_0, h107_1⟩ := hW.open_8 hb_106
            refine pg_get (D := D) (ci := 8) (v := .int v107_2) (C := RX8) (T := TX8) (N := 6) hx hb hg inG8 hown hK hP hb_106.1 hM107 rfl 2 (by decide) (hg _ wd_228) (fun _ h9 => h9) rfl dX0_settleMends_37 ?_
            have hPc : va_P D vwCl ([] ++ va_pl L M_6) H_101 := hP
            have hDc : va_D A ([] ++ va_pl L M_6) := hD
            have hFc : ∀ q, va_A ([] ++ va_pl L M_6) H_101.size q → A q := pg_free hDc hS hA
            refine va_callq (va_runV (As := [.int v107_2]) (rest := []) ⟨hx, hb, hml, hown, hg⟩ (s_X2_ruleOn l D cy K L M_6 H_101.size k1 v107_2  hW i_10) (cwV 1 hg (gV wd_250 wd_132 wd_133 wd_57 wd_134) rfl rfl rfl (by decide +kernel) ⟨(Nat.le_trans (Nat.le_of_ble_eq_true rfl) hRf), (Nat.le_trans (Nat.le_of_ble_eq_true rfl) hRl)⟩) ⟨PG.blind, pg_recv hK hP i_10.1 hM15 rfl, fun U hU hW => ⟨rfl, PG.at hPc hK hDc hN hU hW⟩⟩ rfl rfl hl.1 rfl (lv_room (Nat.le_of_ble_eq_true rfl)) dX0_settleMends_40 ⟨by omega, by omega⟩) hS (fun q _ h => hFc q h) hFc (fun r_109 M_110 t H_108 locs ht hvm hw hB hz1 hk1 hS => ?_)
            have hp_111 := hw
            obtain ⟨hP1, hD1⟩ := hB
            rw [ht] at hP1
            have hP : va_P D vwCl ([] ++ va_pl L M_6) H_108 := hP1
            have hD : va_D A ([] ++ va_pl L M_6) := hD1.mono hFc
            rcases r_109 with _ | b_112
            · have hz := rfl (a := 0)
              refine lv_astoreN (lv' := [(4, .null), (3, .ref b_105), (2, .int (nI v2w4)), (0, .ref oa), (1, .ref k1)]) hx hb dX0_settleMends_43 hl (by decide) rfl (fun ls hl => ?_)
              refine lv_aload_n hx hb dX0_settleMends_45 rfl (lv_at hl 1 rfl) ?_
              refine lv_ifnull hx hb dX0_settleMends_46 ?_
              refine lv_aloadN hx hb dX0_settleMends_49 (lv_at hl 0 rfl) ?_
              refine lv_ifnonnullN hx hb dX0_settleMends_51 ?_
              refine lv_goto (tgt := 111) hx hb dX0_settleMends_54 (by decide) ?_
              refine lv_iinc (v := (nI (v2w4 + 1))) (lv' := [(2, .int (nI (v2w4 + 1))), (4, .null), (3, .ref b_105), (0, .ref oa), (1, .ref k1)]) hx hb dX0_settleMends_111 hl (k := 2) rfl (nI_1 v2w4) (by decide) rfl (fun ls hl => ?_)
              refine lv_goto (tgt := 2) hx hb dX0_settleMends_114 (by decide) ?_
              refine W.widen (k := 3 * gw4) (n := 18 * gw4) (by omega) (by omega) ?_
              exact ih_2 (v2w4 + 1) gw4 K L M_6 H_108 _ _ (by omega) (by omega) hM_8 i_9 i_10 i_11 i_12 i_13 hb_14 hX0 hNW hW hF hT9 hP hD hS (lv_sub hl [0, 3, 4] rfl)
            · have hb_113 := hp_111 b_112 rfl
              refine lv_astore (lv' := [(4, .ref b_112), (3, .ref b_105), (2, .int (nI v2w4)), (0, .ref oa), (1, .ref k1)]) hx hb dX0_settleMends_43 hl (by decide) rfl (fun ls hl => ?_)
              refine lv_aload_n hx hb dX0_settleMends_45 rfl (lv_at hl 1 rfl) ?_
              refine lv_ifnull hx hb dX0_settleMends_46 ?_
              refine lv_aload hx hb dX0_settleMends_49 (lv_at hl 0 rfl) ?_
              refine lv_ifnonnull (tgt := 57) hx hb dX0_settleMends_51 (by decide) ?_
              refine lv_aload_n hx hb dX0_settleMends_57 rfl (lv_at hl 1 rfl) ?_
              refine lv_aload_n hx hb dX0_settleMends_58 rfl (lv_at hl 4 rfl) ?_
              have hPc : va_P D vwCl ([] ++ va_pl L M_6) H_108 := hP
              have hDc : va_D A ([] ++ va_pl L M_6) := hD
              have hFc : ∀ q, va_A ([] ++ va_pl L M_6) H_108.size q → A q := pg_free hDc hS hA
              refine va_callv (va_runV (As := [.ref k1]) (rest := []) ⟨hx, hb, hml, hown, hg⟩ (s_X8_seatAll l D cy K L M_6 H_108.size b_105 k1  hW hb_106 i_10) (cwV 1 hg (gV wd_251 wd_252 wd_253 wd_193 wd_254) rfl rfl rfl (by decide +kernel) ⟨(Nat.le_trans (Nat.le_of_ble_eq_true rfl) hRf), (Nat.le_trans (Nat.le_of_ble_eq_true rfl) hRl)⟩) ⟨PG.blind, pg_recv hK hP hb_106.1 hM107 rfl, fun U hU hW => ⟨rfl, PG.at hPc hK hDc hN hU hW⟩⟩ rfl rfl hl.1 rfl (lv_room (Nat.le_of_ble_eq_true rfl)) dX0_settleMends_59 ⟨by omega, by omega⟩) hS (fun q _ h => hFc q h) hFc (fun M_116 t H_114 locs ht hvm hw hB hz1 hk1 hS => ?_)
              obtain ⟨hW, hF2, hp_117⟩ := hw
              obtain ⟨hP1, hD1⟩ := hB
              rw [ht] at hP1
              have hP : va_P D vwCl ([] ++ va_pl L M_116) H_114 := hP1
              have hD : va_D A ([] ++ va_pl L M_116) := hD1.mono hFc
              have hM_118 : M_116 oa = (b0_6 y0 y1 y2 (nI gw4) y4) := (hF2.at i_9 (by decide)).trans hM_8
              have hM_119 : M_116 k1 = (b2_2 v15_0 v15_1 v15_2 v15_3 (nI v15_4) (nI v15_5) v15_6 v15_7 v15_8 (nI v15_9) v15_10 (nI v15_11) v15_12 v15_13 v15_14 v15_15 v15_16 v15_17 v15_18 v15_19) := (hF2.at i_10 (by decide)).trans hM15
              have hM_120 : M_116 v15_17 = (b1_4 v16_0 v16_1 v16_2 (nI v16_3)) := (hF2.at h15_17 (by decide)).trans hM16
              have hM_121 : M_116 v16_1 = .inl (cy 14, n16, .inl (f20)) := (hF2.at h16_1 (by decide)).trans hM20
              have hM_122 : M_116 b_105 = (b8_9 v107_0 v107_1 v107_2 v107_3 v107_4 v107_5) := (hF2.at hb_106 (by decide)).trans hM107
              have hF : fr K0 L0 [0, 7, 8, 9, 21, 64, 65, 68, 69, 70, 71, 72] M0 M_116 := hF.trX hX0 hF2 (by decide)
              have hT9 : fT 9 K0 L0 [11] M0 M_116 := hT9.frrX hX0 hF2 (by decide)
              refine lv_aload_n hx hb dX0_settleMends_62 rfl (lv_at hl 1 rfl) ?_
              refine lv_aload_n hx hb dX0_settleMends_63 rfl (lv_at hl 4 rfl) ?_
              refine pg_get (D := D) (ci := 2) (v := .ref v15_17) (C := RX2) (T := TX2) (N := 20) hx hb hg inG2 hown hK hP i_10.1 hM_119 rfl 17 (by decide) (hg _ wd_640) (fun _ h9 => h9) rfl dX0_settleMends_64 ?_
              refine pg_get (D := D) (ci := 1) (v := .ref v16_2) (C := RX1) (T := TX1) (N := 4) hx hb hg inG1 hown hK hP h15_17.1 hM_120 rfl 2 (by decide) (hg _ wd_230) (fun _ h9 => h9) rfl dX0_settleMends_67 ?_
              refine lv_iload_n hx hb dX0_settleMends_70 rfl (lv_at hl 2 rfl) ?_
              obtain ⟨f123, hM123⟩ := hW.open_57 h16_2
              refine pg_iald hx hb hK hP h16_2.1 0 hM123 rfl (inbN v2w4 n16 (by omega) (by omega)) dX0_settleMends_71 ?_
              refine lv_topi (fun f_124 ef_124 => ?_)
              refine lv_i2l hx hb dX0_settleMends_72 rfl ?_
              refine lv_topl (fun f_125 ef_125 => ?_)
              refine pg_put (D := D) (ci := 8) (v := .long f_125) (ty := .long) (C := RX8) (T := TX8) (N := 6) hx hb hg inG8 tyX8 tyX8_ok nmX8 hown hK hP hD hS hb_106.1 hM_122 rfl 4 (by decide) (hg _ wd_255) (fun _ h9 => h9) rfl (by decide +kernel) rfl rfl (Nat.le_of_ble_eq_true rfl) dX0_settleMends_73 (fun H_126 locs hP hD hS => ?_)
              obtain ⟨M_127, eM_127⟩ : ∃ M1 : Hp, M1 = va_up M_116 b_105 ((b8_9 v107_0 v107_1 v107_2 v107_3 f_125 v107_5)) := ⟨_, rfl⟩
              have hP : va_P D vwCl ([] ++ va_pl L M_127) H_126 := by rw [eM_127]; exact hP
              have hD : va_D A ([] ++ va_pl L M_127) := by rw [eM_127]; exact hD
              have hW : WOK cy K L M_127 := by rw [eM_127]; exact hW.up_8 hb_106 ⟨v107_0, v107_1, v107_2, v107_3, f_125, v107_5, rfl, h107_0, h107_1⟩
              have hF : fr K0 L0 [0, 7, 8, 9, 21, 64, 65, 68, 69, 70, 71, 72] M0 M_127 := by rw [eM_127]; exact hF.upX hX0 hb_106 (by decide)
              have hT9 : fT 9 K0 L0 [11] M0 M_127 := by rw [eM_127]; exact hT9.neX hX0 hb_106 (by decide)
              have hM_128 : M_127 b_105 = (b8_9 v107_0 v107_1 v107_2 v107_3 f_125 v107_5) := by rw [eM_127]; exact va_up_self _ _ _
              have hM_129 : M_127 oa = (b0_6 y0 y1 y2 (nI gw4) y4) := by rw [eM_127, va_up_ne _ _ (i_9.neT hb_106 (by decide))]; exact hM_118
              have hM_130 : M_127 k1 = (b2_2 v15_0 v15_1 v15_2 v15_3 (nI v15_4) (nI v15_5) v15_6 v15_7 v15_8 (nI v15_9) v15_10 (nI v15_11) v15_12 v15_13 v15_14 v15_15 v15_16 v15_17 v15_18 v15_19) := by rw [eM_127, va_up_ne _ _ (i_10.neT hb_106 (by decide))]; exact hM_119
              have hM_131 : M_127 v15_17 = (b1_4 v16_0 v16_1 v16_2 (nI v16_3)) := by rw [eM_127, va_up_ne _ _ (h15_17.neT hb_106 (by decide))]; exact hM_120
              have hM_132 : M_127 v16_1 = .inl (cy 14, n16, .inl (f20)) := by rw [eM_127, va_up_ne _ _ (h16_1.neT hb_106 (by decide))]; exact hM_121
              have hM_133 : M_127 v16_2 = .inl (cy 14, n16, .inl (f123)) := by rw [eM_127, va_up_ne _ _ (h16_2.neT hb_106 (by decide))]; exact hM123
              refine lv_aload_n hx hb dX0_settleMends_76 rfl (lv_at hl 1 rfl) ?_
              refine pg_get (D := D) (ci := 8) (v := .long f_125) (C := RX8) (T := TX8) (N := 6) hx hb hg inG8 hown hK hP hb_106.1 hM_128 rfl 4 (by decide) (hg _ wd_255) (fun _ h9 => h9) rfl dX0_settleMends_77 ?_
              refine lv_lconst (v := 0) hx hb dX0_settleMends_80 (by decide) ?_
              refine W.lcmp hx hb dX0_settleMends_81 ?_
              refine lv_if_le (tgt := 99) hx hb dX0_settleMends_82 (by decide) (fun c_134 => ?_) (fun c_134 => ?_)
              · have hz := rfl (a := 0)
                have d_135 : f_125 ≤ 0 := lc_let c_134
                refine lv_aload_n hx hb dX0_settleMends_99 rfl (lv_at hl 3 rfl) ?_
                refine lv_aload_n hx hb dX0_settleMends_100 rfl (lv_at hl 1 rfl) ?_
                refine lv_aload hx hb dX0_settleMends_101 (lv_at hl 0 rfl) ?_
                refine lv_aload_n hx hb dX0_settleMends_103 rfl (lv_at hl 1 rfl) ?_
                refine pg_get (D := D) (ci := 8) (v := .long f_125) (C := RX8) (T := TX8) (N := 6) hx hb hg inG8 hown hK hP hb_106.1 hM_128 rfl 4 (by decide) (hg _ wd_255) (fun _ h9 => h9) rfl dX0_settleMends_104 ?_
                refine lv_lneg hx hb dX0_settleMends_107 ?_
                refine lv_topl (fun f_136 ef_136 => ?_)
                have hPc : va_P D vwCl ([] ++ va_pl L M_127) H_126 := hP
                have hDc : va_D A ([] ++ va_pl L M_127) := hD
                have hFc : ∀ q, va_A ([] ++ va_pl L M_127) H_126.size q → A q := pg_free hDc hS hA
                refine va_callv (va_runV (As := [.ref b_105, .ref b_112, .long f_136]) (rest := []) ⟨hx, hb, hml, hown, hg⟩ (s_X0_shareLack l D cy K L M_127 H_126.size oa b_105 b_112 f_136  hW i_9 hb_106 hb_113) (cwV 3 hg (gV wd_264 wd_265 wd_266 wd_204 wd_267) rfl rfl rfl (by decide +kernel) ⟨(Nat.le_trans (Nat.le_of_ble_eq_true rfl) hRf), (Nat.le_trans (Nat.le_of_ble_eq_true rfl) hRl)⟩) ⟨PG.blind, pg_recv hK hP i_9.1 hM_129 rfl, fun U hU hW => ⟨rfl, PG.at hPc hK hDc hN hU hW⟩⟩ rfl rfl hl.1 rfl (lv_room (Nat.le_of_ble_eq_true rfl)) dX0_settleMends_108 ⟨by omega, by omega⟩) hS (fun q _ h => hFc q h) hFc (fun M_139 t H_137 locs ht hvm hw hB hz1 hk1 hS => ?_)
                obtain ⟨hW, hF2, gT9, hp_140⟩ := hw
                obtain ⟨hP1, hD1⟩ := hB
                rw [ht] at hP1
                have hP : va_P D vwCl ([] ++ va_pl L M_139) H_137 := hP1
                have hD : va_D A ([] ++ va_pl L M_139) := hD1.mono hFc
                have hM_141 : M_139 oa = (b0_6 y0 y1 y2 (nI gw4) y4) := (hF2.at i_9 (by decide)).trans hM_129
                have hM_142 : M_139 k1 = (b2_2 v15_0 v15_1 v15_2 v15_3 (nI v15_4) (nI v15_5) v15_6 v15_7 v15_8 (nI v15_9) v15_10 (nI v15_11) v15_12 v15_13 v15_14 v15_15 v15_16 v15_17 v15_18 v15_19) := (hF2.at i_10 (by decide)).trans hM_130
                have hM_143 : M_139 v15_17 = (b1_4 v16_0 v16_1 v16_2 (nI v16_3)) := (hF2.at h15_17 (by decide)).trans hM_131
                have hM_144 : M_139 v16_1 = .inl (cy 14, n16, .inl (f20)) := (hF2.at h16_1 (by decide)).trans hM_132
                have hM_145 : M_139 v16_2 = .inl (cy 14, n16, .inl (f123)) := (hF2.at h16_2 (by decide)).trans hM_133
                have hF : fr K0 L0 [0, 7, 8, 9, 21, 64, 65, 68, 69, 70, 71, 72] M0 M_139 := hF.trX hX0 hF2 (by decide)
                have hT9 : fT 9 K0 L0 [11] M0 M_139 := hT9.trX hX0 gT9 (by decide)
                refine lv_iinc (v := (nI (v2w4 + 1))) (lv' := [(2, .int (nI (v2w4 + 1))), (4, .ref b_112), (3, .ref b_105), (0, .ref oa), (1, .ref k1)]) hx hb dX0_settleMends_111 hl (k := 2) rfl (nI_1 v2w4) (by decide) rfl (fun ls hl => ?_)
                refine lv_goto (tgt := 2) hx hb dX0_settleMends_114 (by decide) ?_
                refine W.widen (k := 3 * gw4) (n := 18 * gw4) (by omega) (by omega) ?_
                exact ih_2 (v2w4 + 1) gw4 K L M_139 H_137 _ _ (by omega) (by omega) hM_141 i_9 i_10 i_11 i_12 i_13 hb_14 hX0 hNW hW hF hT9 hP hD hS (lv_sub hl [0, 3, 4] rfl)
              · have hz := rfl (a := 0)
                have d_135 : ¬ f_125 ≤ 0 := lc_lef c_134
                refine lv_aload_n hx hb dX0_settleMends_85 rfl (lv_at hl 3 rfl) ?_
                refine lv_aload_n hx hb dX0_settleMends_86 rfl (lv_at hl 1 rfl) ?_
                refine lv_aload hx hb dX0_settleMends_87 (lv_at hl 0 rfl) ?_
                refine lv_aload_n hx hb dX0_settleMends_89 rfl (lv_at hl 1 rfl) ?_
                refine pg_get (D := D) (ci := 8) (v := .long f_125) (C := RX8) (T := TX8) (N := 6) hx hb hg inG8 hown hK hP hb_106.1 hM_128 rfl 4 (by decide) (hg _ wd_255) (fun _ h9 => h9) rfl dX0_settleMends_90 ?_
                have hPc : va_P D vwCl ([] ++ va_pl L M_127) H_126 := hP
                have hDc : va_D A ([] ++ va_pl L M_127) := hD
                have hFc : ∀ q, va_A ([] ++ va_pl L M_127) H_126.size q → A q := pg_free hDc hS hA
                refine va_callv (va_runV (As := [.ref b_105, .ref b_112, .long f_125]) (rest := []) ⟨hx, hb, hml, hown, hg⟩ (s_X0_shareGain l D cy K L M_127 H_126.size oa b_105 b_112 f_125  hW i_9 hb_106 hb_113) (cwV 3 hg (gV wd_272 wd_273 wd_274 wd_204 wd_275) rfl rfl rfl (by decide +kernel) ⟨(Nat.le_trans (Nat.le_of_ble_eq_true rfl) hRf), (Nat.le_trans (Nat.le_of_ble_eq_true rfl) hRl)⟩) ⟨PG.blind, pg_recv hK hP i_9.1 hM_129 rfl, fun U hU hW => ⟨rfl, PG.at hPc hK hDc hN hU hW⟩⟩ rfl rfl hl.1 rfl (lv_room (Nat.le_of_ble_eq_true rfl)) dX0_settleMends_93 ⟨by omega, by omega⟩) hS (fun q _ h => hFc q h) hFc (fun M_148 t H_146 locs ht hvm hw hB hz1 hk1 hS => ?_)
                obtain ⟨hW, hF2, hp_149⟩ := hw
                obtain ⟨hP1, hD1⟩ := hB
                rw [ht] at hP1
                have hP : va_P D vwCl ([] ++ va_pl L M_148) H_146 := hP1
                have hD : va_D A ([] ++ va_pl L M_148) := hD1.mono hFc
                have hM_150 : M_148 oa = (b0_6 y0 y1 y2 (nI gw4) y4) := (hF2.at i_9 (by decide)).trans hM_129
                have hM_151 : M_148 k1 = (b2_2 v15_0 v15_1 v15_2 v15_3 (nI v15_4) (nI v15_5) v15_6 v15_7 v15_8 (nI v15_9) v15_10 (nI v15_11) v15_12 v15_13 v15_14 v15_15 v15_16 v15_17 v15_18 v15_19) := (hF2.at i_10 (by decide)).trans hM_130
                have hM_152 : M_148 v15_17 = (b1_4 v16_0 v16_1 v16_2 (nI v16_3)) := (hF2.at h15_17 (by decide)).trans hM_131
                have hM_153 : M_148 v16_1 = .inl (cy 14, n16, .inl (f20)) := (hF2.at h16_1 (by decide)).trans hM_132
                have hM_154 : M_148 v16_2 = .inl (cy 14, n16, .inl (f123)) := (hF2.at h16_2 (by decide)).trans hM_133
                have hF : fr K0 L0 [0, 7, 8, 9, 21, 64, 65, 68, 69, 70, 71, 72] M0 M_148 := hF.trX hX0 hF2 (by decide)
                have hT9 : fT 9 K0 L0 [11] M0 M_148 := hT9.frrX hX0 hF2 (by decide)
                refine lv_goto (tgt := 111) hx hb dX0_settleMends_96 (by decide) ?_
                refine lv_iinc (v := (nI (v2w4 + 1))) (lv' := [(2, .int (nI (v2w4 + 1))), (4, .ref b_112), (3, .ref b_105), (0, .ref oa), (1, .ref k1)]) hx hb dX0_settleMends_111 hl (k := 2) rfl (nI_1 v2w4) (by decide) rfl (fun ls hl => ?_)
                refine lv_goto (tgt := 2) hx hb dX0_settleMends_114 (by decide) ?_
                refine W.widen (k := 3 * gw4) (n := 18 * gw4) (by omega) (by omega) ?_
                exact ih_2 (v2w4 + 1) gw4 K L M_148 H_146 _ _ (by omega) (by omega) hM_150 i_9 i_10 i_11 i_12 i_13 hb_14 hX0 hNW hW hF hT9 hP hD hS (lv_sub hl [0, 3, 4] rfl)
  refine W.widen (k := 3 * y3) (n := 18 * y3) (by omega) (by omega) ?_
  exact key_1 (120 - 0 + 1) 0 y3 K L M s.heap _ _ (by omega) (by omega) hMy ia ik1 hy0 hy1 hy2 hy3 hX0 hNW hW hF hT9 hP hD hS (lv_sub hl [0, 1, 2] rfl)
