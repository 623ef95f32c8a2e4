/-- the tenure that is in a seat on a day -/
noncomputable def tsq (X : Nat → Int) (Y : Nat → Nat → Int32) (d : Int) (q : Nat) : Option Nat := @dite (Option Nat) (∃ i : Nat, (i : Int) < X 10 ∧ tin Y (q : Int) d i) (Classical.propDecidable _) (fun h => some (Classical.choose h)) (fun _ => none)
/-- at most one is in a seat on a day -/
def UNT (X : Nat → Int) (Y : Nat → Nat → Int32) : Prop := ∀ (d : Int) (q i j : Nat), (i : Int) < X 10 → (j : Int) < X 10 → tin Y (q : Int) d i → tin Y (q : Int) d j → i = j
theorem tsq_none {X : Nat → Int} {Y : Nat → Nat → Int32} {d : Int} {q : Nat} : tsq X Y d q = none ↔ ∀ i : Nat, (i : Int) < X 10 → ¬ tin Y (q : Int) d i := by
  unfold tsq
  by_cases z : ∃ i : Nat, (i : Int) < X 10 ∧ tin Y (q : Int) d i
  · rw [dif_pos z]
    constructor
    · intro h
      cases h
    · intro h
      obtain ⟨i, h1, h2⟩ := z
      exact absurd h2 (h i h1)
  · rw [dif_neg z]
    constructor
    · intro _ i h1 h2
      exact z ⟨i, h1, h2⟩
    · intro _
      rfl
theorem tsq_in {X : Nat → Int} {Y : Nat → Nat → Int32} {d : Int} {q i : Nat} (h : tsq X Y d q = some i) : (i : Int) < X 10 ∧ tin Y (q : Int) d i := by
  unfold tsq at h
  by_cases z : ∃ i : Nat, (i : Int) < X 10 ∧ tin Y (q : Int) d i
  · rw [dif_pos z] at h
    have e := Option.some.inj h
    rw [← e]
    exact Classical.choose_spec z
  · rw [dif_neg z] at h
    cases h
theorem tsq_of {X : Nat → Int} {Y : Nat → Nat → Int32} {d : Int} {q i : Nat} (hU : UNT X Y) (hi : (i : Int) < X 10) (h : tin Y (q : Int) d i) : tsq X Y d q = some i := by
  cases e : tsq X Y d q with
  | none => exact absurd h (tsq_none.mp e i hi)
  | some j =>
    have g := tsq_in e
    rw [hU d q i j hi g.1 h g.2]
theorem tsq_seat {X : Nat → Int} {Y : Nat → Nat → Int32} {d : Int} {q i : Nat} (h : tsq X Y d q = some i) : (Y 20 i).toInt = (q : Int) := (tsq_in h).2.1
/-- the rule that counts on a day -/
noncomputable def rlq (Y : Nat → Nat → Int32) (n : Nat) (d : Int) : Nat := @dite Nat (∃ k, RLN Y n d k) (Classical.propDecidable _) (fun h => Classical.choose h) (fun _ => 0)
theorem rlq_of {Y : Nat → Nat → Int32} {n : Nat} {d : Int} {k : Nat} (h : RLN Y n d k) : rlq Y n d = k := by
  unfold rlq
  rw [dif_pos ⟨k, h⟩]
  exact (Classical.choose_spec (⟨k, h⟩ : ∃ k, RLN Y n d k)).un h
def tmq (Y : Nat → Nat → Int32) (k w q : Nat) : Int := (Y 36 (24 * k + (6 * w + q))).toInt
/-- what seats have: wage, interest, weight, limit, room -/
def wgS (PK : Nat → Int32) (Y : Nat → Nat → Int32) (ts : Nat → Option Nat) (k : Nat) (m : Int) (q : Nat) : Int := match ts q with
  | none => 0
  | some i => if (PK (Y 19 i).toNatClampNeg).toInt = 3 then tmq Y k 0 q * m else 0
noncomputable def inS (X : Nat → Int) (Y : Nat → Nat → Int32) (cr : Nat → Int) (ts : Nat → Option Nat) (k : Nat) (d m : Int) (q : Nat) : Int := match ts q with
  | none => 0
  | some i => itS (cr i) (fun j => (Y 38 j).toInt = (i : Int)) (wJ (Y 39)) (wJ (Y 40)) (X 14).toNat d m.toNat * (Y 35 k).toInt / 360000
def wtS (Y : Nat → Nat → Int32) (ts : Nat → Option Nat) (k w q : Nat) : Int := match ts q with
  | none => 0
  | some _ => tmq Y k w q
def lmS (PK : Nat → Int32) (Y : Nat → Nat → Int32) (ts : Nat → Option Nat) (q : Nat) : Prop := ∃ i, ts q = some i ∧ LKD (PK (Y 19 i).toNatClampNeg)
def rmS (PT : Nat → Int32) (Y : Nat → Nat → Int32) (ts : Nat → Option Nat) (bo : Nat → Int) (q : Nat) : Int := match ts q with
  | none => 0
  | some i => rmI (PT (Y 19 i).toNatClampNeg).toInt (bo i)
/-- a stretch (or a mend) by the data of its seats: what is left, told sums, shares, nobody's, borne -/
noncomputable def dl1 (mn : Bool) (wg inn : Nat → Int) (R : Int) : Int := if mn = true then R else R - sumI wg 6 - sumI inn 6
noncomputable def dgv (mn : Bool) (hs : Nat → Prop) (fx : Nat → Int) (l : Int) : Int := if mn = false ∧ 0 < l then gvS hs fx l 6 else 0
noncomputable def dfx (mn : Bool) (hs : Nat → Prop) (fx : Nat → Int) (l : Int) (q : Nat) : Int := if mn = false ∧ 0 < l then fxS hs fx l q else 0
noncomputable def dsh (hs : Nat → Prop) (w2 w3 : Nat → Int) (lim : Nat → Prop) (rm : Nat → Int) (l : Int) (q : Nat) : Int := if 0 < l then cutQ l w2 6 q else if l < 0 then @ite Int (hs q) (Classical.propDecidable _) (-(brQ (-l) w3 lim rm 6 q)) 0 else 0
noncomputable def dno (w2 w3 : Nat → Int) (lim : Nat → Prop) (rm : Nat → Int) (l : Int) : Int := if 0 < l then (if sumI w2 6 = 0 then l else 0) else if l < 0 then -(-l - sumI (brQ (-l) w3 lim rm 6) 6) else 0
noncomputable def dbr (w3 : Nat → Int) (lim : Nat → Prop) (rm : Nat → Int) (l : Int) (q : Nat) : Int := if l < 0 then brQ (-l) w3 lim rm 6 q else 0
/-- what is left when wages, interest and told sums are given -/
noncomputable def dl2 (mn : Bool) (hs : Nat → Prop) (wg inn fx : Nat → Int) (R : Int) : Int := dl1 mn wg inn R - dgv mn hs fx (dl1 mn wg inn R)
noncomputable def dui (mn : Bool) (hs : Nat → Prop) (wg inn fx w2 w3 : Nat → Int) (lim : Nat → Prop) (rm : Nat → Int) (R : Int) (q : Nat) : Int := (if mn = true then 0 else wg q + inn q) + dfx mn hs fx (dl1 mn wg inn R) q + dsh hs w2 w3 lim rm (dl2 mn hs wg inn fx R) q
theorem gvS_cg {P Q : Nat → Prop} {f g : Nat → Int} {l : Int} : ∀ n, (∀ q, q < n → (P q ↔ Q q)) → (∀ q, q < n → f q = g q) → gvS P f l n = gvS Q g l n := by
  intro n
  induction n with
  | zero => intro _ _; rfl
  | succ n ih =>
    intro h1 h2
    show gvS P f l n + fx1 (P n) (f n) l (gvS P f l n) = gvS Q g l n + fx1 (Q n) (g n) l (gvS Q g l n)
    rw [ih (fun q hq => h1 q (Nat.lt_succ_of_lt hq)) (fun q hq => h2 q (Nat.lt_succ_of_lt hq)), h2 n (Nat.lt_succ_self n), show P n = Q n from propext (h1 n (Nat.lt_succ_self n))]
theorem fxS_cg {P Q : Nat → Prop} {f g : Nat → Int} {l : Int} {q : Nat} (h1 : ∀ i, i < q + 1 → (P i ↔ Q i)) (h2 : ∀ i, i < q + 1 → f i = g i) : fxS P f l q = fxS Q g l q := by
  unfold fxS
  rw [gvS_cg q (fun i hi => h1 i (Nat.lt_succ_of_lt hi)) (fun i hi => h2 i (Nat.lt_succ_of_lt hi)), h2 q (Nat.lt_succ_self q), show P q = Q q from propext (h1 q (Nat.lt_succ_self q))]
theorem kpt_cg2 {L : Int} {w w' : Nat → Int} {lim lim' : Nat → Prop} {rm rm' : Nat → Int} {n j : Nat} (h : ∀ i, i < n → w i = w' i) (hl : ∀ i, i < n → (lim i ↔ lim' i)) (hr : ∀ i, i < n → rm i = rm' i) (hj : j < n) : kpt L w lim rm n j = kpt L w' lim' rm' n j := by
  unfold kpt
  rw [cutQ_cg h hj, hr j hj, show lim j = lim' j from propext (hl j hj)]
theorem brQ_cg2 {L : Int} {w w' : Nat → Int} {lim lim' : Nat → Prop} {rm rm' : Nat → Int} {n j : Nat} (h : ∀ i, i < n → w i = w' i) (hl : ∀ i, i < n → (lim i ↔ lim' i)) (hr : ∀ i, i < n → rm i = rm' i) (hj : j < n) : brQ L w lim rm n j = brQ L w' lim' rm' n j := by
  have k1 : ∀ i, i < n → kpt L w lim rm n i = kpt L w' lim' rm' n i := fun i hi => kpt_cg2 h hl hr hi
  have k2 : offQ L w lim rm n n = offQ L w' lim' rm' n n := sumI_cg n (fun i hi => by rw [cutQ_cg h hi, k1 i hi])
  have k3 : ∀ i, i < n → wAl w lim i = wAl w' lim' i := fun i hi => by
    unfold wAl
    rw [h i hi, show lim i = lim' i from propext (hl i hi)]
  unfold brQ
  rw [k1 j hj, k2, cutQ_cg k3 hj]
theorem dl1_cg {mn : Bool} {wg wg' inn inn' : Nat → Int} {R : Int} (h1 : ∀ q, q < 6 → wg q = wg' q) (h2 : ∀ q, q < 6 → inn q = inn' q) : dl1 mn wg inn R = dl1 mn wg' inn' R := by
  unfold dl1
  rw [sumI_cg 6 h1, sumI_cg 6 h2]
theorem dgv_cg {mn : Bool} {hs hs' : Nat → Prop} {fx fx' : Nat → Int} {l : Int} (h1 : ∀ q, q < 6 → (hs q ↔ hs' q)) (h2 : ∀ q, q < 6 → fx q = fx' q) : dgv mn hs fx l = dgv mn hs' fx' l := by
  unfold dgv
  rw [gvS_cg 6 h1 h2]
theorem dfx_cg {mn : Bool} {hs hs' : Nat → Prop} {fx fx' : Nat → Int} {l : Int} {q : Nat} (hq : q < 6) (h1 : ∀ q, q < 6 → (hs q ↔ hs' q)) (h2 : ∀ q, q < 6 → fx q = fx' q) : dfx mn hs fx l q = dfx mn hs' fx' l q := by
  unfold dfx
  rw [fxS_cg (fun i hi => h1 i (by omega)) (fun i hi => h2 i (by omega))]
theorem dsh_cg {hs hs' : Nat → Prop} {w2 w2' w3 w3' : Nat → Int} {lim lim' : Nat → Prop} {rm rm' : Nat → Int} {l : Int} {q : Nat} (hq : q < 6) (h1 : ∀ q, q < 6 → (hs q ↔ hs' q)) (h2 : ∀ q, q < 6 → w2 q = w2' q) (h3 : ∀ q, q < 6 → w3 q = w3' q) (h4 : ∀ q, q < 6 → (lim q ↔ lim' q)) (h5 : ∀ q, q < 6 → rm q = rm' q) : dsh hs w2 w3 lim rm l q = dsh hs' w2' w3' lim' rm' l q := by
  unfold dsh
  rw [cutQ_cg h2 hq, brQ_cg2 h3 h4 h5 hq, show hs q = hs' q from propext (h1 q hq)]
theorem dno_cg {w2 w2' w3 w3' : Nat → Int} {lim lim' : Nat → Prop} {rm rm' : Nat → Int} {l : Int} (h2 : ∀ q, q < 6 → w2 q = w2' q) (h3 : ∀ q, q < 6 → w3 q = w3' q) (h4 : ∀ q, q < 6 → (lim q ↔ lim' q)) (h5 : ∀ q, q < 6 → rm q = rm' q) : dno w2 w3 lim rm l = dno w2' w3' lim' rm' l := by
  unfold dno
  rw [sumI_cg 6 h2, sumI_cg 6 (fun q hq => brQ_cg2 h3 h4 h5 hq)]
theorem dbr_cg {w3 w3' : Nat → Int} {lim lim' : Nat → Prop} {rm rm' : Nat → Int} {l : Int} {q : Nat} (hq : q < 6) (h3 : ∀ q, q < 6 → w3 q = w3' q) (h4 : ∀ q, q < 6 → (lim q ↔ lim' q)) (h5 : ∀ q, q < 6 → rm q = rm' q) : dbr w3 lim rm l q = dbr w3' lim' rm' l q := by
  unfold dbr
  rw [brQ_cg2 h3 h4 h5 hq]
/-- the data of the seats of one item (mn: a mend) of a House's close, in numbers -/
noncomputable def seD (PK PT : Nat → Int32) (X : Nat → Int) (Y : Nat → Nat → Int32) (cr : Nat → Int) (mn : Bool) (d m R : Int) (bo : Nat → Int) (q : Nat) : Int :=
  dui mn (fun q => tsq X Y d q ≠ none) (wgS PK Y (tsq X Y d) (rlq Y (X 11).toNat d) m) (inS X Y cr (tsq X Y d) (rlq Y (X 11).toNat d) d m) (tmq Y (rlq Y (X 11).toNat d) 1) (wtS Y (tsq X Y d) (rlq Y (X 11).toNat d) 2) (wtS Y (tsq X Y d) (rlq Y (X 11).toNat d) 3) (lmS PK Y (tsq X Y d)) (rmS PT Y (tsq X Y d) bo) R q
noncomputable def seL (PK : Nat → Int32) (X : Nat → Int) (Y : Nat → Nat → Int32) (cr : Nat → Int) (mn : Bool) (d m R : Int) : Int := dl2 mn (fun q => tsq X Y d q ≠ none) (wgS PK Y (tsq X Y d) (rlq Y (X 11).toNat d) m) (inS X Y cr (tsq X Y d) (rlq Y (X 11).toNat d) d m) (tmq Y (rlq Y (X 11).toNat d) 1) R
noncomputable def seN (PK PT : Nat → Int32) (X : Nat → Int) (Y : Nat → Nat → Int32) (cr : Nat → Int) (mn : Bool) (d m R : Int) (bo : Nat → Int) : Int := dno (wtS Y (tsq X Y d) (rlq Y (X 11).toNat d) 2) (wtS Y (tsq X Y d) (rlq Y (X 11).toNat d) 3) (lmS PK Y (tsq X Y d)) (rmS PT Y (tsq X Y d) bo) (seL PK X Y cr mn d m R)
noncomputable def seB (PK PT : Nat → Int32) (X : Nat → Int) (Y : Nat → Nat → Int32) (cr : Nat → Int) (mn : Bool) (d m R : Int) (bo : Nat → Int) (q : Nat) : Int := dbr (wtS Y (tsq X Y d) (rlq Y (X 11).toNat d) 3) (lmS PK Y (tsq X Y d)) (rmS PT Y (tsq X Y d) bo) (seL PK X Y cr mn d m R) q
/-- of a tenure, what its seat had, where it was in -/
noncomputable def ofT (X : Nat → Int) (Y : Nat → Nat → Int32) (d : Int) (f : Nat → Int) (i : Nat) : Int := @ite Int (tsq X Y d (Y 20 i).toNatClampNeg = some i) (Classical.propDecidable _) (f (Y 20 i).toNatClampNeg) 0
/-- what is borne ahead of item i: IT: kind of item, day, days, result -/
noncomputable def boI (PK PT : Nat → Int32) (X : Nat → Int) (Y : Nat → Nat → Int32) (cr : Nat → Int) (mn : Nat → Bool) (fd dn rs : Nat → Int) (b0 : Nat → Int) : Nat → Nat → Int
  | 0 => b0
  | i + 1 => fun t => boI PK PT X Y cr mn fd dn rs b0 i t + ofT X Y (fd i) (seB PK PT X Y cr (mn i) (fd i) (dn i) (rs i) (boI PK PT X Y cr mn fd dn rs b0 i)) t
theorem sumI_ex {f g : Nat → Int} {n : Nat} (h : ∀ j, j < n → f j = g j) : sumI f n = sumI g n := sumI_cg n h
theorem mvS_cg {P Q : Nat → Prop} {S T : Nat → Int} : ∀ n, (∀ k, k < n → (P k ↔ Q k)) → (∀ k, k < n → S k = T k) → mvS P S n = mvS Q T n := by
  intro n h1 h2
  refine sumI_cg n (fun k hk => ?_)
  show @ite Int (P k) (Classical.propDecidable _) (S k) 0 = @ite Int (Q k) (Classical.propDecidable _) (T k) 0
  rw [show P k = Q k from propext (h1 k hk), h2 k hk]
theorem itS_cg {c0 : Int} {P Q : Nat → Prop} {D E S T : Nat → Int} {n m : Nat} {f : Int} (h1 : ∀ k, k < n → (P k ↔ Q k)) (h2 : ∀ k, k < n → D k = E k) (h3 : ∀ k, k < n → S k = T k) : itS c0 P D S n f m = itS c0 Q E T n f m := by
  refine sumI_cg m (fun j _ => ?_)
  show mx0 (c0 + mvS _ S n) = mx0 (c0 + mvS _ T n)
  rw [mvS_cg n (P := fun k => P k ∧ D k ≤ f + (j : Int)) (Q := fun k => Q k ∧ E k ≤ f + (j : Int)) (S := S) (T := T) (fun k hk => by rw [h2 k hk, show P k = Q k from propext (h1 k hk)]) h3]
/-- who sits in a stretch of the class, by numbers -/
def SEC (M : Hp) (s : Nat) (sl : Nat → Option Nat) (ts : Nat → Option Nat) : Prop := ∀ q : Nat, q < 6 → (ts q = none ∧ sT M s q = none) ∨ ∃ i t, ts q = some i ∧ sl i = some t ∧ sT M s q = some t
theorem TSQ.cg {sl : Nat → Option Nat} {n n' : Int} {Y Y' : Nat → Nat → Int32} {q d : Int} {o : Option Nat} (h : TSQ sl n Y q d o) (hn : n = n') (hY : ∀ i : Nat, (i : Int) < n' → Y 20 i = Y' 20 i ∧ Y 21 i = Y' 21 i ∧ Y 22 i = Y' 22 i) : TSQ sl n' Y' q d o := by
  have ht : ∀ i : Nat, (i : Int) < n' → (tin Y q d i ↔ tin Y' q d i) := fun i hi => by
    have g := hY i hi
    unfold tin
    rw [g.1, g.2.1, g.2.2]
  refine ⟨fun t e => ?_, fun e i hi g => ?_⟩
  · obtain ⟨i, h1, h2, h3⟩ := h.1 t e
    rw [hn] at h1
    exact ⟨i, h1, h2, (ht i h1).mp h3⟩
  · exact h.2 e i (by rw [hn]; exact hi) ((ht i hi).mpr g)
theorem TSQ.ts {sl : Nat → Option Nat} {X : Nat → Int} {Y : Nat → Nat → Int32} {q : Nat} {d : Int} {o : Option Nat} (hU : UNT X Y) (h : TSQ sl (X 10) Y (q : Int) d o) : (tsq X Y d q = none ∧ o = none) ∨ ∃ i t, tsq X Y d q = some i ∧ sl i = some t ∧ o = some t := by
  cases e : o with
  | none => exact Or.inl ⟨tsq_none.mpr (h.2 e), rfl⟩
  | some t =>
    obtain ⟨i, h1, h2, h3⟩ := h.1 t e
    exact Or.inr ⟨i, t, tsq_of hU h1 h3, h2, rfl⟩
/-- what tenures are, by numbers -/
def TNF (M : Hp) (sl : Nat → Option Nat) (PK PT : Nat → Int32) (X : Nat → Int) (Y : Nat → Nat → Int32) (cr bo : Nat → Int) : Prop := ∀ i t, (i : Int) < X 10 → sl i = some t → cV 4 M (rA 9 M t 1) 1 = PK (Y 19 i).toNatClampNeg ∧ cV 4 M (rA 9 M t 1) 2 = PT (Y 19 i).toNatClampNeg ∧ (cL 9 M t 9).toInt = cr i ∧ (cL 9 M t 11).toInt = bo i
def RTQ (M : Hp) (r : Nat) (Y : Nat → Nat → Int32) (k : Nat) : Prop := (∀ w q : Nat, w < 4 → q < 6 → tR M r w q = tmq Y k w q) ∧ (cV 6 M r 1).toInt = (Y 35 k).toInt
def MVQ (M : Hp) (mv : Nat) (sl : Nat → Option Nat) (X : Nat → Int) (Y : Nat → Nat → Int32) : Prop := ∀ j : Nat, (j : Int) < X 14 → (∃ i t, (i : Int) < X 10 ∧ (Y 38 j).toInt = (i : Int) ∧ sl i = some t ∧ RFc (M (rA 1 M mv 0)) j = some t) ∧ wJ (IFc (M (rA 1 M mv 1))) j = wJ (Y 39) j ∧ wJ (IFc (M (rA 1 M mv 2))) j = wJ (Y 40) j
def SLI (sl : Nat → Option Nat) (n : Int) : Prop := ∀ (i j : Nat) t, (i : Int) < n → (j : Int) < n → sl i = some t → sl j = some t → i = j
theorem wgE_S {M : Hp} {s r k q : Nat} {sl ts : Nat → Option Nat} {PK PT : Nat → Int32} {X : Nat → Int} {Y : Nat → Nat → Int32} {cr bo : Nat → Int} (h1 : SEC M s sl ts) (h2 : TNF M sl PK PT X Y cr bo) (h3 : RTQ M r Y k) (h4 : ∀ q i, ts q = some i → (i : Int) < X 10) (hq : q < 6) : wgE M s r q = wgS PK Y ts k (cV 8 M s 3).toInt q := by
  unfold wgS
  rcases h1 q hq with ⟨e1, e2⟩ | ⟨i, t, e1, e2, e3⟩
  · rw [e1, wgE_n e2]
  · have g := h2 i t (h4 q i e1) e2
    rw [e1]
    show _ = if (PK (Y 19 i).toNatClampNeg).toInt = 3 then tmq Y k 0 q * (cV 8 M s 3).toInt else 0
    by_cases z : (PK (Y 19 i).toNatClampNeg).toInt = 3
    · rw [if_pos z, wgE_y e3 (by rw [g.1]; exact z), h3.1 0 q (by decide) hq]
    · rw [if_neg z, wgE_z e3 (by rw [g.1]; exact z)]
theorem wtE_S {M : Hp} {s r k q w : Nat} {sl ts : Nat → Option Nat} {Y : Nat → Nat → Int32} (h1 : SEC M s sl ts) (h3 : RTQ M r Y k) (hw : w < 4) (hq : q < 6) : wtE M s r w q = wtS Y ts k w q := by
  unfold wtS
  rcases h1 q hq with ⟨e1, e2⟩ | ⟨i, t, e1, e2, e3⟩
  · rw [e1, wtE_n e2]
  · rw [e1, wtE_y e3, h3.1 w q hw hq]
theorem LMC_S {M : Hp} {s q : Nat} {sl ts : Nat → Option Nat} {PK PT : Nat → Int32} {X : Nat → Int} {Y : Nat → Nat → Int32} {cr bo : Nat → Int} (h1 : SEC M s sl ts) (h2 : TNF M sl PK PT X Y cr bo) (h4 : ∀ q i, ts q = some i → (i : Int) < X 10) (hq : q < 6) : LMC M s q ↔ lmS PK Y ts q := by
  rcases h1 q hq with ⟨e1, e2⟩ | ⟨i, t, e1, e2, e3⟩
  · constructor
    · intro ⟨t, g1, _⟩
      rw [e2] at g1
      cases g1
    · intro ⟨i, g1, _⟩
      rw [e1] at g1
      cases g1
  · have g := h2 i t (h4 q i e1) e2
    constructor
    · intro ⟨t', g1, g2⟩
      rw [e3] at g1
      cases g1
      rw [g.1] at g2
      exact ⟨i, e1, g2⟩
    · intro ⟨i', g1, g2⟩
      rw [e1] at g1
      cases g1
      exact ⟨t, e3, by rw [g.1]; exact g2⟩
theorem RMC_S {M : Hp} {s q : Nat} {sl ts : Nat → Option Nat} {PK PT : Nat → Int32} {X : Nat → Int} {Y : Nat → Nat → Int32} {cr bo : Nat → Int} (h1 : SEC M s sl ts) (h2 : TNF M sl PK PT X Y cr bo) (h4 : ∀ q i, ts q = some i → (i : Int) < X 10) (hq : q < 6) : RMC M s q = rmS PT Y ts bo q := by
  unfold rmS
  rcases h1 q hq with ⟨e1, e2⟩ | ⟨i, t, e1, e2, e3⟩
  · rw [e1]
    unfold RMC
    rw [e2]
  · have g := h2 i t (h4 q i e1) e2
    rw [e1, RMC_y e3, g.2.1, g.2.2.2]
theorem inE_S {M : Hp} {mv s r k q : Nat} {sl ts : Nat → Option Nat} {PK PT : Nat → Int32} {X : Nat → Int} {Y : Nat → Nat → Int32} {cr bo : Nat → Int} (h1 : SEC M s sl ts) (h2 : TNF M sl PK PT X Y cr bo) (h3 : RTQ M r Y k) (h4 : ∀ q i, ts q = some i → (i : Int) < X 10) (h5 : MVQ M mv sl X Y) (h6 : SLI sl (X 10)) (h7 : 0 ≤ X 14) (hq : q < 6) : inE M mv s (X 14).toNat (cV 6 M r 1).toInt q = inS X Y cr ts k (cV 8 M s 2).toInt (cV 8 M s 3).toInt q := by
  unfold inS
  rcases h1 q hq with ⟨e1, e2⟩ | ⟨i, t, e1, e2, e3⟩
  · rw [e1, inE_n e2]
  · have g := h2 i t (h4 q i e1) e2
    rw [e1, inE_y e3, g.2.2.1, h3.2, itS_cg (Q := fun j => (Y 38 j).toInt = (i : Int)) (E := wJ (Y 39)) (T := wJ (Y 40)) (fun j hj => ?_) (fun j hj => (h5 j (by omega)).2.1) (fun j hj => (h5 j (by omega)).2.2)]
    obtain ⟨i', t', a1, a2, a3, a4⟩ := (h5 j (by omega)).1
    constructor
    · intro z
      rw [a4] at z
      have z' := Option.some.inj z
      rw [z'] at a3
      rw [a2, h6 i' i t a1 (h4 q i e1) a3 e2]
    · intro z
      have : i' = i := by omega
      rw [this] at a3
      rw [a4, ← e2, a3]
theorem SEC.td {M : Hp} {s : Nat} {sl : Nat → Option Nat} {X : Nat → Int} {Y : Nat → Nat → Int32} {d : Int} (h1 : SEC M s sl (tsq X Y d)) (h6 : SLI sl (X 10)) : ∀ q q1 : Nat, q < 6 → q1 < 6 → ∀ t, sT M s q = some t → sT M s q1 = some t → q = q1 := by
  intro q q1 hq hq1 t g g1
  rcases h1 q hq with ⟨_, e2⟩ | ⟨i, t', e1, e2, e3⟩
  · rw [e2] at g
    cases g
  · rcases h1 q1 hq1 with ⟨_, f2⟩ | ⟨i', t'', f1, f2, f3⟩
    · rw [f2] at g1
      cases g1
    · rw [g] at e3
      rw [g1] at f3
      cases e3
      cases f3
      have hi := h6 i i' t (tsq_in e1).1 (tsq_in f1).1 e2 f2
      have k1 := tsq_seat e1
      have k2 := tsq_seat f1
      rw [hi] at k1
      omega
/-- a stretch's numbers -/
def STC (M : Hp) (s : Nat) (d m R nb : Int) (du : Nat → Int) : Prop := (cV 8 M s 2).toInt = d ∧ (cV 8 M s 3).toInt = m ∧ (cL 8 M s 4).toInt = R ∧ (cL 8 M s 5).toInt = nb ∧ ∀ q : Nat, q < 6 → (LFc (M (rA 8 M s 1)) q).toInt = du q
theorem sT_e {M M1 : Hp} {s q : Nat} (h : M1 s = M s) (g : M1 (rA 8 M s 0) = M (rA 8 M s 0)) : sT M1 s q = sT M s q := by
  unfold sT
  rw [rA_e h, g]
theorem SEC.e {M M1 : Hp} {s : Nat} {sl ts : Nat → Option Nat} (h : SEC M s sl ts) (h1 : M1 s = M s) (g : M1 (rA 8 M s 0) = M (rA 8 M s 0)) : SEC M1 s sl ts := fun q hq => by
  rw [sT_e h1 g]
  exact h q hq
theorem STC.e {M M1 : Hp} {s : Nat} {d m R nb : Int} {du : Nat → Int} (h : STC M s d m R nb du) (h1 : M1 s = M s) (g : M1 (rA 8 M s 1) = M (rA 8 M s 1)) : STC M1 s d m R nb du := by
  unfold STC
  rw [cV_eq h1, cV_eq h1, cL_e h1, cL_e h1, rA_e h1, g]
  exact h
theorem s8_k {cy : Nat → ClassId} {K : Kp} {L : List Nat} {M : Hp} {s : Nat} (hW : WOK cy K L M) (hs : isk K L s 8 0) : isk K L (rA 8 M s 0) 65 6 ∧ isk K L (rA 8 M s 1) 72 6 := by
  obtain ⟨v0, v1, v2, v3, v4, v5, hM, i0, i1⟩ := hW.open_8 hs
  rw [rA_of (j := 0) hM rfl, rA_of (j := 1) hM rfl]
  exact ⟨i0, i1⟩
theorem TNF.fr {cy : Nat → ClassId} {K : Kp} {L us : List Nat} {M M1 : Hp} {sl : Nat → Option Nat} {PK PT : Nat → Int32} {X : Nat → Int} {Y : Nat → Nat → Int32} {cr bo : Nat → Int} (h : TNF M sl PK PT X Y cr bo) (hW : WOK cy K L M) (hF : fr K L us M M1) (h9 : 9 ∉ us) (h4 : 4 ∉ us) (hk : ∀ i t, (i : Int) < X 10 → sl i = some t → isk K L t 9 0) : TNF M1 sl PK PT X Y cr bo := fun i t hi ht => by
  have it := hk i t hi ht
  have e9 : M1 t = M t := hF.at it h9
  have e4 : M1 (rA 9 M t 1) = M (rA 9 M t 1) := hF.at (pn_k hW it) h4
  rw [rA_e e9, cV_eq e4, cV_eq e4, cL_e e9, cL_e e9]
  exact h i t hi ht
theorem RTQ.fr {cy : Nat → ClassId} {K : Kp} {L us : List Nat} {M M1 : Hp} {r k : Nat} {Y : Nat → Nat → Int32} (h : RTQ M r Y k) (hW : WOK cy K L M) (ir : isk K L r 6 0) (hF : fr K L us M M1) (h6 : 6 ∉ us) (h54 : 54 ∉ us) : RTQ M1 r Y k := by
  obtain ⟨v0, v1, v2, hM, i2⟩ := hW.open_6 ir
  have e6 : M1 r = M r := hF.at ir h6
  have e54 : M1 (rA 6 M r 2) = M (rA 6 M r 2) := by
    rw [rA_of (j := 2) hM rfl]
    exact hF.at i2 h54
  refine ⟨fun w q hw hq => ?_, ?_⟩
  · unfold tR
    rw [rA_e e6, e54]
    exact h.1 w q hw hq
  · rw [cV_eq e6]
    exact h.2
theorem MVQ.fr {cy : Nat → ClassId} {K : Kp} {L us : List Nat} {M M1 : Hp} {mv : Nat} {sl : Nat → Option Nat} {X : Nat → Int} {Y : Nat → Nat → Int32} (h : MVQ M mv sl X Y) (hW : WOK cy K L M) (im : isk K L mv 1 0) (hF : fr K L us M M1) (h1 : 1 ∉ us) (h63 : 63 ∉ us) (h56 : 56 ∉ us) (h57 : 57 ∉ us) : MVQ M1 mv sl X Y := by
  obtain ⟨n, v0, v1, v2, v3, hM, i0, i1, i2, _⟩ := hW.open_1 im
  have e1 : M1 mv = M mv := hF.at im h1
  intro j hj
  rw [rA_e e1, rA_e e1, rA_e e1, rA_of (j := 0) hM rfl, rA_of (j := 1) hM rfl, rA_of (j := 2) hM rfl, hF.at i0 h63, hF.at i1 h56, hF.at i2 h57]
  have g := h j hj
  rw [rA_of (j := 0) hM rfl, rA_of (j := 1) hM rfl, rA_of (j := 2) hM rfl] at g
  exact g
/-- all that a stretch's dues rest on -/
def RDY (M : Hp) (s r mv : Nat) (sl : Nat → Option Nat) (PK PT : Nat → Int32) (X : Nat → Int) (Y : Nat → Nat → Int32) (cr bo : Nat → Int) (d : Int) : Prop := SEC M s sl (tsq X Y d) ∧ TNF M sl PK PT X Y cr bo ∧ RTQ M r Y (rlq Y (X 11).toNat d) ∧ MVQ M mv sl X Y
theorem RDY.fr {cy : Nat → ClassId} {K : Kp} {L us : List Nat} {M M1 : Hp} {s r mv : Nat} {sl : Nat → Option Nat} {PK PT : Nat → Int32} {X : Nat → Int} {Y : Nat → Nat → Int32} {cr bo : Nat → Int} {d : Int} (h : RDY M s r mv sl PK PT X Y cr bo d) (hW : WOK cy K L M) (is : isk K L s 8 0) (ir : isk K L r 6 0) (im : isk K L mv 1 0) (hk : ∀ i t, (i : Int) < X 10 → sl i = some t → isk K L t 9 0) (hF : fr K L us M M1) (hu : ∀ t ∈ us, t ≠ 8 ∧ t ≠ 65 ∧ t ≠ 9 ∧ t ≠ 4 ∧ t ≠ 6 ∧ t ≠ 54 ∧ t ≠ 1 ∧ t ≠ 63 ∧ t ≠ 56 ∧ t ≠ 57) : RDY M1 s r mv sl PK PT X Y cr bo d :=
  ⟨h.1.e (hF.at is (fun z => (hu _ z).1 rfl)) (hF.at (s8_k hW is).1 (fun z => (hu _ z).2.1 rfl)), h.2.1.fr hW hF (fun z => (hu _ z).2.2.1 rfl) (fun z => (hu _ z).2.2.2.1 rfl) hk, h.2.2.1.fr hW ir hF (fun z => (hu _ z).2.2.2.2.1 rfl) (fun z => (hu _ z).2.2.2.2.2.1 rfl), h.2.2.2.fr hW im hF (fun z => (hu _ z).2.2.2.2.2.2.1 rfl) (fun z => (hu _ z).2.2.2.2.2.2.2.1 rfl) (fun z => (hu _ z).2.2.2.2.2.2.2.2.1 rfl) (fun z => (hu _ z).2.2.2.2.2.2.2.2.2 rfl)⟩
theorem dui_g {hs : Nat → Prop} {wg inn fx w2 w3 : Nat → Int} {lim : Nat → Prop} {rm : Nat → Int} {R : Int} {q : Nat} (hq : q < 6) (h : 0 < dl1 false wg inn R) (h2 : 0 ≤ dl2 false hs wg inn fx R) (hw : ∀ i, i < 6 → 0 ≤ w2 i) : dui false hs wg inn fx w2 w3 lim rm R q = wg q + inn q + fxS hs fx (dl1 false wg inn R) q + cutQ (dl2 false hs wg inn fx R) w2 6 q := by
  unfold dui dfx dsh
  rw [if_neg (by decide), if_pos ⟨rfl, h⟩]
  by_cases z : 0 < dl2 false hs wg inn fx R
  · rw [if_pos z]
  · rw [if_neg z, if_neg (by omega), show dl2 false hs wg inn fx R = 0 by omega, cutQ_0 hw hq]
theorem dl2_g {hs : Nat → Prop} {wg inn fx : Nat → Int} {R : Int} (h : 0 < dl1 false wg inn R) : dl2 false hs wg inn fx R = dl1 false wg inn R - gvS hs fx (dl1 false wg inn R) 6 := by
  unfold dl2 dgv
  rw [if_pos ⟨rfl, h⟩]
theorem dl2_n {mn : Bool} {hs : Nat → Prop} {wg inn fx : Nat → Int} {R : Int} (h : mn = true ∨ ¬ 0 < dl1 mn wg inn R) : dl2 mn hs wg inn fx R = dl1 mn wg inn R := by
  unfold dl2 dgv
  rw [if_neg (fun w => by rcases h with h | h; rw [h] at w; exact absurd w.1 (by decide); exact h w.2), Int.sub_zero]
theorem dfx_n {mn : Bool} {hs : Nat → Prop} {fx : Nat → Int} {l : Int} {q : Nat} (h : mn = true ∨ ¬ 0 < l) : dfx mn hs fx l q = 0 := by
  unfold dfx
  exact if_neg (fun w => by rcases h with h | h; rw [h] at w; exact absurd w.1 (by decide); exact h w.2)
theorem dui_n {mn : Bool} {hs : Nat → Prop} {wg inn fx w2 w3 : Nat → Int} {lim : Nat → Prop} {rm : Nat → Int} {R : Int} {q : Nat} (h : mn = true ∨ ¬ 0 < dl1 mn wg inn R) : dui mn hs wg inn fx w2 w3 lim rm R q = (if mn = true then 0 else wg q + inn q) + dsh hs w2 w3 lim rm (dl1 mn wg inn R) q := by
  unfold dui
  rw [dfx_n h, dl2_n h, Int.add_zero]
theorem dno_g {w2 w3 : Nat → Int} {lim : Nat → Prop} {rm : Nat → Int} {l : Int} (h : 0 ≤ l) : dno w2 w3 lim rm l = if sumI w2 6 = 0 then l else 0 := by
  unfold dno
  by_cases z : 0 < l
  · rw [if_pos z]
  · rw [if_neg z, if_neg (by omega), show l = 0 by omega]
    by_cases y : sumI w2 6 = 0
    · rw [if_pos y]
    · rw [if_neg y]
theorem dbr_g {w3 : Nat → Int} {lim : Nat → Prop} {rm : Nat → Int} {l : Int} {q : Nat} (h : 0 ≤ l) : dbr w3 lim rm l q = 0 := by
  unfold dbr
  exact if_neg (by omega)
theorem dbr_l {w3 : Nat → Int} {lim : Nat → Prop} {rm : Nat → Int} {l : Int} {q : Nat} (h : l < 0) : dbr w3 lim rm l q = brQ (-l) w3 lim rm 6 q := by
  unfold dbr
  exact if_pos h
theorem dno_l {w2 w3 : Nat → Int} {lim : Nat → Prop} {rm : Nat → Int} {l : Int} (h : l < 0) : dno w2 w3 lim rm l = -(-l - sumI (brQ (-l) w3 lim rm 6) 6) := by
  unfold dno
  rw [if_neg (by omega), if_pos h]
theorem dsh_g {hs : Nat → Prop} {w2 w3 : Nat → Int} {lim : Nat → Prop} {rm : Nat → Int} {l : Int} {q : Nat} (hq : q < 6) (h : 0 ≤ l) (hw : ∀ i, i < 6 → 0 ≤ w2 i) : dsh hs w2 w3 lim rm l q = cutQ l w2 6 q := by
  unfold dsh
  by_cases z : 0 < l
  · rw [if_pos z]
  · rw [if_neg z, if_neg (by omega), show l = 0 by omega, cutQ_0 hw hq]
theorem dsh_ly {hs : Nat → Prop} {w2 w3 : Nat → Int} {lim : Nat → Prop} {rm : Nat → Int} {l : Int} {q : Nat} (h : l < 0) (hh : hs q) : dsh hs w2 w3 lim rm l q = -(brQ (-l) w3 lim rm 6 q) := by
  unfold dsh
  rw [if_neg (by omega), if_pos h, if_pos hh]
theorem dsh_ln {hs : Nat → Prop} {w2 w3 : Nat → Int} {lim : Nat → Prop} {rm : Nat → Int} {l : Int} {q : Nat} (h : l < 0) (hh : ¬ hs q) : dsh hs w2 w3 lim rm l q = 0 := by
  unfold dsh
  rw [if_neg (by omega), if_pos h, if_neg hh]
theorem dsh_z {hs : Nat → Prop} {w2 w3 : Nat → Int} {lim : Nat → Prop} {rm : Nat → Int} {q : Nat} : dsh hs w2 w3 lim rm 0 q = 0 := by
  unfold dsh
  rw [if_neg (by decide), if_neg (by decide)]
theorem dno_z {w2 w3 : Nat → Int} {lim : Nat → Prop} {rm : Nat → Int} : dno w2 w3 lim rm 0 = 0 := by
  unfold dno
  rw [if_neg (by decide), if_neg (by decide)]
theorem ofT_0 {X : Nat → Int} {Y : Nat → Nat → Int32} {d : Int} {f : Nat → Int} {i : Nat} (h : ∀ q, f q = 0) : ofT X Y d f i = 0 := by
  unfold ofT
  by_cases z : tsq X Y d (Y 20 i).toNatClampNeg = some i
  · rw [if_pos z]
    exact h _
  · rw [if_neg z]
/-- the bounds of the terms of a House's rules, and of its moves -/
def TMB (X : Nat → Int) (Y : Nat → Nat → Int32) : Prop := ∀ k : Nat, (k : Int) < X 11 → (0 ≤ (Y 35 k).toInt ∧ (Y 35 k).toInt ≤ 500) ∧ ∀ q : Nat, q < 6 → (0 ≤ tmq Y k 0 q ∧ tmq Y k 0 q ≤ 1000000) ∧ (0 ≤ tmq Y k 1 q ∧ tmq Y k 1 q ≤ 1000000000) ∧ (0 ≤ tmq Y k 2 q ∧ tmq Y k 2 q ≤ 1000) ∧ (0 ≤ tmq Y k 3 q ∧ tmq Y k 3 q ≤ 1000)
def MVB (X : Nat → Int) (Y : Nat → Nat → Int32) : Prop := (0 ≤ X 14 ∧ X 14 ≤ 120) ∧ ∀ j : Nat, (j : Int) < X 14 → (0 ≤ (Y 39 j).toInt ∧ (Y 39 j).toInt ≤ 999) ∧ -1000000000 ≤ (Y 40 j).toInt ∧ (Y 40 j).toInt ≤ 1000000000
theorem wgS_b {PK : Nat → Int32} {Y : Nat → Nat → Int32} {ts : Nat → Option Nat} {k q : Nat} {m : Int} (h : 0 ≤ tmq Y k 0 q ∧ tmq Y k 0 q ≤ 1000000) (hm : 0 ≤ m ∧ m ≤ 100) : 0 ≤ wgS PK Y ts k m q ∧ wgS PK Y ts k m q ≤ 100000000 := by
  have h1 := Int.mul_nonneg h.1 hm.1
  have h2 := Int.mul_le_mul_of_nonneg_left hm.2 h.1
  unfold wgS
  cases ts q with
  | none => show 0 ≤ (0 : Int) ∧ (0 : Int) ≤ 100000000; decide
  | some i =>
    show 0 ≤ (if (PK (Y 19 i).toNatClampNeg).toInt = 3 then tmq Y k 0 q * m else 0) ∧ (if (PK (Y 19 i).toNatClampNeg).toInt = 3 then tmq Y k 0 q * m else 0) ≤ 100000000
    by_cases z : (PK (Y 19 i).toNatClampNeg).toInt = 3
    · rw [if_pos z]
      omega
    · rw [if_neg z]
      decide
theorem inS_b {X : Nat → Int} {Y : Nat → Nat → Int32} {cr : Nat → Int} {ts : Nat → Option Nat} {k q : Nat} {d m : Int} (ht : 0 ≤ (Y 35 k).toInt ∧ (Y 35 k).toInt ≤ 500) (hM : MVB X Y) (hm : m ≤ 100) (hc : ∀ i, ts q = some i → -10000000000000 ≤ cr i ∧ cr i ≤ 10000000000000) : 0 ≤ inS X Y cr ts k d m q ∧ inS X Y cr ts k d m q ≤ 2000000000000 := by
  unfold inS
  cases e : ts q with
  | none => show 0 ≤ (0 : Int) ∧ (0 : Int) ≤ 2000000000000; decide
  | some i =>
    show 0 ≤ itS (cr i) (fun j => (Y 38 j).toInt = (i : Int)) (wJ (Y 39)) (wJ (Y 40)) (X 14).toNat d m.toNat * (Y 35 k).toInt / 360000 ∧ itS (cr i) (fun j => (Y 38 j).toInt = (i : Int)) (wJ (Y 39)) (wJ (Y 40)) (X 14).toNat d m.toNat * (Y 35 k).toInt / 360000 ≤ 2000000000000
    have hX := hM.1
    have h1 := itS_bb (c0 := cr i) (P := fun j => (Y 38 j).toInt = (i : Int)) (D := wJ (Y 39)) (S := wJ (Y 40)) (n := (X 14).toNat) (f := d) (m := m.toNat) (fun j hj => (hM.2 j (by omega)).2) (by omega) (by omega) (hc i e)
    have h3 := Int.mul_nonneg h1.1 ht.1
    have h4 := Int.mul_le_mul_of_nonneg_left ht.2 h1.1
    exact ⟨Int.ediv_nonneg h3 (by decide), by omega⟩
theorem wtS_b {Y : Nat → Nat → Int32} {ts : Nat → Option Nat} {k q w : Nat} (h : 0 ≤ tmq Y k w q ∧ tmq Y k w q ≤ 1000) : 0 ≤ wtS Y ts k w q ∧ wtS Y ts k w q ≤ 1000 := by
  unfold wtS
  cases ts q with
  | none => show 0 ≤ (0 : Int) ∧ (0 : Int) ≤ 1000; decide
  | some i => exact h
/-- the rule that was found, by numbers -/
theorem RLO.rt {M : Hp} {b q : Nat} {d : Int} {X : Nat → Int} {Y : Nat → Nat → Int32} (h : RLO M b d (cfx M b 11).toNat (some q)) (hX : cfx M b 11 = X 11) (hb : X 11 ≤ 16) (hY : ∀ i : Nat, (i : Int) < X 11 → cax M b 34 i = Y 34 i ∧ cax M b 35 i = Y 35 i ∧ ∀ m : Nat, m < 24 → cax M b 36 (24 * i + m) = Y 36 (24 * i + m)) : RLN Y (X 11).toNat d (rlq Y (X 11).toNat d) ∧ RTQ M q Y (rlq Y (X 11).toNat d) := by
  rcases h with ⟨e, _⟩ | ⟨q', k, e, h1, h2⟩
  · cases e
  · cases e
    rw [hX] at h2
    have hk : (k : Int) < X 11 := by have := h2.1; omega
    have h3 : RLN Y (X 11).toNat d k := ⟨h2.1, by rw [← (hY k hk).1]; exact h2.2.1, fun j g1 g2 => by rw [← (hY j (by omega)).1]; exact h2.2.2 j g1 g2⟩
    rw [rlq_of h3]
    have hp := pk_ru h1 (by omega)
    refine ⟨h3, fun w s hw hs => ?_, ?_⟩
    · unfold tR tmq
      rw [← hp.2.2 (6 * w + s) (by omega), (hY k hk).2.2 (6 * w + s) (by omega)]
    · rw [← (hY k hk).2.1, hp.2.1]
theorem RLO.no {M : Hp} {b : Nat} {d : Int} {X : Nat → Int} {Y : Nat → Nat → Int32} (h : RLO M b d (cfx M b 11).toNat none) (hX : cfx M b 11 = X 11) (h1 : 1 ≤ X 11) (hY : cax M b 34 0 = Y 34 0) (h0 : (Y 34 0).toInt ≤ d) : False := by
  rcases h with ⟨_, g⟩ | ⟨q', k, e, _, _⟩
  · have g0 := g 0 (by rw [hX]; omega)
    rw [hY] at g0
    omega
  · cases e
theorem sl8_k {cy : Nat → ClassId} {K : Kp} {L : List Nat} {M : Hp} {y0 i s : Nat} (hW : WOK cy K L M) (h0 : isk K L y0 21 120) (hi : i < 120) (h : RFc (M y0) i = some s) : isk K L s 8 0 := by
  obtain ⟨f, hf, hf2⟩ := hW.open_21 h0
  rw [RFc_of hf] at h
  exact hf2 i hi s h
theorem sl9_k {cy : Nat → ClassId} {K : Kp} {L : List Nat} {M : Hp} {z8 i t : Nat} (hW : WOK cy K L M) (h0 : isk K L z8 62 24) (hi : i < 24) (h : RFc (M z8) i = some t) : isk K L t 9 0 := by
  obtain ⟨f, hf, hf2⟩ := hW.open_62 h0
  rw [RFc_of hf] at h
  exact hf2 i hi t h
/-- the tenures behind a lack -/
theorem TNF.lack {cy : Nat → ClassId} {K : Kp} {L us : List Nat} {M M1 : Hp} {s : Nat} {sl : Nat → Option Nat} {PK PT : Nat → Int32} {X : Nat → Int} {Y : Nat → Nat → Int32} {cr bo f : Nat → Int} {d : Int} (h : TNF M sl PK PT X Y cr bo) (hW : WOK cy K L M) (hF : fr K L us M M1) (hT : fT 9 K L [11] M M1) (h4 : 4 ∉ us) (hk : ∀ i t, (i : Int) < X 10 → sl i = some t → isk K L t 9 0) (hE : SEC M s sl (tsq X Y d)) (hS : SLI sl (X 10)) (h20 : ∀ i : Nat, (i : Int) < X 10 → 0 ≤ (Y 20 i).toInt ∧ (Y 20 i).toInt < 6) (h1 : ∀ q : Nat, q < 6 → ∀ t, sT M s q = some t → (cL 9 M1 t 11).toInt = (cL 9 M t 11).toInt + f q) (h2 : ∀ t, isk K L t 9 0 → (∀ q : Nat, q < 6 → sT M s q ≠ some t) → cL 9 M1 t 11 = cL 9 M t 11) : TNF M1 sl PK PT X Y cr (fun i => bo i + ofT X Y d f i) := fun i t hi ht => by
  have it := hk i t hi ht
  have g := h i t hi ht
  have e1 : rA 9 M1 t 1 = rA 9 M t 1 := by
    unfold rA
    rw [cR_c (fT.cv1 (W9 hW) hT it (by decide))]
  have e9 : cL 9 M1 t 9 = cL 9 M t 9 := cL_c (fT.cv1 (W9 hW) hT it (by decide))
  have e4 : M1 (rA 9 M t 1) = M (rA 9 M t 1) := hF.at (pn_k hW it) h4
  refine ⟨by rw [e1, cV_eq e4]; exact g.1, by rw [e1, cV_eq e4]; exact g.2.1, by rw [e9]; exact g.2.2.1, ?_⟩
  have b20 := h20 i hi
  have n20 : ((Y 20 i).toNatClampNeg : Int) = (Y 20 i).toInt := clT b20.1
  unfold ofT
  by_cases z : tsq X Y d (Y 20 i).toNatClampNeg = some i
  · rw [if_pos z]
    rcases hE (Y 20 i).toNatClampNeg (by omega) with ⟨a1, _⟩ | ⟨i', t', a1, a2, a3⟩
    · rw [z] at a1
      cases a1
    · rw [z] at a1
      cases a1
      rw [ht] at a2
      cases a2
      rw [h1 _ (by omega) t a3, g.2.2.2]
  · rw [if_neg z, Int.add_zero, h2 t it (fun q hq w => ?_)]
    · exact g.2.2.2
    · rcases hE q hq with ⟨_, a2⟩ | ⟨i', t', a1, a2, a3⟩
      · rw [w] at a2
        cases a2
      · rw [w] at a3
        cases a3
        have e := hS i i' t hi (tsq_in a1).1 ht a2
        have k1 := tsq_seat a1
        rw [← e] at a1 k1
        refine z ?_
        rw [show (Y 20 i).toNatClampNeg = q by omega]
        exact a1
theorem SEC.hs {M : Hp} {s q : Nat} {sl ts : Nat → Option Nat} (h : SEC M s sl ts) (hq : q < 6) : sT M s q ≠ none ↔ ts q ≠ none := by
  rcases h q hq with ⟨e1, e2⟩ | ⟨i, t, e1, e2, e3⟩
  · rw [e1, e2]
  · rw [e1, e3]
    constructor
    · intro _ w
      cases w
    · intro _ w
      cases w
theorem SEC.mv {M M1 : Hp} {s a0 : Nat} {sl ts : Nat → Option Nat} {e1 e2 e3 e4 e5 f1 f2 f3 f4 f5 : Value} (h : SEC M s sl ts) (hM1 : M1 s = .inr (8, [.ref a0, e1, e2, e3, e4, e5])) (g : M1 a0 = M a0) (hM : M s = .inr (8, [.ref a0, f1, f2, f3, f4, f5])) : SEC M1 s sl ts := fun q hq => by
  have e : sT M1 s q = sT M s q := by
    unfold sT
    rw [rA_of (j := 0) hM1 rfl, rA_of (j := 0) hM rfl, g]
  rw [e]
  exact h q hq
theorem TNF.cgb {M : Hp} {sl : Nat → Option Nat} {PK PT : Nat → Int32} {X : Nat → Int} {Y : Nat → Nat → Int32} {cr bo bo' : Nat → Int} (h : TNF M sl PK PT X Y cr bo) (hb : ∀ i : Nat, (i : Int) < X 10 → bo' i = bo i) : TNF M sl PK PT X Y cr bo' := fun i t hi ht => by
  rw [hb i hi]
  exact h i t hi ht
theorem crT {M : Hp} {s r mv q t : Nat} {sl : Nat → Option Nat} {PK PT : Nat → Int32} {X : Nat → Int} {Y : Nat → Nat → Int32} {cr bo : Nat → Int} {d : Int} (h : RDY M s r mv sl PK PT X Y cr bo d) (hb : ∀ i : Nat, (i : Int) < X 10 → -10000000000000 ≤ cr i ∧ cr i ≤ 10000000000000) (hq : q < 6) (ht : sT M s q = some t) : -10000000000000 ≤ (cL 9 M t 9).toInt ∧ (cL 9 M t 9).toInt ≤ 10000000000000 := by
  rcases h.1 q hq with ⟨_, e2⟩ | ⟨i, t', e1, e2, e3⟩
  · rw [ht] at e2
    cases e2
  · rw [ht] at e3
    cases e3
    rw [(h.2.1 i t (tsq_in e1).1 e2).2.2.1]
    exact hb i (tsq_in e1).1
theorem boT {M : Hp} {s r mv q t : Nat} {sl : Nat → Option Nat} {PK PT : Nat → Int32} {X : Nat → Int} {Y : Nat → Nat → Int32} {cr bo : Nat → Int} {d : Int} (h : RDY M s r mv sl PK PT X Y cr bo d) (hb : ∀ i : Nat, (i : Int) < X 10 → -1000000000000000 ≤ bo i ∧ bo i ≤ 1000000000000000) (hq : q < 6) (ht : sT M s q = some t) : -1000000000000000 ≤ (cL 9 M t 11).toInt ∧ (cL 9 M t 11).toInt ≤ 1000000000000000 := by
  rcases h.1 q hq with ⟨_, e2⟩ | ⟨i, t', e1, e2, e3⟩
  · rw [ht] at e2
    cases e2
  · rw [ht] at e3
    cases e3
    rw [(h.2.1 i t (tsq_in e1).1 e2).2.2.2]
    exact hb i (tsq_in e1).1
set_option maxHeartbeats 4000000 in
set_option maxRecDepth 100000 in
theorem e_settle (l : Launch) (D : va_G) (cy : Nat → ClassId) (K : Kp) (L : List Nat) (M : Hp) (sz : Nat) (oa : Nat) (k1 : Nat) (Bo : Nat → Nat × Nat) (Mb : Hp) (Xv : Nat → Int) (Yv : Nat → Nat → Int32) (PK : Nat → Int32) (PT : Nat → Int32) (X : Nat → Int) (Y : Nat → Nat → Int32) (cr : Nat → Int) (mn : Nat → Bool) (fd : Nat → Int) (dn : Nat → Int) (rs : Nat → Int) (b0 : Nat → Int) (y0 : Nat) (y1 : Nat) (y2 : Nat) (y3 : Nat) (y4 : Int64) (z0 : Int32) (z1 : Int32) (z2 : Int32) (z3 : Nat) (z4 : Nat) (z5 : Nat) (z6 : Nat) (z7 : Nat) (z8 : Nat) (z9 : Nat) (z10 : Nat) (z11 : Nat) (z12 : Nat) (z13 : Nat) (z14 : Int64) (z15 : Int32) (z16 : Nat) (z17 : Nat) (z18 : Nat) (z19 : Nat) (un : Nat) (u0 : Nat) (u1 : Nat) (u2 : Nat) (u3 : Nat) (hW : WOK cy K L M) (ia : isk K L oa 0 0) (ik1 : isk K L k1 2 0) (hV : VC Bo K L Mb M k1 Xv Yv) (hn28 : (∀ i : Nat, (i : Int) < Xv 10 → Yv 28 i = 1)) (hn33 : (∀ i : Nat, (i : Int) < Xv 11 → Yv 33 i = 1)) (hXe : (Xv 10 = X 10 ∧ Xv 11 = X 11)) (hYe : (∀ i : Nat, (i : Int) < X 10 → Yv 20 i = Y 20 i ∧ Yv 21 i = Y 21 i ∧ Yv 22 i = Y 22 i)) (hRe : (∀ i : Nat, (i : Int) < X 11 → Yv 34 i = Y 34 i ∧ Yv 35 i = Y 35 i ∧ ∀ m : Nat, m < 24 → Yv 36 (24 * i + m) = Y 36 (24 * i + m))) (hU : UNT X Y) (hSI : SLI (RFc (M z8)) (X 10)) (hXb : (0 ≤ X 10 ∧ X 10 ≤ 24 ∧ 1 ≤ X 11 ∧ X 11 ≤ 16)) (h20 : (∀ i : Nat, (i : Int) < X 10 → 0 ≤ (Y 20 i).toInt ∧ (Y 20 i).toInt < 6)) (hTM : TMB X Y) (hMV : MVB X Y) (hun : ((u3 : Nat) : Int) = X 14) (hnn : un = 120) (hCR : (∀ i : Nat, (i : Int) < X 10 → -10000000000000 ≤ cr i ∧ cr i ≤ 10000000000000)) (hAJ : (∀ s s1, isk K L s 8 0 → isk K L s1 8 0 → s ≠ s1 → rA 8 M s 0 ≠ rA 8 M s1 0 ∧ rA 8 M s 1 ≠ rA 8 M s1 1)) (hTF : TNF M (RFc (M z8)) PK PT X Y cr b0) (hMQ : MVQ M z16 (RFc (M z8)) X Y) (hf0 : (∀ i : Nat, i < y3 → (Y 34 0).toInt ≤ fd i ∧ (0 ≤ fd i ∧ fd i ≤ 999) ∧ (0 ≤ dn i ∧ dn i ≤ 100) ∧ (-100000000000000 ≤ rs i ∧ rs i ≤ 100000000000000) ∧ mn i = false)) (hBO : (∀ j i : Nat, j ≤ y3 → (i : Int) < X 10 → -1000000000000000 ≤ (boI PK PT X Y cr mn fd dn rs b0 j) i ∧ (boI PK PT X Y cr mn fd dn rs b0 j) i ≤ 1000000000000000)) (hSJ : (∀ i j s : Nat, i < y3 → j < y3 → RFc (M y0) i = some s → RFc (M y0) j = some s → i = j)) (hS0 : (∀ i : Nat, i < y3 → ∃ s, RFc (M y0) i = some s ∧ STC M s (fd i) (dn i) (rs i) 0 (fun _ => 0))) (hMy : M oa = .inr (0, [.ref y0, .ref y1, .ref y2, .int (nI y3), .long y4])) (hy0 : isk K L y0 21 120) (hy1 : isk K L y1 66 100) (hy2 : isk K L y2 7 0) (hy3 : y3 ≤ 120) (hMz : M k1 = .inr (2, [.int z0, .int z1, .int z2, .ref z3, .int (nI z4), .int (nI z5), .ref z6, .ref z7, .ref z8, .int (nI z9), .ref z10, .int (nI z11), .ref z12, .ref z13, .long z14, .int z15, .ref z16, .ref z17, .ref z18, .ref z19])) (hz3 : isk K L z3 51 12) (hz4 : z4 ≤ 12) (hz5 : z5 ≤ 12) (hz6 : isk K L z6 52 6) (hz7 : isk K L z7 61 6) (hz8 : isk K L z8 62 24) (hz9 : z9 ≤ 24) (hz10 : isk K L z10 20 16) (hz11 : z11 ≤ 16) (hz12 : isk K L z12 18 1000) (hz13 : isk K L z13 67 1000) (hz16 : isk K L z16 1 0) (hz17 : isk K L z17 1 0) (hz18 : isk K L z18 10 0) (hz19 : isk K L z19 0 0) (hMu : M z16 = .inr (1, [.ref u0, .ref u1, .ref u2, .int (nI u3)])) (hu0 : isk K L u0 63 un) (hu1 : isk K L u1 56 un) (hu2 : isk K L u2 57 un) (hu3 : u3 ≤ un) (heu0 : un ≤ 120) : Met l yX0_settleStretches (wsM yX0_settleStretches cX0_settleStretches 7 none) ({ frames := 4, cells := 0, slots := 0, locals := 108 }) (va_Pc [.ref oa, .ref k1] (PG D cy [] L M sz)) (va_Qv (fun (M9 : Hp) => WOK cy K L M9 ∧ fr K L [7, 8, 9, 64, 65, 66, 68, 69, 70, 71, 72] M M9 ∧ fT 9 K L [11] M M9 ∧ ONL 8 K L (fun b => ∃ i : Nat, i < y3 ∧ RFc (M y0) i = some b) M M9 ∧ ONL 65 K L (fun b => ∃ i s : Nat, i < y3 ∧ RFc (M y0) i = some s ∧ b = rA 8 M s 0) M M9 ∧ ONL 72 K L (fun b => ∃ i s : Nat, i < y3 ∧ RFc (M y0) i = some s ∧ b = rA 8 M s 1) M M9 ∧ (((∀ i : Nat, i < y3 → ∀ s, RFc (M y0) i = some s → (SEC M9 s (RFc (M z8)) (tsq X Y (fd i)) ∧ STC M9 s (fd i) (dn i) (rs i) (seN PK PT X Y cr (mn i) (fd i) (dn i) (rs i) (boI PK PT X Y cr mn fd dn rs b0 i)) (seD PK PT X Y cr (mn i) (fd i) (dn i) (rs i) (boI PK PT X Y cr mn fd dn rs b0 i)))) ∧ TNF M9 (RFc (M z8)) PK PT X Y cr (boI PK PT X Y cr mn fd dn rs b0 y3) ∧ (∀ i : Nat, i < y3 → ∀ s, RFc (M y0) i = some s → rA 8 M9 s 0 = rA 8 M s 0 ∧ rA 8 M9 s 1 = rA 8 M s 1))) ∧ (True)) (fun M9 t => PQ D [] L M9 (va_A ([] ++ va_pl L M) sz) t) (va_A ([] ++ va_pl L M) sz)) 0 0 (va_A ([] ++ va_pl L M) sz) := by
  refine Met.ofW (cc := cX0_settleStretches) (maxL := 7) (ret := none) (by decide) rfl ?_
  intro p e s m args below meth c s₁ B hml hv
  obtain ⟨rfl, hsz, hP, hK, hD0, hN⟩ := hv
  have hx := B.exec
  have hb := B.bytes
  have hr := B.returns
  have hts := atoms_spec (ws := (wsM yX0_settleStretches cX0_settleStretches 7 none)) B.pre
  have hg : ∀ w ∈ lw_good, w.before _ s = true := fun w h => hts w (List.mem_cons_of_mem _ h)
  have hown : s.vm.findClass RX0 = some m.cls := findClass_of_methodNamed B.named
  have hlocks := B.notSynchronized
  subst hsz
  have hD := hD0.self (sz := s.heap.size)
  generalize hAe : va_A ([] ++ va_pl L M) s.heap.size = A at hD ⊢
  have hA : ∀ q : Nat, s.heap.size ≤ q → A q := fun q h => by rw [← hAe]; exact Or.inr h
  have hS : va_S A s.heap s.heap [] := va_S.rf
  have hl := lv_entry ([.ref oa, .ref k1]) (n := 7) (Nat.le_of_ble_eq_true rfl)
  rw [lg_entry_eq]
  generalize (lg_sl ([.ref oa, .ref k1]) ++ List.replicate (7 - (lg_sl ([.ref oa, .ref k1])).length) Slot.unset).toArray = ls at hl ⊢
  refine W.nameQ (fun Q hQ => ?_)
  refine W.nameR (fun R hR => ?_)
  have hRf : 4 ≤ R.frames := by rw [hR]; exact Nat.le_of_ble_eq_true rfl
  have hRl : 108 ≤ R.locals := by rw [hR]; exact Nat.le_of_ble_eq_true rfl
  have hRc : 0 ≤ R.cells := by rw [hR]; exact Nat.le_of_ble_eq_true rfl
  have hRs : 0 ≤ R.slots := by rw [hR]; exact Nat.le_of_ble_eq_true rfl
  have hF : fr K L [7, 8, 9, 64, 65, 66, 68, 69, 70, 71, 72] M M := fr.rf
  have hT9 : fT 9 K L [11] M M := fT.rf
  have hO8 : ONL 8 K L (fun b => ∃ i : Nat, i < y3 ∧ RFc (M y0) i = some b) M M := ONL.rf
  have hO65 : ONL 65 K L (fun b => ∃ i s : Nat, i < y3 ∧ RFc (M y0) i = some s ∧ b = rA 8 M s 0) M M := ONL.rf
  have hO72 : ONL 72 K L (fun b => ∃ i s : Nat, i < y3 ∧ RFc (M y0) i = some s ∧ b = rA 8 M s 1) M M := ONL.rf
  have hl : lv_has ls 7 [(0, .ref oa), (1, .ref k1)] := hl
  have hW00 := hW
  have hV00 := hV
  have ik100 := ik1
  have hsl8 : rA 2 M k1 8 = z8 := rA_of (j := 8) hMz rfl
  have hi9 : ∀ i t, (i : Int) < X 10 → (RFc (M z8)) i = some t → isk K L t 9 0 := fun i t hi ht => sl9_k hW00 hz8 (by omega) ht
  have hi8 : ∀ i s, i < y3 → RFc (M y0) i = some s → isk K L s 8 0 := fun i s hi h9 => sl8_k hW00 hy0 (by omega) h9
  have htx : ∀ (d : Int) (q i : Nat), tsq X Y d q = some i → (i : Int) < X 10 := fun d q i h9 => (tsq_in h9).1
  refine lv_iconst (v := 0) hx hb dX0_settleStretches_0 (by decide) ?_
  refine lv_istore_n (lv' := [(2, .int 0), (0, .ref oa), (1, .ref k1)]) hx hb dX0_settleStretches_1 rfl hl (by decide) rfl (fun ls hl => ?_)
  have key_1 : ∀ (fu_3 : Nat) (v2w4 : Nat) (M_10 : Hp) (H_11 : Heap) (locs : List Loc) (ls : Array Slot), 120 - v2w4 < fu_3 → M_10 oa = .inr (0, [.ref y0, .ref y1, .ref y2, .int (nI y3), .long y4]) → M_10 k1 = .inr (2, [.int z0, .int z1, .int z2, .ref z3, .int (nI z4), .int (nI z5), .ref z6, .ref z7, .ref z8, .int (nI z9), .ref z10, .int (nI z11), .ref z12, .ref z13, .long z14, .int z15, .ref z16, .ref z17, .ref z18, .ref z19]) → M_10 z16 = .inr (1, [.ref u0, .ref u1, .ref u2, .int (nI u3)]) → v2w4 ≤ y3 → (∀ i : Nat, i < v2w4 → ∀ s, RFc (M y0) i = some s → (SEC M_10 s (RFc (M z8)) (tsq X Y (fd i)) ∧ STC M_10 s (fd i) (dn i) (rs i) (seN PK PT X Y cr (mn i) (fd i) (dn i) (rs i) (boI PK PT X Y cr mn fd dn rs b0 i)) (seD PK PT X Y cr (mn i) (fd i) (dn i) (rs i) (boI PK PT X Y cr mn fd dn rs b0 i)))) → (∀ i : Nat, v2w4 ≤ i → i < y3 → ∀ s, RFc (M y0) i = some s → STC M_10 s (fd i) (dn i) (rs i) 0 (fun _ => 0)) → TNF M_10 (RFc (M z8)) PK PT X Y cr (boI PK PT X Y cr mn fd dn rs b0 v2w4) → (∀ i : Nat, i < y3 → ∀ s, RFc (M y0) i = some s → rA 8 M_10 s 0 = rA 8 M s 0 ∧ rA 8 M_10 s 1 = rA 8 M s 1) → WOK cy K L M_10 → fr K L [7, 8, 9, 64, 65, 66, 68, 69, 70, 71, 72] M M_10 → fT 9 K L [11] M M_10 → ONL 8 K L (fun b => ∃ i : Nat, i < y3 ∧ RFc (M y0) i = some b) M M_10 → ONL 65 K L (fun b => ∃ i s : Nat, i < y3 ∧ RFc (M y0) i = some s ∧ b = rA 8 M s 0) M M_10 → ONL 72 K L (fun b => ∃ i s : Nat, i < y3 ∧ RFc (M y0) i = some s ∧ b = rA 8 M s 1) M M_10 → va_P D vwCl ([] ++ va_pl L M_10) H_11 → va_D A ([] ++ va_pl L M_10) → va_S A s.heap H_11 locs → lv_has ls 7 [(2, .int (nI v2w4)), (0, .ref oa), (1, .ref k1)] → W p l e R s m ([.ref oa, .ref k1] : List Value).toArray below meth c H_11 locs 0 0 Q (F0 m 2 ls []) := by
    intro fu_3
    induction fu_3 with
    | zero => intro v2w4 M_10 H_11 locs ls h; exact absurd h (Nat.not_lt_zero _)
    | succ fu_3 ih_2 =>
      intro v2w4 M_10 H_11 locs ls hfu hM_12 hM_13 hM_14 hx_5 hx_6 hx_7 hx_8 hx_9 hW hF hT9 hO8 hO65 hO72 hP hD hS hl
      refine lv_iload_n hx hb dX0_settleStretches_2 rfl (lv_at hl 0 rfl) ?_
      refine lv_aload_n hx hb dX0_settleStretches_3 rfl (lv_at hl 1 rfl) ?_
      refine pg_get (D := D) (ci := 0) (v := .int (nI y3)) (C := RX0) (T := TX0) (N := 5) hx hb hg inG0 hown hK hP ia.1 hM_12 rfl 3 (by decide) (hg _ wd_199) (fun _ h9 => h9) rfl dX0_settleStretches_4 ?_
      refine lv_icmp_ge (tgt := 126) hx hb dX0_settleStretches_7 (by decide) (fun c_15 => ?_) (fun c_15 => ?_)
      · have hz := rfl (a := 0)
        have n_16 : y3 ≤ v2w4 := (iLE (a := y3) (b := v2w4) (by omega) (by omega)).mp c_15
        rw [hQ]
        exact W.vret hx hb hr (fun t ht hW9 => ⟨⟨M_10, rfl, ⟨hW, hF, hT9, hO8, hO65, hO72, ⟨fun i hi => hx_6 i (by omega), (by have h9 := hx_8; rw [show v2w4 = y3 by omega] at h9; exact h9), hx_9⟩, trivial⟩, ⟨by rw [ht]; exact hP, hD⟩⟩, hS.F ht⟩) hS.2.2 dX0_settleStretches_126
      · have hz := rfl (a := 0)
        have n_17 : ¬ (y3 ≤ v2w4) := fun q => c_15 ((iLE (a := y3) (b := v2w4) (by omega) (by omega)).mpr q)
        refine lv_aload_n hx hb dX0_settleStretches_10 rfl (lv_at hl 1 rfl) ?_
        refine lv_iload_n hx hb dX0_settleStretches_11 rfl (lv_at hl 0 rfl) ?_
        have hPc : va_P D vwCl ([] ++ va_pl L M_10) H_11 := hP
        have hDc : va_D A ([] ++ va_pl L M_10) := hD
        have hFc : ∀ q, va_A ([] ++ va_pl L M_10) H_11.size q → A q := pg_free hDc hS hA
        refine va_callq (va_runV (As := [.int (nI v2w4)]) (rest := []) ⟨hx, hb, hml, hown, hg⟩ (e_at l D cy K L M_10 H_11.size oa (nI v2w4) y0 y1 y2 y3 y4 hW ia hM_12 hy0 hy1 hy2 hy3) (cwV 1 hg (gV wd_201 wd_202 wd_203 wd_204 wd_205) rfl rfl rfl (by decide +kernel) ⟨(Nat.le_trans (Nat.le_of_ble_eq_true rfl) hRf), (Nat.le_trans (Nat.le_of_ble_eq_true rfl) hRl)⟩) ⟨PG.blind, pg_recv hK hP ia.1 hM_12 rfl, fun U hU hW => ⟨rfl, PG.at hPc hK hDc hN hU hW⟩⟩ rfl rfl hl.1 rfl (lv_room (Nat.le_of_ble_eq_true rfl)) dX0_settleStretches_12 ⟨(Nat.le_trans (Nat.le_of_ble_eq_true rfl) hRc), (Nat.le_trans (Nat.le_of_ble_eq_true rfl) hRs)⟩) hS (fun q _ h => hFc q h) hFc (fun r_19 M_20 t H_18 locs ht hvm hw hB hz1 hk1 hS => ?_)
        have hp_21 := hw
        obtain ⟨hP1, hD1⟩ := hB
        rw [ht] at hP1
        have hP : va_P D vwCl ([] ++ va_pl L M_10) H_18 := hP1
        have hD : va_D A ([] ++ va_pl L M_10) := hD1.mono hFc
        obtain ⟨hp_21, hqx⟩ := hp_21
        rcases r_19 with _ | b_22
        · have hz := rfl (a := 0)
          have hq9 := hqx.1 (by rw [nI_toInt (by omega)]; omega)
          rw [nI_cl (by omega), hF.at hy0 (by decide)] at hq9
          obtain ⟨s9, g9, _⟩ := hS0 v2w4 (by omega)
          rw [g9] at hq9
          cases hq9
        · have hb_23 := hp_21 b_22 rfl
          have hq9 := hqx.1 (by rw [nI_toInt (by omega)]; omega)
          rw [nI_cl (by omega), hF.at hy0 (by decide)] at hq9
          obtain ⟨s9, g9, _⟩ := hS0 v2w4 (by omega)
          have hsl9 : RFc (M y0) v2w4 = some b_22 := hq9.symm
          have hVp := VC.same (M1 := M_10) hV00 hW00 ik100 (SAME.fr (fr.cv hF (by decide)) (fT.cv (W9 hW00) hT9 (by decide)) (fr.cv hF (by decide)) (fr.cv hF (by decide)) (fr.cv hF (by decide)) (fr.cv hF (by decide)) (fr.cv hF (by decide)) hF (by decide))
          have hV := hVp
          have hf9 := hf0 v2w4 (by omega)
          obtain ⟨v24_0, v24_1, v24_2, v24_3, v24_4, v24_5, hM24, h24_0, h24_1⟩ := hW.open_8 hb_23
          have hZ := hx_7 v2w4 (Nat.le_refl _) (by omega) b_22 hsl9
          have hD9 := hx_9 v2w4 (by omega) b_22 hsl9
          have hd2 : (v24_2 : Int32).toInt = fd v2w4 := by rw [← hZ.1, cV_of (j := 2) hM24 rfl]
          have hd3 : (v24_3 : Int32).toInt = dn v2w4 := by rw [← hZ.2.1, cV_of (j := 3) hM24 rfl]
          have hd4 : (v24_4 : Int64).toInt = rs v2w4 := by rw [← hZ.2.2.1, cL_of (j := 4) hM24 rfl]
          have hd5 : (v24_5 : Int64).toInt = 0 := by rw [← hZ.2.2.2.1, cL_of (j := 5) hM24 rfl]
          have ha0 : rA 8 M b_22 0 = v24_0 := by rw [← hD9.1, rA_of (j := 0) hM24 rfl]
          have ha1 : rA 8 M b_22 1 = v24_1 := by rw [← hD9.2, rA_of (j := 1) hM24 rfl]
          have hdu9 : ∀ q : Nat, q < 6 → (LFc (M_10 v24_1) q).toInt = 0 := fun q hq => by have h9 := hZ.2.2.2.2 q hq; rw [rA_of (j := 1) hM24 rfl] at h9; exact h9
          refine lv_astore_n (lv' := [(3, .ref b_22), (2, .int (nI v2w4)), (0, .ref oa), (1, .ref k1)]) hx hb dX0_settleStretches_15 rfl hl (by decide) rfl (fun ls hl => ?_)
          refine lv_aload_n hx hb dX0_settleStretches_16 rfl (lv_at hl 0 rfl) ?_
          refine lv_ifnonnull (tgt := 24) hx hb dX0_settleStretches_17 (by decide) ?_
          refine lv_aload_n hx hb dX0_settleStretches_24 rfl (lv_at hl 3 rfl) ?_
          refine lv_aload_n hx hb dX0_settleStretches_25 rfl (lv_at hl 0 rfl) ?_
          refine pg_get (D := D) (ci := 8) (v := .int v24_2) (C := RX8) (T := TX8) (N := 6) hx hb hg inG8 hown hK hP hb_23.1 hM24 rfl 2 (by decide) (hg _ wd_228) (fun _ h9 => h9) rfl dX0_settleStretches_26 ?_
          have hPc : va_P D vwCl ([] ++ va_pl L M_10) H_18 := hP
          have hDc : va_D A ([] ++ va_pl L M_10) := hD
          have hFc : ∀ q, va_A ([] ++ va_pl L M_10) H_18.size q → A q := pg_free hDc hS hA
          refine va_callq (va_runV (As := [.int v24_2]) (rest := []) ⟨hx, hb, hml, hown, hg⟩ (e_ruleOn l D cy K L M_10 H_18.size k1 v24_2  hW ik1 (by rw [hVp.2.1, hVp.2.2.1]; exact hn33)) (cwV 1 hg (gV wd_250 wd_132 wd_133 wd_57 wd_134) rfl rfl rfl (by decide +kernel) ⟨(Nat.le_trans (Nat.le_of_ble_eq_true rfl) hRf), (Nat.le_trans (Nat.le_of_ble_eq_true rfl) hRl)⟩) ⟨PG.blind, pg_recv hK hP ik1.1 hM_13 rfl, fun U hU hW => ⟨rfl, PG.at hPc hK hDc hN hU hW⟩⟩ rfl rfl hl.1 rfl (lv_room (Nat.le_of_ble_eq_true rfl)) dX0_settleStretches_29 ⟨(Nat.le_trans (Nat.le_of_ble_eq_true rfl) hRc), (Nat.le_trans (Nat.le_of_ble_eq_true rfl) hRs)⟩) hS (fun q _ h => hFc q h) hFc (fun r_26 M_27 t H_25 locs ht hvm hw hB hz1 hk1 hS => ?_)
          have hp_28 := hw
          obtain ⟨hP1, hD1⟩ := hB
          rw [ht] at hP1
          have hP : va_P D vwCl ([] ++ va_pl L M_10) H_25 := hP1
          have hD : va_D A ([] ++ va_pl L M_10) := hD1.mono hFc
          obtain ⟨hp_28, hqx⟩ := hp_28
          rcases r_26 with _ | b_29
          · have hz := rfl (a := 0)
            have hx11 : cfx M_10 k1 11 = X 11 := by rw [hVp.2.1]; exact hXe.2
            rw [hd2] at hqx
            exact (hqx.no hx11 hXb.2.2.1 (by rw [hVp.2.2.1]; exact (hRe 0 (by omega)).1) hf9.1).elim
          · have hb_30 := hp_28 b_29 rfl
            have hx11 : cfx M_10 k1 11 = X 11 := by rw [hVp.2.1]; exact hXe.2
            rw [hd2] at hqx
            have hrt := hqx.rt hx11 hXb.2.2.2 (fun i hi => by rw [hVp.2.2.1]; exact hRe i hi)
            have htm9 := hTM (rlq Y (X 11).toNat (fd v2w4)) (by have h9 := hrt.1.1; omega)
            obtain ⟨v31_0, v31_1, v31_2, hM31, h31_2⟩ := hW.open_6 hb_30
            refine lv_astore (lv' := [(4, .ref b_29), (3, .ref b_22), (2, .int (nI v2w4)), (0, .ref oa), (1, .ref k1)]) hx hb dX0_settleStretches_32 hl (by decide) rfl (fun ls hl => ?_)
            refine lv_aload_n hx hb dX0_settleStretches_34 rfl (lv_at hl 1 rfl) ?_
            refine lv_ifnull hx hb dX0_settleStretches_35 ?_
            refine lv_aload hx hb dX0_settleStretches_38 (lv_at hl 0 rfl) ?_
            refine lv_ifnonnull (tgt := 46) hx hb dX0_settleStretches_40 (by decide) ?_
            have hFm := hF
            have hWm := hW
            refine lv_aload_n hx hb dX0_settleStretches_46 rfl (lv_at hl 1 rfl) ?_
            refine lv_aload_n hx hb dX0_settleStretches_47 rfl (lv_at hl 4 rfl) ?_
            have hPc : va_P D vwCl ([] ++ va_pl L M_10) H_25 := hP
            have hDc : va_D A ([] ++ va_pl L M_10) := hD
            have hFc : ∀ q, va_A ([] ++ va_pl L M_10) H_25.size q → A q := pg_free hDc hS hA
            refine va_callv (va_runV (As := [.ref k1]) (rest := []) ⟨hx, hb, hml, hown, hg⟩ (e_seatAll l D cy K L M_10 H_25.size b_22 k1 Bo Mb Xv Yv v24_0 v24_1 v24_2 v24_3 v24_4 v24_5 hW hb_23 ik1 hV hn28 hM24 h24_0 h24_1) (cwV 1 hg (gV wd_251 wd_252 wd_253 wd_193 wd_254) rfl rfl rfl (by decide +kernel) ⟨(Nat.le_trans (Nat.le_of_ble_eq_true rfl) hRf), (Nat.le_trans (Nat.le_of_ble_eq_true rfl) hRl)⟩) ⟨PG.blind, pg_recv hK hP hb_23.1 hM24 rfl, fun U hU hW => ⟨rfl, PG.at hPc hK hDc hN hU hW⟩⟩ rfl rfl hl.1 rfl (lv_room (Nat.le_of_ble_eq_true rfl)) dX0_settleStretches_48 ⟨(Nat.le_trans (Nat.le_of_ble_eq_true rfl) hRc), (Nat.le_trans (Nat.le_of_ble_eq_true rfl) hRs)⟩) hS (fun q _ h => hFc q h) hFc (fun M_34 t H_32 locs ht hvm hw hB hz1 hk1 hS => ?_)
            obtain ⟨hW, hF2, gO65, hVP, hp_35⟩ := hw
            obtain ⟨hP1, hD1⟩ := hB
            rw [ht] at hP1
            have hP : va_P D vwCl ([] ++ va_pl L M_34) H_32 := hP1
            have hD : va_D A ([] ++ va_pl L M_34) := hD1.mono hFc
            have hM_36 : M_34 oa = .inr (0, [.ref y0, .ref y1, .ref y2, .int (nI y3), .long y4]) := (hF2.at ia (by decide)).trans hM_12
            have hM_37 : M_34 k1 = .inr (2, [.int z0, .int z1, .int z2, .ref z3, .int (nI z4), .int (nI z5), .ref z6, .ref z7, .ref z8, .int (nI z9), .ref z10, .int (nI z11), .ref z12, .ref z13, .long z14, .int z15, .ref z16, .ref z17, .ref z18, .ref z19]) := (hF2.at ik1 (by decide)).trans hM_13
            have hM_38 : M_34 z16 = .inr (1, [.ref u0, .ref u1, .ref u2, .int (nI u3)]) := (hF2.at hz16 (by decide)).trans hM_14
            have hM_39 : M_34 b_22 = .inr (8, [.ref v24_0, .ref v24_1, .int v24_2, .int v24_3, .long v24_4, .long v24_5]) := (hF2.at hb_23 (by decide)).trans hM24
            have hM_40 : M_34 b_29 = .inr (6, [.int v31_0, .int v31_1, .ref v31_2]) := (hF2.at hb_30 (by decide)).trans hM31
            have hF : fr K L [7, 8, 9, 64, 65, 66, 68, 69, 70, 71, 72] M M_34 := hF.tr hF2 (by decide)
            have hO8 : ONL 8 K L (fun b => ∃ i : Nat, i < y3 ∧ RFc (M y0) i = some b) M M_34 := hO8.frr hF2 (by decide)
            have hO65 : ONL 65 K L (fun b => ∃ i s : Nat, i < y3 ∧ RFc (M y0) i = some s ∧ b = rA 8 M s 0) M M_34 := hO65.tr gO65 (fun x hx => by rw [hx]; exact ⟨v2w4, b_22, by omega, hsl9, ha0.symm⟩)
            have hO72 : ONL 72 K L (fun b => ∃ i s : Nat, i < y3 ∧ RFc (M y0) i = some s ∧ b = rA 8 M s 1) M M_34 := hO72.frr hF2 (by decide)
            have hT9 : fT 9 K L [11] M M_34 := hT9.frr hF2 (by decide)
            have hWs := hW
            have hFa := hF
            have hJ8 : ONL 8 K L (fun x => x = b_22) M_10 M_34 := ONL.rf.frr hF2 (by decide)
            have hJ65 : ONL 65 K L (fun x => x = v24_0) M_10 M_34 := ONL.rf.tr gO65 (fun _ h => h)
            have hJ72 : ONL 72 K L (fun x => x = v24_1) M_10 M_34 := ONL.rf.frr hF2 (by decide)
            have hJF := hF2
            have hSE : SEC M_34 b_22 (RFc (M z8)) (tsq X Y (fd v2w4)) := fun q hq => by have h9 := (((hVP q hq).cg hXe.1 hYe)); rw [hd2, rA_e (hFm.at ik1 (by decide)), hsl8, hFm.at hz8 (by decide)] at h9; have h8 := h9.ts hU; have e9 : sT M_34 b_22 q = RFc (M_34 v24_0) q := by (unfold sT; rw [rA_of (j := 0) hM_39 rfl]); rw [e9]; exact h8
            have hRY : RDY M_34 b_22 b_29 z16 (RFc (M z8)) PK PT X Y cr (boI PK PT X Y cr mn fd dn rs b0 v2w4) (fd v2w4) := ⟨hSE, hx_8.fr hWm hF2 (by decide) (by decide) hi9, hrt.2.fr hWm hb_30 hF2 (by decide) (by decide), (hMQ.fr hW00 hz16 hF (by decide) (by decide) (by decide) (by decide))⟩
            have hcd3 : (cV 8 M_34 b_22 3).toInt = dn v2w4 := by rw [cV_of (j := 3) hM_39 rfl]; exact hd3
            have hdu0 : ∀ q : Nat, q < 6 → (LFc (M_34 v24_1) q).toInt = 0 := fun q hq => by rw [hF2.at h24_1 (by decide)]; exact hdu9 q hq
            have hwgb : ∀ q : Nat, q < 6 → 0 ≤ wgS PK Y (tsq X Y (fd v2w4)) (rlq Y (X 11).toNat (fd v2w4)) (dn v2w4) q ∧ wgS PK Y (tsq X Y (fd v2w4)) (rlq Y (X 11).toNat (fd v2w4)) (dn v2w4) q ≤ 100000000 := fun q hq => wgS_b (htm9.2 q hq).1 hf9.2.2.1
            have hinb : ∀ q : Nat, q < 6 → 0 ≤ inS X Y cr (tsq X Y (fd v2w4)) (rlq Y (X 11).toNat (fd v2w4)) (fd v2w4) (dn v2w4) q ∧ inS X Y cr (tsq X Y (fd v2w4)) (rlq Y (X 11).toNat (fd v2w4)) (fd v2w4) (dn v2w4) q ≤ 2000000000000 := fun q hq => inS_b htm9.1 hMV hf9.2.2.1.2 (fun i hi => hCR i (htx _ _ _ hi))
            have hw2 : ∀ q : Nat, q < 6 → 0 ≤ wtS Y (tsq X Y (fd v2w4)) (rlq Y (X 11).toNat (fd v2w4)) 2 q := fun q hq => (wtS_b (htm9.2 q hq).2.2.1).1
            refine lv_aload_n hx hb dX0_settleStretches_51 rfl (lv_at hl 1 rfl) ?_
            refine pg_get (D := D) (ci := 8) (v := .long v24_4) (C := RX8) (T := TX8) (N := 6) hx hb hg inG8 hown hK hP hb_23.1 hM_39 rfl 4 (by decide) (hg _ wd_255) (fun _ h9 => h9) rfl dX0_settleStretches_52 ?_
            refine lv_aload_n hx hb dX0_settleStretches_55 rfl (lv_at hl 3 rfl) ?_
            refine lv_aload_n hx hb dX0_settleStretches_56 rfl (lv_at hl 1 rfl) ?_
            refine lv_aload hx hb dX0_settleStretches_57 (lv_at hl 0 rfl) ?_
            have hPc : va_P D vwCl ([] ++ va_pl L M_34) H_32 := hP
            have hDc : va_D A ([] ++ va_pl L M_34) := hD
            have hFc : ∀ q, va_A ([] ++ va_pl L M_34) H_32.size q → A q := pg_free hDc hS hA
            refine va_calll (va_runV (As := [.ref b_22, .ref b_29]) (rest := [.long v24_4]) ⟨hx, hb, hml, hown, hg⟩ (e_wages l D cy K L M_34 H_32.size oa b_22 b_29 v24_0 v24_1 v24_2 v24_3 v24_4 v24_5 hW ia hb_23 hb_30 (fun q hq => by rw [hRY.2.2.1.1 0 q (by decide) hq]; exact (htm9.2 q hq).1) (by rw [hcd3]; exact hf9.2.2.1) (fun q hq => by rw [hdu0 q hq]; decide) hM_39 h24_0 h24_1) (cwV 2 hg (gV wd_256 wd_257 wd_258 wd_204 wd_259) rfl rfl rfl (by decide +kernel) ⟨(Nat.le_trans (Nat.le_of_ble_eq_true rfl) hRf), (Nat.le_trans (Nat.le_of_ble_eq_true rfl) hRl)⟩) ⟨PG.blind, pg_recv hK hP ia.1 hM_36 rfl, fun U hU hW => ⟨rfl, PG.at hPc hK hDc hN hU hW⟩⟩ rfl rfl hl.1 rfl (lv_room (Nat.le_of_ble_eq_true rfl)) dX0_settleStretches_59 ⟨(Nat.le_trans (Nat.le_of_ble_eq_true rfl) hRc), (Nat.le_trans (Nat.le_of_ble_eq_true rfl) hRs)⟩) hS (fun q _ h => hFc q h) hFc (fun r_42 M_43 t H_41 locs ht hvm hw hB hz1 hk1 hS => ?_)
            obtain ⟨hW, hF2, gO72, hVP, hp_44⟩ := hw
            obtain ⟨hP1, hD1⟩ := hB
            rw [ht] at hP1
            have hP : va_P D vwCl ([] ++ va_pl L M_43) H_41 := hP1
            have hD : va_D A ([] ++ va_pl L M_43) := hD1.mono hFc
            have hM_45 : M_43 oa = .inr (0, [.ref y0, .ref y1, .ref y2, .int (nI y3), .long y4]) := (hF2.at ia (by decide)).trans hM_36
            have hM_46 : M_43 k1 = .inr (2, [.int z0, .int z1, .int z2, .ref z3, .int (nI z4), .int (nI z5), .ref z6, .ref z7, .ref z8, .int (nI z9), .ref z10, .int (nI z11), .ref z12, .ref z13, .long z14, .int z15, .ref z16, .ref z17, .ref z18, .ref z19]) := (hF2.at ik1 (by decide)).trans hM_37
            have hM_47 : M_43 z16 = .inr (1, [.ref u0, .ref u1, .ref u2, .int (nI u3)]) := (hF2.at hz16 (by decide)).trans hM_38
            have hM_48 : M_43 b_22 = .inr (8, [.ref v24_0, .ref v24_1, .int v24_2, .int v24_3, .long v24_4, .long v24_5]) := (hF2.at hb_23 (by decide)).trans hM_39
            have hM_49 : M_43 b_29 = .inr (6, [.int v31_0, .int v31_1, .ref v31_2]) := (hF2.at hb_30 (by decide)).trans hM_40
            have hF : fr K L [7, 8, 9, 64, 65, 66, 68, 69, 70, 71, 72] M M_43 := hF.tr hF2 (by decide)
            have hO8 : ONL 8 K L (fun b => ∃ i : Nat, i < y3 ∧ RFc (M y0) i = some b) M M_43 := hO8.frr hF2 (by decide)
            have hO65 : ONL 65 K L (fun b => ∃ i s : Nat, i < y3 ∧ RFc (M y0) i = some s ∧ b = rA 8 M s 0) M M_43 := hO65.frr hF2 (by decide)
            have hO72 : ONL 72 K L (fun b => ∃ i s : Nat, i < y3 ∧ RFc (M y0) i = some s ∧ b = rA 8 M s 1) M M_43 := hO72.tr gO72 (fun x hx => by rw [hx]; exact ⟨v2w4, b_22, by omega, hsl9, ha1.symm⟩)
            have hT9 : fT 9 K L [11] M M_43 := hT9.frr hF2 (by decide)
            obtain ⟨vr_50, hr_52, c_51⟩ := hp_44
            have hq := Eq.symm hr_52
            subst hq
            have hJ8 : ONL 8 K L (fun x => x = b_22) M_10 M_43 := hJ8.frr hF2 (by decide)
            have hJ65 : ONL 65 K L (fun x => x = v24_0) M_10 M_43 := hJ65.frr hF2 (by decide)
            have hJ72 : ONL 72 K L (fun x => x = v24_1) M_10 M_43 := hJ72.tr gO72 (fun _ h => h)
            have hRY2 : RDY M_43 b_22 b_29 z16 (RFc (M z8)) PK PT X Y cr (boI PK PT X Y cr mn fd dn rs b0 v2w4) (fd v2w4) := hRY.fr hWs hb_23 hb_30 hz16 hi9 hF2 (by decide)
            have hWs := hW
            have hwq : ∀ q : Nat, q < 6 → wgE M_34 b_22 b_29 q = wgS PK Y (tsq X Y (fd v2w4)) (rlq Y (X 11).toNat (fd v2w4)) (dn v2w4) q := fun q hq => by rw [wgE_S hRY.1 hRY.2.1 hRY.2.2.1 (htx _) hq, hcd3]
            have hwv : (vr_50 : Int64).toInt = sumI (wgS PK Y (tsq X Y (fd v2w4)) (rlq Y (X 11).toNat (fd v2w4)) (dn v2w4)) 6 := by rw [← sumI_cg 6 hwq]; exact c_51
            have hdu1 : ∀ q : Nat, q < 6 → (LFc (M_43 v24_1) q).toInt = wgS PK Y (tsq X Y (fd v2w4)) (rlq Y (X 11).toNat (fd v2w4)) (dn v2w4) q := fun q hq => by rw [hVP q hq, hdu0 q hq, hwq q hq, Int.zero_add]
            have hsw := sumI_bd (f := wgS PK Y (tsq X Y (fd v2w4)) (rlq Y (X 11).toNat (fd v2w4)) (dn v2w4)) (b := 100000000) 6 hwgb
            have hth9 : (v31_1 : Int32).toInt = (Y 35 (rlq Y (X 11).toNat (fd v2w4))).toInt := by rw [← hRY2.2.2.1.2, cV_of (j := 1) hM_49 rfl]
            have hFa := hF
            refine lv_lsub hx hb dX0_settleStretches_62 ?_
            refine lv_topl (fun f_53 ef_53 => ?_)
            have hr1 : (f_53 : Int64).toInt = rs v2w4 - sumI (wgS PK Y (tsq X Y (fd v2w4)) (rlq Y (X 11).toNat (fd v2w4)) (dn v2w4)) 6 := by have h9 := lS ef_53 (by rw [hd4, hwv]; omega) (by rw [hd4, hwv]; omega); rw [hd4, hwv] at h9; exact h9
            refine lv_aload_n hx hb dX0_settleStretches_63 rfl (lv_at hl 3 rfl) ?_
            refine lv_aload_n hx hb dX0_settleStretches_64 rfl (lv_at hl 4 rfl) ?_
            refine lv_aload_n hx hb dX0_settleStretches_65 rfl (lv_at hl 1 rfl) ?_
            refine lv_aload hx hb dX0_settleStretches_66 (lv_at hl 0 rfl) ?_
            have hM9i := hM_48
            have hPc : va_P D vwCl ([] ++ va_pl L M_43) H_41 := hP
            have hDc : va_D A ([] ++ va_pl L M_43) := hD
            have hFc : ∀ q, va_A ([] ++ va_pl L M_43) H_41.size q → A q := pg_free hDc hS hA
            refine va_calll (va_runV (As := [.ref k1, .ref b_22, .ref b_29]) (rest := [.long f_53]) ⟨hx, hb, hml, hown, hg⟩ (e_interest l D cy K L M_43 H_41.size oa k1 b_22 b_29 z0 z1 z2 z3 z4 z5 z6 z7 z8 z9 z10 z11 z12 z13 z14 z15 z16 z17 z18 z19 un u0 u1 u2 u3 v24_0 v24_1 v24_2 v24_3 v24_4 v24_5 v31_0 v31_1 v31_2 hW ia ik1 hb_23 hb_30 (by rw [hth9]; exact htm9.1) (fun j hj => by have h8 := hRY2.2.2.2 j (by omega); rw [rA_of (j := 2) (hFa.at hz16 (by decide) |>.trans hMu) rfl] at h8; rw [h8.2.2]; exact (hMV.2 j (by omega)).2) (fun j hj => by have h8 := hRY2.2.2.2 j (by omega); rw [rA_of (j := 1) (hFa.at hz16 (by decide) |>.trans hMu) rfl] at h8; rw [h8.2.1]; exact (hMV.2 j (by omega)).1) (by rw [hd2]; exact hf9.2.1) (by rw [hd3]; exact hf9.2.2.1) hnn (fun q hq t ht => crT hRY2 hCR hq ht) (fun q hq => by have h8 := hwgb q hq; rw [hdu1 q hq]; omega) hM_46 hz3 hz4 hz5 hz6 hz7 hz8 hz9 hz10 hz11 hz12 hz13 hz16 hz17 hz18 hz19 hM_47 hu0 hu1 hu2 hu3 heu0 hM_48 h24_0 h24_1 hM_49 h31_2) (cwV 3 hg (gV wd_260 wd_261 wd_262 wd_204 wd_263) rfl rfl rfl (by decide +kernel) ⟨(Nat.le_trans (Nat.le_of_ble_eq_true rfl) hRf), (Nat.le_trans (Nat.le_of_ble_eq_true rfl) hRl)⟩) ⟨PG.blind, pg_recv hK hP ia.1 hM_45 rfl, fun U hU hW => ⟨rfl, PG.at hPc hK hDc hN hU hW⟩⟩ rfl rfl hl.1 rfl (lv_room (Nat.le_of_ble_eq_true rfl)) dX0_settleStretches_68 ⟨(Nat.le_trans (Nat.le_of_ble_eq_true rfl) hRc), (Nat.le_trans (Nat.le_of_ble_eq_true rfl) hRs)⟩) hS (fun q _ h => hFc q h) hFc (fun r_55 M_56 t H_54 locs ht hvm hw hB hz1 hk1 hS => ?_)
            obtain ⟨hW, hF2, gO72, hVP, hp_57⟩ := hw
            obtain ⟨hP1, hD1⟩ := hB
            rw [ht] at hP1
            have hP : va_P D vwCl ([] ++ va_pl L M_56) H_54 := hP1
            have hD : va_D A ([] ++ va_pl L M_56) := hD1.mono hFc
            have hM_58 : M_56 oa = .inr (0, [.ref y0, .ref y1, .ref y2, .int (nI y3), .long y4]) := (hF2.at ia (by decide)).trans hM_45
            have hM_59 : M_56 k1 = .inr (2, [.int z0, .int z1, .int z2, .ref z3, .int (nI z4), .int (nI z5), .ref z6, .ref z7, .ref z8, .int (nI z9), .ref z10, .int (nI z11), .ref z12, .ref z13, .long z14, .int z15, .ref z16, .ref z17, .ref z18, .ref z19]) := (hF2.at ik1 (by decide)).trans hM_46
            have hM_60 : M_56 z16 = .inr (1, [.ref u0, .ref u1, .ref u2, .int (nI u3)]) := (hF2.at hz16 (by decide)).trans hM_47
            have hM_61 : M_56 b_22 = .inr (8, [.ref v24_0, .ref v24_1, .int v24_2, .int v24_3, .long v24_4, .long v24_5]) := (hF2.at hb_23 (by decide)).trans hM_48
            have hM_62 : M_56 b_29 = .inr (6, [.int v31_0, .int v31_1, .ref v31_2]) := (hF2.at hb_30 (by decide)).trans hM_49
            have hF : fr K L [7, 8, 9, 64, 65, 66, 68, 69, 70, 71, 72] M M_56 := hF.tr hF2 (by decide)
            have hO8 : ONL 8 K L (fun b => ∃ i : Nat, i < y3 ∧ RFc (M y0) i = some b) M M_56 := hO8.frr hF2 (by decide)
            have hO65 : ONL 65 K L (fun b => ∃ i s : Nat, i < y3 ∧ RFc (M y0) i = some s ∧ b = rA 8 M s 0) M M_56 := hO65.frr hF2 (by decide)
            have hO72 : ONL 72 K L (fun b => ∃ i s : Nat, i < y3 ∧ RFc (M y0) i = some s ∧ b = rA 8 M s 1) M M_56 := hO72.tr gO72 (fun x hx => by rw [hx]; exact ⟨v2w4, b_22, by omega, hsl9, ha1.symm⟩)
            have hT9 : fT 9 K L [11] M M_56 := hT9.frr hF2 (by decide)
            obtain ⟨vr_63, hr_65, c_64⟩ := hp_57
            have hq := Eq.symm hr_65
            subst hq
            have hJ8 : ONL 8 K L (fun x => x = b_22) M_10 M_56 := hJ8.frr hF2 (by decide)
            have hJ65 : ONL 65 K L (fun x => x = v24_0) M_10 M_56 := hJ65.frr hF2 (by decide)
            have hJ72 : ONL 72 K L (fun x => x = v24_1) M_10 M_56 := hJ72.tr gO72 (fun _ h => h)
            have hRY3 : RDY M_56 b_22 b_29 z16 (RFc (M z8)) PK PT X Y cr (boI PK PT X Y cr mn fd dn rs b0 v2w4) (fd v2w4) := hRY2.fr hWs hb_23 hb_30 hz16 hi9 hF2 (by decide)
            have hWs := hW
            have hce : ∀ q : Nat, q < 6 → inE M_43 z16 b_22 u3 (v31_1 : Int32).toInt q = inS X Y cr (tsq X Y (fd v2w4)) (rlq Y (X 11).toNat (fd v2w4)) (fd v2w4) (dn v2w4) q := fun q hq => by have h9 := inE_S hRY2.1 hRY2.2.1 hRY2.2.2.1 (htx _) hRY2.2.2.2 hSI (by omega) hq; rw [show (X 14).toNat = u3 by omega, hRY2.2.2.1.2, cV_of (j := 2) (hM9i) rfl, cV_of (j := 3) (hM9i) rfl, hd2, hd3] at h9; rw [hth9]; exact h9
            have hiv : (vr_63 : Int64).toInt = sumI (inS X Y cr (tsq X Y (fd v2w4)) (rlq Y (X 11).toNat (fd v2w4)) (fd v2w4) (dn v2w4)) 6 := by rw [← sumI_cg 6 hce]; exact c_64
            have hdu2 : ∀ q : Nat, q < 6 → (LFc (M_56 v24_1) q).toInt = wgS PK Y (tsq X Y (fd v2w4)) (rlq Y (X 11).toNat (fd v2w4)) (dn v2w4) q + inS X Y cr (tsq X Y (fd v2w4)) (rlq Y (X 11).toNat (fd v2w4)) (fd v2w4) (dn v2w4) q := fun q hq => by rw [hVP q hq, hdu1 q hq, hce q hq]
            have hsi := sumI_bd (f := inS X Y cr (tsq X Y (fd v2w4)) (rlq Y (X 11).toNat (fd v2w4)) (fd v2w4) (dn v2w4)) (b := 2000000000000) 6 hinb
            refine lv_lsub hx hb dX0_settleStretches_71 ?_
            refine lv_topl (fun f_66 ef_66 => ?_)
            have hl1 : (f_66 : Int64).toInt = dl1 (mn v2w4) (wgS PK Y (tsq X Y (fd v2w4)) (rlq Y (X 11).toNat (fd v2w4)) (dn v2w4)) (inS X Y cr (tsq X Y (fd v2w4)) (rlq Y (X 11).toNat (fd v2w4)) (fd v2w4) (dn v2w4)) (rs v2w4) := by have h9 := lS ef_66 (by rw [hr1, hiv]; omega) (by rw [hr1, hiv]; omega); rw [hr1, hiv] at h9; rw [h9]; unfold dl1; rw [if_neg (by rw [hf9.2.2.2.2]; decide)]
            have hlb : -200000000000000 ≤ dl1 (mn v2w4) (wgS PK Y (tsq X Y (fd v2w4)) (rlq Y (X 11).toNat (fd v2w4)) (dn v2w4)) (inS X Y cr (tsq X Y (fd v2w4)) (rlq Y (X 11).toNat (fd v2w4)) (fd v2w4) (dn v2w4)) (rs v2w4) ∧ dl1 (mn v2w4) (wgS PK Y (tsq X Y (fd v2w4)) (rlq Y (X 11).toNat (fd v2w4)) (dn v2w4)) (inS X Y cr (tsq X Y (fd v2w4)) (rlq Y (X 11).toNat (fd v2w4)) (fd v2w4) (dn v2w4)) (rs v2w4) ≤ 200000000000000 := by unfold dl1; rw [if_neg (by rw [hf9.2.2.2.2]; decide)]; omega
            have hmn := hf9.2.2.2.2
            refine lv_lstore (lv' := [(5, .long f_66), (4, .ref b_29), (3, .ref b_22), (2, .int (nI v2w4)), (0, .ref oa), (1, .ref k1)]) hx hb dX0_settleStretches_72 hl (by decide) rfl (fun ls hl => ?_)
            refine lv_lload hx hb dX0_settleStretches_74 (lv_at hl 0 rfl) ?_
            refine lv_lconst (v := 0) hx hb dX0_settleStretches_76 (by decide) ?_
            refine W.lcmp hx hb dX0_settleStretches_77 ?_
            refine lv_if_le (tgt := 103) hx hb dX0_settleStretches_78 (by decide) (fun c_67 => ?_) (fun c_67 => ?_)
            · have hz := rfl (a := 0)
              have d_68 : f_66 ≤ 0 := lc_let c_67
              refine lv_lload hx hb dX0_settleStretches_103 (lv_at hl 0 rfl) ?_
              refine lv_lconst (v := 0) hx hb dX0_settleStretches_105 (by decide) ?_
              refine W.lcmp hx hb dX0_settleStretches_106 ?_
              refine lv_if_ge (tgt := 120) hx hb dX0_settleStretches_107 (by decide) (fun c_69 => ?_) (fun c_69 => ?_)
              · have hz := rfl (a := 0)
                have d_70 : 0 ≤ f_66 := lc_get c_69
                have hz0 := Int64.le_iff_toInt_le.mp d_68
                rw [hl1, show (0 : Int64).toInt = 0 from rfl] at hz0
                have hz1 := Int64.le_iff_toInt_le.mp d_70
                rw [hl1, show (0 : Int64).toInt = 0 from rfl] at hz1
                have hz : dl1 (mn v2w4) (wgS PK Y (tsq X Y (fd v2w4)) (rlq Y (X 11).toNat (fd v2w4)) (dn v2w4)) (inS X Y cr (tsq X Y (fd v2w4)) (rlq Y (X 11).toNat (fd v2w4)) (fd v2w4) (dn v2w4)) (rs v2w4) = 0 := by omega
                have hnp : (mn v2w4) = true ∨ ¬ 0 < dl1 (mn v2w4) (wgS PK Y (tsq X Y (fd v2w4)) (rlq Y (X 11).toNat (fd v2w4)) (dn v2w4)) (inS X Y cr (tsq X Y (fd v2w4)) (rlq Y (X 11).toNat (fd v2w4)) (fd v2w4) (dn v2w4)) (rs v2w4) := Or.inr (by omega)
                have hl2e : dl2 (mn v2w4) (fun q => (tsq X Y (fd v2w4)) q ≠ none) (wgS PK Y (tsq X Y (fd v2w4)) (rlq Y (X 11).toNat (fd v2w4)) (dn v2w4)) (inS X Y cr (tsq X Y (fd v2w4)) (rlq Y (X 11).toNat (fd v2w4)) (fd v2w4) (dn v2w4)) (tmq Y (rlq Y (X 11).toNat (fd v2w4)) 1) (rs v2w4) = 0 := (dl2_n hnp).trans hz
                have hST : STC M_56 b_22 (fd v2w4) (dn v2w4) (rs v2w4) (seN PK PT X Y cr (mn v2w4) (fd v2w4) (dn v2w4) (rs v2w4) (boI PK PT X Y cr mn fd dn rs b0 v2w4)) (seD PK PT X Y cr (mn v2w4) (fd v2w4) (dn v2w4) (rs v2w4) (boI PK PT X Y cr mn fd dn rs b0 v2w4)) := ⟨by rw [cV_of (j := 2) hM_61 rfl]; exact hd2, by rw [cV_of (j := 3) hM_61 rfl]; exact hd3, by rw [cL_of (j := 4) hM_61 rfl]; exact hd4, by rw [cL_of (j := 5) hM_61 rfl, hd5]; unfold seN seL; rw [hl2e]; exact dno_z.symm, fun q hq => by rw [rA_of (j := 1) hM_61 rfl]; unfold seD; rw [dui_n hnp, if_neg (by rw [hmn]; decide), hz, dsh_z, Int.add_zero]; exact hdu2 q hq⟩
                have hSF : SEC M_56 b_22 (RFc (M z8)) (tsq X Y (fd v2w4)) := hRY3.1
                have hTF2 : TNF M_56 (RFc (M z8)) PK PT X Y cr (boI PK PT X Y cr mn fd dn rs b0 (v2w4 + 1)) := hRY3.2.1.cgb (fun i _ => by show _ = _ + ofT X Y (fd v2w4) (seB PK PT X Y cr (mn v2w4) (fd v2w4) (dn v2w4) (rs v2w4) (boI PK PT X Y cr mn fd dn rs b0 v2w4)) i; rw [ofT_0 (fun q => by unfold seB seL; rw [hl2e]; exact dbr_g (Int.le_refl 0)), Int.add_zero])
                have hAR : rA 8 M_56 b_22 0 = rA 8 M b_22 0 ∧ rA 8 M_56 b_22 1 = rA 8 M b_22 1 := ⟨by rw [rA_of (j := 0) hM_61 rfl, ha0], by rw [rA_of (j := 1) hM_61 rfl, ha1]⟩
                have hoth : ∀ i s1, i < y3 → ¬ i = v2w4 → RFc (M y0) i = some s1 → M_56 s1 = M_10 s1 ∧ M_56 (rA 8 M_10 s1 0) = M_10 (rA 8 M_10 s1 0) ∧ M_56 (rA 8 M_10 s1 1) = M_10 (rA 8 M_10 s1 1) := fun i s1 hi hne h9 => by
                  have is1 := hi8 i s1 hi h9
                  have ne1 : s1 ≠ b_22 := fun w => hne (hSJ i v2w4 s1 hi (by omega) h9 (by rw [w]; exact hsl9))
                  have aj := hAJ s1 b_22 is1 hb_23 ne1
                  have hd := hx_9 i hi s1 h9
                  have k8 := s8_k hW00 is1
                  rw [← hd.1, ha0] at aj
                  rw [← hd.2, ha1] at aj
                  rw [← hd.1, ← hd.2] at k8
                  exact ⟨hJ8.at is1 ne1, hJ65.at k8.1 aj.1, hJ72.at k8.2 aj.2⟩
                refine lv_iinc (v := (nI (v2w4 + 1))) (lv' := [(2, .int (nI (v2w4 + 1))), (5, .long f_66), (4, .ref b_29), (3, .ref b_22), (0, .ref oa), (1, .ref k1)]) hx hb dX0_settleStretches_120 hl (k := 3) rfl (nI_1 v2w4) (by decide) rfl (fun ls hl => ?_)
                refine lv_goto (tgt := 2) hx hb dX0_settleStretches_123 (by decide) ?_
                exact ih_2 (v2w4 + 1) M_56 H_54 _ _ (by omega) hM_58 hM_59 hM_60 (by omega) (fun i hi s1 h9 => by by_cases z9 : i = v2w4; subst z9; rw [hsl9] at h9; cases h9; exact ⟨hSF, hST⟩; have g9 := hoth i s1 (by omega) z9 h9; have g8 := hx_6 i (by omega) s1 h9; exact ⟨g8.1.e g9.1 g9.2.1, g8.2.e g9.1 g9.2.2⟩) (fun i h1 hi s1 h9 => by have g9 := hoth i s1 hi (by omega) h9; exact (hx_7 i (by omega) hi s1 h9).e g9.1 g9.2.2) hTF2 (fun i hi s1 h9 => by by_cases z9 : i = v2w4; subst z9; rw [hsl9] at h9; cases h9; exact hAR; have g9 := hoth i s1 hi z9 h9; rw [rA_e g9.1, rA_e g9.1]; exact hx_9 i hi s1 h9) hW hF hT9 hO8 hO65 hO72 hP hD hS (lv_sub hl [0, 4, 5] rfl)
              · have hz := rfl (a := 0)
                have d_70 : ¬ 0 ≤ f_66 := lc_gef c_69
                refine lv_aload_n hx hb dX0_settleStretches_110 rfl (lv_at hl 4 rfl) ?_
                refine lv_aload_n hx hb dX0_settleStretches_111 rfl (lv_at hl 2 rfl) ?_
                refine lv_aload hx hb dX0_settleStretches_112 (lv_at hl 1 rfl) ?_
                refine lv_lload hx hb dX0_settleStretches_114 (lv_at hl 0 rfl) ?_
                refine lv_lneg hx hb dX0_settleStretches_116 ?_
                refine lv_topl (fun f_71 ef_71 => ?_)
                have hneg := Int64.lt_iff_toInt_lt.mp (Int64.not_le.mp d_70)
                rw [hl1, show (0 : Int64).toInt = 0 from rfl] at hneg
                have hln : (f_71 : Int64).toInt = -dl1 (mn v2w4) (wgS PK Y (tsq X Y (fd v2w4)) (rlq Y (X 11).toNat (fd v2w4)) (dn v2w4)) (inS X Y cr (tsq X Y (fd v2w4)) (rlq Y (X 11).toNat (fd v2w4)) (fd v2w4) (dn v2w4)) (rs v2w4) := by rw [← hl1]; exact lNg ef_71 (by rw [hl1]; omega)
                have hM4 := hM_61
                have hPc : va_P D vwCl ([] ++ va_pl L M_56) H_54 := hP
                have hDc : va_D A ([] ++ va_pl L M_56) := hD
                have hFc : ∀ q, va_A ([] ++ va_pl L M_56) H_54.size q → A q := pg_free hDc hS hA
                obtain ⟨v72_0, v72_1, v72_2, v72_3, v72_4, v72_5, hM72, h72_0, h72_1, h72_2, h72_3, h72_4, h72_5⟩ := hW.open_7 hy2
                refine va_callv (va_runV (As := [.ref b_22, .ref b_29, .long f_71]) (rest := []) ⟨hx, hb, hml, hown, hg⟩ (e_lack l D cy K L M_56 H_54.size oa b_22 b_29 f_71 y0 y1 y2 y3 y4 v24_0 v24_1 v24_2 v24_3 v24_4 v24_5 v72_0 v72_1 v72_2 v72_3 v72_4 v72_5 hW ia hb_23 hb_30 (fun q hq => by rw [hRY3.2.2.1.1 3 q (by decide) hq]; exact (htm9.2 q hq).2.2.2) (by rw [hln]; omega) (fun q hq => by have h8 := hwgb q hq; have h7 := hinb q hq; rw [hdu2 q hq]; omega) (hRY3.1.td hSI) (fun q hq t ht => boT hRY3 (fun i hi => hBO v2w4 i (by omega) hi) hq ht) hM_58 hy0 hy1 hy2 hy3 hM_61 h24_0 h24_1 hM72 h72_0 h72_1 h72_2 h72_3 h72_4 h72_5) (cwV 3 hg (gV wd_264 wd_265 wd_266 wd_204 wd_267) rfl rfl rfl (by decide +kernel) ⟨(Nat.le_trans (Nat.le_of_ble_eq_true rfl) hRf), (Nat.le_trans (Nat.le_of_ble_eq_true rfl) hRl)⟩) ⟨PG.blind, pg_recv hK hP ia.1 hM_58 rfl, fun U hU hW => ⟨rfl, PG.at hPc hK hDc hN hU hW⟩⟩ rfl rfl hl.1 rfl (lv_room (Nat.le_of_ble_eq_true rfl)) dX0_settleStretches_117 ⟨(Nat.le_trans (Nat.le_of_ble_eq_true rfl) hRc), (Nat.le_trans (Nat.le_of_ble_eq_true rfl) hRs)⟩) hS (fun q _ h => hFc q h) hFc (fun M_75 t H_73 locs ht hvm hw hB hz1 hk1 hS => ?_)
                obtain ⟨hW, hF2, gT9, gO8, gO72, hVP, hp_76⟩ := hw
                obtain ⟨hP1, hD1⟩ := hB
                rw [ht] at hP1
                have hP : va_P D vwCl ([] ++ va_pl L M_75) H_73 := hP1
                have hD : va_D A ([] ++ va_pl L M_75) := hD1.mono hFc
                have hM_77 : M_75 oa = .inr (0, [.ref y0, .ref y1, .ref y2, .int (nI y3), .long y4]) := (hF2.at ia (by decide)).trans hM_58
                have hM_78 : M_75 k1 = .inr (2, [.int z0, .int z1, .int z2, .ref z3, .int (nI z4), .int (nI z5), .ref z6, .ref z7, .ref z8, .int (nI z9), .ref z10, .int (nI z11), .ref z12, .ref z13, .long z14, .int z15, .ref z16, .ref z17, .ref z18, .ref z19]) := (hF2.at ik1 (by decide)).trans hM_59
                have hM_79 : M_75 z16 = .inr (1, [.ref u0, .ref u1, .ref u2, .int (nI u3)]) := (hF2.at hz16 (by decide)).trans hM_60
                have hM_80 : M_75 b_29 = .inr (6, [.int v31_0, .int v31_1, .ref v31_2]) := (hF2.at hb_30 (by decide)).trans hM_62
                have hF : fr K L [7, 8, 9, 64, 65, 66, 68, 69, 70, 71, 72] M M_75 := hF.tr hF2 (by decide)
                have hO8 : ONL 8 K L (fun b => ∃ i : Nat, i < y3 ∧ RFc (M y0) i = some b) M M_75 := hO8.tr gO8 (fun x hx => by rw [hx]; exact ⟨v2w4, by omega, hsl9⟩)
                have hO65 : ONL 65 K L (fun b => ∃ i s : Nat, i < y3 ∧ RFc (M y0) i = some s ∧ b = rA 8 M s 0) M M_75 := hO65.frr hF2 (by decide)
                have hO72 : ONL 72 K L (fun b => ∃ i s : Nat, i < y3 ∧ RFc (M y0) i = some s ∧ b = rA 8 M s 1) M M_75 := hO72.tr gO72 (fun x hx => by rw [hx]; exact ⟨v2w4, b_22, by omega, hsl9, ha1.symm⟩)
                have hT9 : fT 9 K L [11] M M_75 := hT9.tr gT9 (by decide)
                have hJ8 : ONL 8 K L (fun x => x = b_22) M_10 M_75 := hJ8.tr gO8 (fun _ h => h)
                have hJ65 : ONL 65 K L (fun x => x = v24_0) M_10 M_75 := hJ65.frr hF2 (by decide)
                have hJ72 : ONL 72 K L (fun x => x = v24_1) M_10 M_75 := hJ72.tr gO72 (fun _ h => h)
                obtain ⟨hg1, ⟨v9, hM9, hv9⟩, hg2, hg3⟩ := hVP
                rw [hln] at hg1 hv9 hg2
                have hbe : ∀ q : Nat, q < 6 → brQ (-dl1 (mn v2w4) (wgS PK Y (tsq X Y (fd v2w4)) (rlq Y (X 11).toNat (fd v2w4)) (dn v2w4)) (inS X Y cr (tsq X Y (fd v2w4)) (rlq Y (X 11).toNat (fd v2w4)) (fd v2w4) (dn v2w4)) (rs v2w4)) (wtE M_56 b_22 b_29 3) (LMC M_56 b_22) (RMC M_56 b_22) 6 q = brQ (-dl1 (mn v2w4) (wgS PK Y (tsq X Y (fd v2w4)) (rlq Y (X 11).toNat (fd v2w4)) (dn v2w4)) (inS X Y cr (tsq X Y (fd v2w4)) (rlq Y (X 11).toNat (fd v2w4)) (fd v2w4) (dn v2w4)) (rs v2w4)) (wtS Y (tsq X Y (fd v2w4)) (rlq Y (X 11).toNat (fd v2w4)) 3) (lmS PK Y (tsq X Y (fd v2w4))) (rmS PT Y (tsq X Y (fd v2w4)) (boI PK PT X Y cr mn fd dn rs b0 v2w4)) 6 q := fun q hq => brQ_cg2 (fun i hi => wtE_S hRY3.1 hRY3.2.2.1 (by decide) hi) (fun i hi => LMC_S hRY3.1 hRY3.2.1 (htx _) hi) (fun i hi => RMC_S hRY3.1 hRY3.2.1 (htx _) hi) hq
                have hnp : (mn v2w4) = true ∨ ¬ 0 < dl1 (mn v2w4) (wgS PK Y (tsq X Y (fd v2w4)) (rlq Y (X 11).toNat (fd v2w4)) (dn v2w4)) (inS X Y cr (tsq X Y (fd v2w4)) (rlq Y (X 11).toNat (fd v2w4)) (fd v2w4) (dn v2w4)) (rs v2w4) := Or.inr (by omega)
                have hl2e : dl2 (mn v2w4) (fun q => (tsq X Y (fd v2w4)) q ≠ none) (wgS PK Y (tsq X Y (fd v2w4)) (rlq Y (X 11).toNat (fd v2w4)) (dn v2w4)) (inS X Y cr (tsq X Y (fd v2w4)) (rlq Y (X 11).toNat (fd v2w4)) (fd v2w4) (dn v2w4)) (tmq Y (rlq Y (X 11).toNat (fd v2w4)) 1) (rs v2w4) = dl1 (mn v2w4) (wgS PK Y (tsq X Y (fd v2w4)) (rlq Y (X 11).toNat (fd v2w4)) (dn v2w4)) (inS X Y cr (tsq X Y (fd v2w4)) (rlq Y (X 11).toNat (fd v2w4)) (fd v2w4) (dn v2w4)) (rs v2w4) := dl2_n hnp
                have hST : STC M_75 b_22 (fd v2w4) (dn v2w4) (rs v2w4) (seN PK PT X Y cr (mn v2w4) (fd v2w4) (dn v2w4) (rs v2w4) (boI PK PT X Y cr mn fd dn rs b0 v2w4)) (seD PK PT X Y cr (mn v2w4) (fd v2w4) (dn v2w4) (rs v2w4) (boI PK PT X Y cr mn fd dn rs b0 v2w4)) := ⟨by rw [cV_of (j := 2) hM9 rfl]; exact hd2, by rw [cV_of (j := 3) hM9 rfl]; exact hd3, by rw [cL_of (j := 4) hM9 rfl]; exact hd4, by rw [cL_of (j := 5) hM9 rfl, hv9, sumI_cg 6 hbe]; unfold seN seL; rw [hl2e]; exact (dno_l hneg).symm, fun q hq => by rw [rA_of (j := 1) hM9 rfl]; unfold seD; rw [dui_n hnp, if_neg (by rw [hmn]; decide)]; by_cases z9 : sT M_56 b_22 q = none; rw [(hg1 q hq).1 z9, hdu2 q hq, dsh_ln hneg (fun w => (SEC.hs hRY3.1 hq).mpr w z9), Int.add_zero]; rw [(hg1 q hq).2 z9, hdu2 q hq, dsh_ly hneg ((SEC.hs hRY3.1 hq).mp z9), hbe q hq]; rfl⟩
                have hSF : SEC M_75 b_22 (RFc (M z8)) (tsq X Y (fd v2w4)) := hRY3.1.mv hM9 (by rw [hF2.at h24_0 (by decide)]) hM4
                have hTF2 : TNF M_75 (RFc (M z8)) PK PT X Y cr (boI PK PT X Y cr mn fd dn rs b0 (v2w4 + 1)) := (TNF.lack (f := (seB PK PT X Y cr (mn v2w4) (fd v2w4) (dn v2w4) (rs v2w4) (boI PK PT X Y cr mn fd dn rs b0 v2w4))) hRY3.2.1 hWs hF2 gT9 (by decide) hi9 hRY3.1 hSI h20 (fun q hq t ht => by rw [hg2 q hq t ht, hbe q hq]; unfold seB seL; rw [hl2e, dbr_l hneg]) hg3).cgb (fun i _ => rfl)
                have hAR : rA 8 M_75 b_22 0 = rA 8 M b_22 0 ∧ rA 8 M_75 b_22 1 = rA 8 M b_22 1 := ⟨by rw [rA_of (j := 0) hM9 rfl, ha0], by rw [rA_of (j := 1) hM9 rfl, ha1]⟩
                have hoth : ∀ i s1, i < y3 → ¬ i = v2w4 → RFc (M y0) i = some s1 → M_75 s1 = M_10 s1 ∧ M_75 (rA 8 M_10 s1 0) = M_10 (rA 8 M_10 s1 0) ∧ M_75 (rA 8 M_10 s1 1) = M_10 (rA 8 M_10 s1 1) := fun i s1 hi hne h9 => by
                  have is1 := hi8 i s1 hi h9
                  have ne1 : s1 ≠ b_22 := fun w => hne (hSJ i v2w4 s1 hi (by omega) h9 (by rw [w]; exact hsl9))
                  have aj := hAJ s1 b_22 is1 hb_23 ne1
                  have hd := hx_9 i hi s1 h9
                  have k8 := s8_k hW00 is1
                  rw [← hd.1, ha0] at aj
                  rw [← hd.2, ha1] at aj
                  rw [← hd.1, ← hd.2] at k8
                  exact ⟨hJ8.at is1 ne1, hJ65.at k8.1 aj.1, hJ72.at k8.2 aj.2⟩
                refine lv_iinc (v := (nI (v2w4 + 1))) (lv' := [(2, .int (nI (v2w4 + 1))), (5, .long f_66), (4, .ref b_29), (3, .ref b_22), (0, .ref oa), (1, .ref k1)]) hx hb dX0_settleStretches_120 hl (k := 3) rfl (nI_1 v2w4) (by decide) rfl (fun ls hl => ?_)
                refine lv_goto (tgt := 2) hx hb dX0_settleStretches_123 (by decide) ?_
                exact ih_2 (v2w4 + 1) M_75 H_73 _ _ (by omega) hM_77 hM_78 hM_79 (by omega) (fun i hi s1 h9 => by by_cases z9 : i = v2w4; subst z9; rw [hsl9] at h9; cases h9; exact ⟨hSF, hST⟩; have g9 := hoth i s1 (by omega) z9 h9; have g8 := hx_6 i (by omega) s1 h9; exact ⟨g8.1.e g9.1 g9.2.1, g8.2.e g9.1 g9.2.2⟩) (fun i h1 hi s1 h9 => by have g9 := hoth i s1 hi (by omega) h9; exact (hx_7 i (by omega) hi s1 h9).e g9.1 g9.2.2) hTF2 (fun i hi s1 h9 => by by_cases z9 : i = v2w4; subst z9; rw [hsl9] at h9; cases h9; exact hAR; have g9 := hoth i s1 hi z9 h9; rw [rA_e g9.1, rA_e g9.1]; exact hx_9 i hi s1 h9) hW hF hT9 hO8 hO65 hO72 hP hD hS (lv_sub hl [0, 4, 5] rfl)
            · have hz := rfl (a := 0)
              have d_68 : ¬ f_66 ≤ 0 := lc_lef c_67
              have hpos := Int64.lt_iff_toInt_lt.mp (Int64.not_le.mp d_68)
              rw [hl1, show (0 : Int64).toInt = 0 from rfl] at hpos
              refine lv_aload_n hx hb dX0_settleStretches_81 rfl (lv_at hl 4 rfl) ?_
              refine lv_aload_n hx hb dX0_settleStretches_82 rfl (lv_at hl 2 rfl) ?_
              refine lv_aload hx hb dX0_settleStretches_83 (lv_at hl 1 rfl) ?_
              refine lv_lload hx hb dX0_settleStretches_85 (lv_at hl 0 rfl) ?_
              refine lv_aload_n hx hb dX0_settleStretches_87 rfl (lv_at hl 4 rfl) ?_
              refine lv_aload_n hx hb dX0_settleStretches_88 rfl (lv_at hl 2 rfl) ?_
              refine lv_aload hx hb dX0_settleStretches_89 (lv_at hl 1 rfl) ?_
              refine lv_lload hx hb dX0_settleStretches_91 (lv_at hl 0 rfl) ?_
              have hPc : va_P D vwCl ([] ++ va_pl L M_56) H_54 := hP
              have hDc : va_D A ([] ++ va_pl L M_56) := hD
              have hFc : ∀ q, va_A ([] ++ va_pl L M_56) H_54.size q → A q := pg_free hDc hS hA
              refine va_calll (va_runV (As := [.ref b_22, .ref b_29, .long f_66]) (rest := [.long f_66, .ref b_29, .ref b_22, .ref oa]) ⟨hx, hb, hml, hown, hg⟩ (e_sums l D cy K L M_56 H_54.size oa b_22 b_29 f_66 v24_0 v24_1 v24_2 v24_3 v24_4 v24_5 hW ia hb_23 hb_30 (fun q hq => by rw [hRY3.2.2.1.1 1 q (by decide) hq]; exact (htm9.2 q hq).2.1) (by rw [hl1]; omega) (fun q hq => by have h8 := hwgb q hq; have h7 := hinb q hq; rw [hdu2 q hq]; omega) hM_61 h24_0 h24_1) (cwV 3 hg (gV wd_268 wd_269 wd_270 wd_204 wd_271) rfl rfl rfl (by decide +kernel) ⟨(Nat.le_trans (Nat.le_of_ble_eq_true rfl) hRf), (Nat.le_trans (Nat.le_of_ble_eq_true rfl) hRl)⟩) ⟨PG.blind, pg_recv hK hP ia.1 hM_58 rfl, fun U hU hW => ⟨rfl, PG.at hPc hK hDc hN hU hW⟩⟩ rfl rfl hl.1 rfl (lv_room (Nat.le_of_ble_eq_true rfl)) dX0_settleStretches_93 ⟨(Nat.le_trans (Nat.le_of_ble_eq_true rfl) hRc), (Nat.le_trans (Nat.le_of_ble_eq_true rfl) hRs)⟩) hS (fun q _ h => hFc q h) hFc (fun r_82 M_83 t H_81 locs ht hvm hw hB hz1 hk1 hS => ?_)
              obtain ⟨hW, hF2, gO72, hVP, hp_84⟩ := hw
              obtain ⟨hP1, hD1⟩ := hB
              rw [ht] at hP1
              have hP : va_P D vwCl ([] ++ va_pl L M_83) H_81 := hP1
              have hD : va_D A ([] ++ va_pl L M_83) := hD1.mono hFc
              have hM_85 : M_83 oa = .inr (0, [.ref y0, .ref y1, .ref y2, .int (nI y3), .long y4]) := (hF2.at ia (by decide)).trans hM_58
              have hM_86 : M_83 k1 = .inr (2, [.int z0, .int z1, .int z2, .ref z3, .int (nI z4), .int (nI z5), .ref z6, .ref z7, .ref z8, .int (nI z9), .ref z10, .int (nI z11), .ref z12, .ref z13, .long z14, .int z15, .ref z16, .ref z17, .ref z18, .ref z19]) := (hF2.at ik1 (by decide)).trans hM_59
              have hM_87 : M_83 z16 = .inr (1, [.ref u0, .ref u1, .ref u2, .int (nI u3)]) := (hF2.at hz16 (by decide)).trans hM_60
              have hM_88 : M_83 b_22 = .inr (8, [.ref v24_0, .ref v24_1, .int v24_2, .int v24_3, .long v24_4, .long v24_5]) := (hF2.at hb_23 (by decide)).trans hM_61
              have hM_89 : M_83 b_29 = .inr (6, [.int v31_0, .int v31_1, .ref v31_2]) := (hF2.at hb_30 (by decide)).trans hM_62
              have hF : fr K L [7, 8, 9, 64, 65, 66, 68, 69, 70, 71, 72] M M_83 := hF.tr hF2 (by decide)
              have hO8 : ONL 8 K L (fun b => ∃ i : Nat, i < y3 ∧ RFc (M y0) i = some b) M M_83 := hO8.frr hF2 (by decide)
              have hO65 : ONL 65 K L (fun b => ∃ i s : Nat, i < y3 ∧ RFc (M y0) i = some s ∧ b = rA 8 M s 0) M M_83 := hO65.frr hF2 (by decide)
              have hO72 : ONL 72 K L (fun b => ∃ i s : Nat, i < y3 ∧ RFc (M y0) i = some s ∧ b = rA 8 M s 1) M M_83 := hO72.tr gO72 (fun x hx => by rw [hx]; exact ⟨v2w4, b_22, by omega, hsl9, ha1.symm⟩)
              have hT9 : fT 9 K L [11] M M_83 := hT9.frr hF2 (by decide)
              obtain ⟨vr_90, hr_92, c_91⟩ := hp_84
              have hq := Eq.symm hr_92
              subst hq
              have hJ8 : ONL 8 K L (fun x => x = b_22) M_10 M_83 := hJ8.frr hF2 (by decide)
              have hJ65 : ONL 65 K L (fun x => x = v24_0) M_10 M_83 := hJ65.frr hF2 (by decide)
              have hJ72 : ONL 72 K L (fun x => x = v24_1) M_10 M_83 := hJ72.tr gO72 (fun _ h => h)
              have hRY4 : RDY M_83 b_22 b_29 z16 (RFc (M z8)) PK PT X Y cr (boI PK PT X Y cr mn fd dn rs b0 v2w4) (fd v2w4) := hRY3.fr hWs hb_23 hb_30 hz16 hi9 hF2 (by decide)
              have hWs := hW
              have hpe : ∀ q : Nat, q < 6 → (sT M_56 b_22 q ≠ none ↔ (tsq X Y (fd v2w4)) q ≠ none) := fun q hq => SEC.hs hRY3.1 hq
              have hte : ∀ q : Nat, q < 6 → tR M_56 b_29 1 q = tmq Y (rlq Y (X 11).toNat (fd v2w4)) 1 q := fun q hq => hRY3.2.2.1.1 1 q (by decide) hq
              have hgv : (vr_90 : Int64).toInt = gvS (fun q => (tsq X Y (fd v2w4)) q ≠ none) (tmq Y (rlq Y (X 11).toNat (fd v2w4)) 1) (dl1 (mn v2w4) (wgS PK Y (tsq X Y (fd v2w4)) (rlq Y (X 11).toNat (fd v2w4)) (dn v2w4)) (inS X Y cr (tsq X Y (fd v2w4)) (rlq Y (X 11).toNat (fd v2w4)) (fd v2w4) (dn v2w4)) (rs v2w4)) 6 := by have h9 := c_91; rw [hl1, gvS_cg 6 hpe hte] at h9; exact h9
              have hdu3 : ∀ q : Nat, q < 6 → (LFc (M_83 v24_1) q).toInt = wgS PK Y (tsq X Y (fd v2w4)) (rlq Y (X 11).toNat (fd v2w4)) (dn v2w4) q + inS X Y cr (tsq X Y (fd v2w4)) (rlq Y (X 11).toNat (fd v2w4)) (fd v2w4) (dn v2w4) q + fxS (fun q => (tsq X Y (fd v2w4)) q ≠ none) (tmq Y (rlq Y (X 11).toNat (fd v2w4)) 1) (dl1 (mn v2w4) (wgS PK Y (tsq X Y (fd v2w4)) (rlq Y (X 11).toNat (fd v2w4)) (dn v2w4)) (inS X Y cr (tsq X Y (fd v2w4)) (rlq Y (X 11).toNat (fd v2w4)) (fd v2w4) (dn v2w4)) (rs v2w4)) q := fun q hq => by have h9 := hVP q hq; rw [hl1, fxS_cg (fun i hi => hpe i (by omega)) (fun i hi => hte i (by omega)), hdu2 q hq] at h9; exact h9
              have hgb := gvS_b (P := (fun q => (tsq X Y (fd v2w4)) q ≠ none)) (tm := tmq Y (rlq Y (X 11).toNat (fd v2w4)) 1) (left := dl1 (mn v2w4) (wgS PK Y (tsq X Y (fd v2w4)) (rlq Y (X 11).toNat (fd v2w4)) (dn v2w4)) (inS X Y cr (tsq X Y (fd v2w4)) (rlq Y (X 11).toNat (fd v2w4)) (fd v2w4) (dn v2w4)) (rs v2w4)) (by omega) 6 (fun i hi => (htm9.2 i hi).2.1.1)
              have hfxb : ∀ q : Nat, q < 6 → 0 ≤ fxS (fun q => (tsq X Y (fd v2w4)) q ≠ none) (tmq Y (rlq Y (X 11).toNat (fd v2w4)) 1) (dl1 (mn v2w4) (wgS PK Y (tsq X Y (fd v2w4)) (rlq Y (X 11).toNat (fd v2w4)) (dn v2w4)) (inS X Y cr (tsq X Y (fd v2w4)) (rlq Y (X 11).toNat (fd v2w4)) (fd v2w4) (dn v2w4)) (rs v2w4)) q ∧ fxS (fun q => (tsq X Y (fd v2w4)) q ≠ none) (tmq Y (rlq Y (X 11).toNat (fd v2w4)) 1) (dl1 (mn v2w4) (wgS PK Y (tsq X Y (fd v2w4)) (rlq Y (X 11).toNat (fd v2w4)) (dn v2w4)) (inS X Y cr (tsq X Y (fd v2w4)) (rlq Y (X 11).toNat (fd v2w4)) (fd v2w4) (dn v2w4)) (rs v2w4)) q ≤ dl1 (mn v2w4) (wgS PK Y (tsq X Y (fd v2w4)) (rlq Y (X 11).toNat (fd v2w4)) (dn v2w4)) (inS X Y cr (tsq X Y (fd v2w4)) (rlq Y (X 11).toNat (fd v2w4)) (fd v2w4) (dn v2w4)) (rs v2w4) := fun q hq => fxS_b (by omega) (fun i hi => (htm9.2 i (by omega)).2.1.1)
              refine lv_lsub hx hb dX0_settleStretches_96 ?_
              refine lv_topl (fun f_93 ef_93 => ?_)
              have hp1 : 0 < dl1 false (wgS PK Y (tsq X Y (fd v2w4)) (rlq Y (X 11).toNat (fd v2w4)) (dn v2w4)) (inS X Y cr (tsq X Y (fd v2w4)) (rlq Y (X 11).toNat (fd v2w4)) (fd v2w4) (dn v2w4)) (rs v2w4) := by rw [← hmn]; exact hpos
              have hl2 : (f_93 : Int64).toInt = dl2 (mn v2w4) (fun q => (tsq X Y (fd v2w4)) q ≠ none) (wgS PK Y (tsq X Y (fd v2w4)) (rlq Y (X 11).toNat (fd v2w4)) (dn v2w4)) (inS X Y cr (tsq X Y (fd v2w4)) (rlq Y (X 11).toNat (fd v2w4)) (fd v2w4) (dn v2w4)) (tmq Y (rlq Y (X 11).toNat (fd v2w4)) 1) (rs v2w4) := by have h9 := lS ef_93 (by rw [hl1, hgv]; omega) (by rw [hl1, hgv]; omega); rw [hl1, hgv] at h9; rw [h9, hmn]; exact (dl2_g hp1).symm
              have hl2b : 0 ≤ dl2 (mn v2w4) (fun q => (tsq X Y (fd v2w4)) q ≠ none) (wgS PK Y (tsq X Y (fd v2w4)) (rlq Y (X 11).toNat (fd v2w4)) (dn v2w4)) (inS X Y cr (tsq X Y (fd v2w4)) (rlq Y (X 11).toNat (fd v2w4)) (fd v2w4) (dn v2w4)) (tmq Y (rlq Y (X 11).toNat (fd v2w4)) 1) (rs v2w4) ∧ dl2 (mn v2w4) (fun q => (tsq X Y (fd v2w4)) q ≠ none) (wgS PK Y (tsq X Y (fd v2w4)) (rlq Y (X 11).toNat (fd v2w4)) (dn v2w4)) (inS X Y cr (tsq X Y (fd v2w4)) (rlq Y (X 11).toNat (fd v2w4)) (fd v2w4) (dn v2w4)) (tmq Y (rlq Y (X 11).toNat (fd v2w4)) 1) (rs v2w4) ≤ 200000000000000 := by rw [hmn, dl2_g hp1, ← hmn]; omega
              have hM4 := hM_88
              have hPc : va_P D vwCl ([] ++ va_pl L M_83) H_81 := hP
              have hDc : va_D A ([] ++ va_pl L M_83) := hD
              have hFc : ∀ q, va_A ([] ++ va_pl L M_83) H_81.size q → A q := pg_free hDc hS hA
              obtain ⟨v94_0, v94_1, v94_2, v94_3, v94_4, v94_5, hM94, h94_0, h94_1, h94_2, h94_3, h94_4, h94_5⟩ := hW.open_7 hy2
              refine va_callv (va_runV (As := [.ref b_22, .ref b_29, .long f_93]) (rest := []) ⟨hx, hb, hml, hown, hg⟩ (e_gain l D cy K L M_83 H_81.size oa b_22 b_29 f_93 y0 y1 y2 y3 y4 v24_0 v24_1 v24_2 v24_3 v24_4 v24_5 v94_0 v94_1 v94_2 v94_3 v94_4 v94_5 hW ia hb_23 hb_30 (fun q hq => by rw [hRY4.2.2.1.1 2 q (by decide) hq]; exact (htm9.2 q hq).2.2.1) (by rw [hl2]; omega) (fun q hq => by have h8 := hwgb q hq; have h7 := hinb q hq; have h6 := hfxb q hq; rw [hdu3 q hq]; omega) hM_85 hy0 hy1 hy2 hy3 hM_88 h24_0 h24_1 hM94 h94_0 h94_1 h94_2 h94_3 h94_4 h94_5) (cwV 3 hg (gV wd_272 wd_273 wd_274 wd_204 wd_275) rfl rfl rfl (by decide +kernel) ⟨(Nat.le_trans (Nat.le_of_ble_eq_true rfl) hRf), (Nat.le_trans (Nat.le_of_ble_eq_true rfl) hRl)⟩) ⟨PG.blind, pg_recv hK hP ia.1 hM_85 rfl, fun U hU hW => ⟨rfl, PG.at hPc hK hDc hN hU hW⟩⟩ rfl rfl hl.1 rfl (lv_room (Nat.le_of_ble_eq_true rfl)) dX0_settleStretches_97 ⟨(Nat.le_trans (Nat.le_of_ble_eq_true rfl) hRc), (Nat.le_trans (Nat.le_of_ble_eq_true rfl) hRs)⟩) hS (fun q _ h => hFc q h) hFc (fun M_97 t H_95 locs ht hvm hw hB hz1 hk1 hS => ?_)
              obtain ⟨hW, hF2, gO8, gO72, hVP, hp_98⟩ := hw
              obtain ⟨hP1, hD1⟩ := hB
              rw [ht] at hP1
              have hP : va_P D vwCl ([] ++ va_pl L M_97) H_95 := hP1
              have hD : va_D A ([] ++ va_pl L M_97) := hD1.mono hFc
              have hM_99 : M_97 oa = .inr (0, [.ref y0, .ref y1, .ref y2, .int (nI y3), .long y4]) := (hF2.at ia (by decide)).trans hM_85
              have hM_100 : M_97 k1 = .inr (2, [.int z0, .int z1, .int z2, .ref z3, .int (nI z4), .int (nI z5), .ref z6, .ref z7, .ref z8, .int (nI z9), .ref z10, .int (nI z11), .ref z12, .ref z13, .long z14, .int z15, .ref z16, .ref z17, .ref z18, .ref z19]) := (hF2.at ik1 (by decide)).trans hM_86
              have hM_101 : M_97 z16 = .inr (1, [.ref u0, .ref u1, .ref u2, .int (nI u3)]) := (hF2.at hz16 (by decide)).trans hM_87
              have hM_102 : M_97 b_29 = .inr (6, [.int v31_0, .int v31_1, .ref v31_2]) := (hF2.at hb_30 (by decide)).trans hM_89
              have hF : fr K L [7, 8, 9, 64, 65, 66, 68, 69, 70, 71, 72] M M_97 := hF.tr hF2 (by decide)
              have hO8 : ONL 8 K L (fun b => ∃ i : Nat, i < y3 ∧ RFc (M y0) i = some b) M M_97 := hO8.tr gO8 (fun x hx => by rw [hx]; exact ⟨v2w4, by omega, hsl9⟩)
              have hO65 : ONL 65 K L (fun b => ∃ i s : Nat, i < y3 ∧ RFc (M y0) i = some s ∧ b = rA 8 M s 0) M M_97 := hO65.frr hF2 (by decide)
              have hO72 : ONL 72 K L (fun b => ∃ i s : Nat, i < y3 ∧ RFc (M y0) i = some s ∧ b = rA 8 M s 1) M M_97 := hO72.tr gO72 (fun x hx => by rw [hx]; exact ⟨v2w4, b_22, by omega, hsl9, ha1.symm⟩)
              have hT9 : fT 9 K L [11] M M_97 := hT9.frr hF2 (by decide)
              have hJ8 : ONL 8 K L (fun x => x = b_22) M_10 M_97 := hJ8.tr gO8 (fun _ h => h)
              have hJ65 : ONL 65 K L (fun x => x = v24_0) M_10 M_97 := hJ65.frr hF2 (by decide)
              have hJ72 : ONL 72 K L (fun x => x = v24_1) M_10 M_97 := hJ72.tr gO72 (fun _ h => h)
              obtain ⟨hg1, v9, hM9, hv9⟩ := hVP
              have hwe : ∀ q : Nat, q < 6 → wtE M_83 b_22 b_29 2 q = wtS Y (tsq X Y (fd v2w4)) (rlq Y (X 11).toNat (fd v2w4)) 2 q := fun q hq => wtE_S hRY4.1 hRY4.2.2.1 (by decide) hq
              have hST : STC M_97 b_22 (fd v2w4) (dn v2w4) (rs v2w4) (seN PK PT X Y cr (mn v2w4) (fd v2w4) (dn v2w4) (rs v2w4) (boI PK PT X Y cr mn fd dn rs b0 v2w4)) (seD PK PT X Y cr (mn v2w4) (fd v2w4) (dn v2w4) (rs v2w4) (boI PK PT X Y cr mn fd dn rs b0 v2w4)) := ⟨by rw [cV_of (j := 2) hM9 rfl]; exact hd2, by rw [cV_of (j := 3) hM9 rfl]; exact hd3, by rw [cL_of (j := 4) hM9 rfl]; exact hd4, by rw [cL_of (j := 5) hM9 rfl, hv9, hl2, sumI_cg 6 hwe]; exact (dno_g hl2b.1).symm, fun q hq => by rw [rA_of (j := 1) hM9 rfl, hg1 q hq, hdu3 q hq, hl2, cutQ_cg hwe hq]; have h9 := dui_g (w3 := wtS Y (tsq X Y (fd v2w4)) (rlq Y (X 11).toNat (fd v2w4)) 3) (lim := lmS PK Y (tsq X Y (fd v2w4))) (rm := rmS PT Y (tsq X Y (fd v2w4)) (boI PK PT X Y cr mn fd dn rs b0 v2w4)) hq hp1 (by rw [← hmn]; exact hl2b.1) hw2; rw [← hmn] at h9; exact h9.symm⟩
              have hSF : SEC M_97 b_22 (RFc (M z8)) (tsq X Y (fd v2w4)) := hRY4.1.mv hM9 (by rw [hF2.at h24_0 (by decide)]) hM4
              have hTF2 : TNF M_97 (RFc (M z8)) PK PT X Y cr (boI PK PT X Y cr mn fd dn rs b0 (v2w4 + 1)) := (hRY4.2.1.fr hWs hF2 (by decide) (by decide) hi9).cgb (fun i _ => by show _ = _ + ofT X Y (fd v2w4) (seB PK PT X Y cr (mn v2w4) (fd v2w4) (dn v2w4) (rs v2w4) (boI PK PT X Y cr mn fd dn rs b0 v2w4)) i; rw [ofT_0 (fun q => dbr_g hl2b.1), Int.add_zero])
              have hAR : rA 8 M_97 b_22 0 = rA 8 M b_22 0 ∧ rA 8 M_97 b_22 1 = rA 8 M b_22 1 := ⟨by rw [rA_of (j := 0) hM9 rfl, ha0], by rw [rA_of (j := 1) hM9 rfl, ha1]⟩
              refine lv_goto (tgt := 120) hx hb dX0_settleStretches_100 (by decide) ?_
              have hoth : ∀ i s1, i < y3 → ¬ i = v2w4 → RFc (M y0) i = some s1 → M_97 s1 = M_10 s1 ∧ M_97 (rA 8 M_10 s1 0) = M_10 (rA 8 M_10 s1 0) ∧ M_97 (rA 8 M_10 s1 1) = M_10 (rA 8 M_10 s1 1) := fun i s1 hi hne h9 => by
                have is1 := hi8 i s1 hi h9
                have ne1 : s1 ≠ b_22 := fun w => hne (hSJ i v2w4 s1 hi (by omega) h9 (by rw [w]; exact hsl9))
                have aj := hAJ s1 b_22 is1 hb_23 ne1
                have hd := hx_9 i hi s1 h9
                have k8 := s8_k hW00 is1
                rw [← hd.1, ha0] at aj
                rw [← hd.2, ha1] at aj
                rw [← hd.1, ← hd.2] at k8
                exact ⟨hJ8.at is1 ne1, hJ65.at k8.1 aj.1, hJ72.at k8.2 aj.2⟩
              refine lv_iinc (v := (nI (v2w4 + 1))) (lv' := [(2, .int (nI (v2w4 + 1))), (5, .long f_66), (4, .ref b_29), (3, .ref b_22), (0, .ref oa), (1, .ref k1)]) hx hb dX0_settleStretches_120 hl (k := 3) rfl (nI_1 v2w4) (by decide) rfl (fun ls hl => ?_)
              refine lv_goto (tgt := 2) hx hb dX0_settleStretches_123 (by decide) ?_
              exact ih_2 (v2w4 + 1) M_97 H_95 _ _ (by omega) hM_99 hM_100 hM_101 (by omega) (fun i hi s1 h9 => by by_cases z9 : i = v2w4; subst z9; rw [hsl9] at h9; cases h9; exact ⟨hSF, hST⟩; have g9 := hoth i s1 (by omega) z9 h9; have g8 := hx_6 i (by omega) s1 h9; exact ⟨g8.1.e g9.1 g9.2.1, g8.2.e g9.1 g9.2.2⟩) (fun i h1 hi s1 h9 => by have g9 := hoth i s1 hi (by omega) h9; exact (hx_7 i (by omega) hi s1 h9).e g9.1 g9.2.2) hTF2 (fun i hi s1 h9 => by by_cases z9 : i = v2w4; subst z9; rw [hsl9] at h9; cases h9; exact hAR; have g9 := hoth i s1 hi z9 h9; rw [rA_e g9.1, rA_e g9.1]; exact hx_9 i hi s1 h9) hW hF hT9 hO8 hO65 hO72 hP hD hS (lv_sub hl [0, 4, 5] rfl)
  exact key_1 (120 - 0 + 1) 0 M s.heap _ _ (by omega) hMy hMz hMu (by omega) (fun i h => absurd h (Nat.not_lt_zero _)) (fun i _ hi s1 h9 => by obtain ⟨s2, g2, g3⟩ := hS0 i hi; rw [h9] at g2; cases g2; exact g3) hTF (fun i _ s1 _ => ⟨rfl, rfl⟩) hW hF hT9 hO8 hO65 hO72 hP hD hS (lv_sub hl [0, 1, 2] rfl)
