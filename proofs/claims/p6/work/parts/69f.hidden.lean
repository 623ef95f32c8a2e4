

theorem LFc_of {M : Hp} {a n : Nat} {c : ClassId} {f : Nat → Int64} (h : M a = .inl (c, n, .inr (.inl f))) : LFc (M a) = f := by
  rw [h]
  rfl
/-- tenure i sits in seat q and is in on day d -/
def tin (Y : Nat → Nat → Int32) (q d : Int) (i : Nat) : Prop := (Y 20 i).toInt = q ∧ (Y 21 i).toInt ≤ d ∧ ((Y 22 i).toInt = -1 ∨ d < (Y 22 i).toInt)
/-- of n rules k is the one that counts on day d -/
def RLN (Y : Nat → Nat → Int32) (n : Nat) (d : Int) (k : Nat) : Prop := k < n ∧ (Y 34 k).toInt ≤ d ∧ ∀ j : Nat, k < j → j < n → d < (Y 34 j).toInt
theorem RLN.un {Y : Nat → Nat → Int32} {n : Nat} {d : Int} {k k' : Nat} (h : RLN Y n d k) (g : RLN Y n d k') : k = k' := by
  rcases Nat.lt_trichotomy k k' with q | q | q
  · have h1 := h.2.2 k' q g.1
    have h2 := g.2.1
    omega
  · exact q
  · have h1 := g.2.2 k q h.1
    have h2 := h.2.1
    omega
theorem RLN.ex {Y : Nat → Nat → Int32} {d : Int} (h0 : (Y 34 0).toInt ≤ d) : ∀ n : Nat, 1 ≤ n → ∃ k, RLN Y n d k := by
  intro n
  induction n with
  | zero => intro h; omega
  | succ n ih =>
    intro _
    by_cases q : (Y 34 n).toInt ≤ d
    · exact ⟨n, Nat.lt_succ_self n, q, fun j g1 g2 => absurd g2 (by omega)⟩
    · by_cases z : n = 0
      · rw [z] at q
        exact absurd h0 q
      · obtain ⟨k, g1, g2, g3⟩ := ih (by omega)
        refine ⟨k, by omega, g2, fun j g4 g5 => ?_⟩
        by_cases w : j = n
        · rw [w]
          omega
        · exact g3 j g4 (by omega)
/-- a term of the rule that counts on day d -/
noncomputable def tonS (n : Nat) (Y : Nat → Nat → Int32) (d : Int) (w s : Int32) : Int32 := @dite Int32 (∃ k, RLN Y n d k) (Classical.propDecidable _) (fun h => if 0 ≤ s.toInt ∧ s.toInt < 6 ∧ 0 ≤ w.toInt ∧ w.toInt < 4 then Y 36 (24 * Classical.choose h + (6 * w.toNatClampNeg + s.toNatClampNeg)) else 0) (fun _ => 0)
theorem tonS_at {n : Nat} {Y : Nat → Nat → Int32} {d : Int} {w s : Int32} {k : Nat} (h : RLN Y n d k) : tonS n Y d w s = if 0 ≤ s.toInt ∧ s.toInt < 6 ∧ 0 ≤ w.toInt ∧ w.toInt < 4 then Y 36 (24 * k + (6 * w.toNatClampNeg + s.toNatClampNeg)) else 0 := by
  have hc : ∃ k, RLN Y n d k := ⟨k, h⟩
  unfold tonS
  rw [dif_pos hc, RLN.un (Classical.choose_spec hc) h]
theorem tonS_no {n : Nat} {Y : Nat → Nat → Int32} {d : Int} {w s : Int32} (h : ¬ ∃ k, RLN Y n d k) : tonS n Y d w s = 0 := by
  unfold tonS
  rw [dif_neg h]
/-- what ruleOn() has found among the first n rules -/
def RLO (M : Hp) (b : Nat) (d : Int) (n : Nat) (o : Option Nat) : Prop := (o = none ∧ ∀ j : Nat, j < n → d < (cax M b 34 j).toInt) ∨ ∃ q k, o = some q ∧ RFc (M (rA 2 M b 10)) k = some q ∧ RLN (cax M b) n d k
theorem RLO.fst {M : Hp} {b : Nat} {d : Int} : RLO M b d 0 none := Or.inl ⟨rfl, fun j h => absurd h (Nat.not_lt_zero _)⟩
theorem RLO.skip {M : Hp} {b : Nat} {d : Int} {n : Nat} {o : Option Nat} (h : RLO M b d n o) (hd : d < (cax M b 34 n).toInt) : RLO M b d (n + 1) o := by
  rcases h with ⟨e, h⟩ | ⟨q, k, e, h1, h2, h3, h4⟩
  · refine Or.inl ⟨e, fun j hj => ?_⟩
    by_cases z : j = n
    · rw [z]
      exact hd
    · exact h j (by omega)
  · refine Or.inr ⟨q, k, e, h1, Nat.lt_succ_of_lt h2, h3, fun j g1 g2 => ?_⟩
    by_cases z : j = n
    · rw [z]
      exact hd
    · exact h4 j g1 (by omega)
theorem RLO.take {M : Hp} {b : Nat} {d : Int} {n q : Nat} (hs : RFc (M (rA 2 M b 10)) n = some q) (hd : (cax M b 34 n).toInt ≤ d) : RLO M b d (n + 1) (some q) := Or.inr ⟨q, n, rfl, hs, Nat.lt_succ_self n, hd, fun j g1 g2 => absurd g2 (by omega)⟩
theorem RLO.ton0 {M : Hp} {b : Nat} {d : Int} {n : Nat} {w s : Int32} (h : RLO M b d n none) : tonS n (cax M b) d w s = 0 := by
  rcases h with ⟨_, h⟩ | ⟨q, k, e, _⟩
  · exact tonS_no (fun ⟨k, g1, g2, _⟩ => by
      have g3 := h k g1
      omega)
  · cases e
def trV (M : Hp) (q : Nat) (s w : Int32) : Int32 := if 0 ≤ s.toInt ∧ s.toInt < 6 ∧ 0 ≤ w.toInt ∧ w.toInt < 4 then IFc (M (rA 6 M q 2)) (6 * w.toNatClampNeg + s.toNatClampNeg) else 0
theorem RLO.ton1 {M : Hp} {b : Nat} {d : Int} {n q : Nat} {w s : Int32} (h : RLO M b d n (some q)) (hn : n ≤ 16) : tonS n (cax M b) d w s = trV M q s w := by
  rcases h with ⟨e, _⟩ | ⟨q', k, e, h1, h2⟩
  · cases e
  · cases e
    rw [tonS_at h2]
    unfold trV
    by_cases z : 0 ≤ s.toInt ∧ s.toInt < 6 ∧ 0 ≤ w.toInt ∧ w.toInt < 4
    · have hsn : (s.toNatClampNeg : Int) = s.toInt := clT z.1
      have hwn : (w.toNatClampNeg : Int) = w.toInt := clT z.2.2.1
      have hk := h2.1
      rw [if_pos z, if_pos z]
      exact (lk_ru h1 (by omega)).2.2 _ (by omega)
    · rw [if_neg z, if_neg z]
theorem ton2 {k : Nat} {y Y : Nat → Nat → Int32} {n : Nat} {d : Int} {s : Nat} (hcg : ∀ i : Nat, i < n → y 34 i = Y 34 i ∧ ∀ m : Nat, m < 24 → y 36 (24 * i + m) = Y 36 (24 * i + m)) (hk : RLN Y n d k) (hs : s < 6) : tonS n y d 2 (nI s) = Y 36 (24 * k + (6 * 2 + s)) := by
  have hk' : RLN y n d k := ⟨hk.1, by rw [(hcg k hk.1).1]; exact hk.2.1, fun j g1 g2 => by rw [(hcg j g2).1]; exact hk.2.2 j g1 g2⟩
  have hsi : (nI s).toInt = ((s : Nat) : Int) := nI_toInt (by omega)
  have hz : 0 ≤ (nI s).toInt ∧ (nI s).toInt < 6 ∧ 0 ≤ (2 : Int32).toInt ∧ (2 : Int32).toInt < 4 := ⟨by omega, by omega, by decide, by decide⟩
  rw [tonS_at hk', if_pos hz, nI_cl (t := s) (by omega), show (2 : Int32).toNatClampNeg = 2 from rfl]
  exact (hcg k hk.1).2 (6 * 2 + s) (by omega)
theorem SIM.tinS {k : Nat} {T : Int} {np : Nat} {PK PT : Nat → Int32} {x : Nat → Int} {y : Nat → Nat → Int32} {X : Nat → Int} {Y : Nat → Nat → Int32} (h : SIM k T np PK PT x y X Y) {i : Nat} {q d : Int} (hi : (i : Int) < X 10) : tin y q d i ↔ tin Y q d i := by
  have t := h.te i hi
  unfold tin
  rw [t.2.1, t.2.2.1, t.2.2.2.1]
/-- one in a seat below s gets some by rule k -/
def gts (X : Nat → Int) (Y : Nat → Nat → Int32) (d : Int) (k s : Nat) : Prop := ∃ q : Nat, q < s ∧ (∃ i : Nat, (i : Int) < X 10 ∧ tin Y (q : Int) d i) ∧ 0 < (Y 36 (24 * k + (6 * 2 + q))).toInt
theorem gts_0 {X : Nat → Int} {Y : Nat → Nat → Int32} {d : Int} {k : Nat} : ¬ gts X Y d k 0 := fun ⟨_, h, _⟩ => absurd h (Nat.not_lt_zero _)
theorem gts_1 {X : Nat → Int} {Y : Nat → Nat → Int32} {d : Int} {k s : Nat} : gts X Y d k (s + 1) ↔ gts X Y d k s ∨ ((∃ i : Nat, (i : Int) < X 10 ∧ tin Y (s : Int) d i) ∧ 0 < (Y 36 (24 * k + (6 * 2 + s))).toInt) := by
  constructor
  · intro ⟨q, h1, h2, h3⟩
    by_cases z : q = s
    · rw [z] at h2 h3
      exact Or.inr ⟨h2, h3⟩
    · exact Or.inl ⟨q, by omega, h2, h3⟩
  · intro h
    rcases h with ⟨q, h1, h2⟩ | h
    · exact ⟨q, Nat.lt_succ_of_lt h1, h2⟩
    · exact ⟨s, Nat.lt_succ_self s, h⟩
def sumL (f : Nat → Int64) : Nat → Int64
  | 0 => 0
  | n + 1 => sumL f n + f n
theorem sumL_cg {f g : Nat → Int64} : ∀ n, (∀ j, j < n → f j = g j) → sumL f n = sumL g n := by
  intro n
  induction n with
  | zero => intro _; rfl
  | succ n ih =>
    intro h
    show sumL f n + f n = sumL g n + g n
    rw [ih (fun j hj => h j (Nat.lt_succ_of_lt hj)), h n (Nat.lt_succ_self n)]
/-- the weights of those in the seats below s: c of them in f -/
def HWS (X : Nat → Int) (Y : Nat → Nat → Int32) (d : Int) (k : Nat) (f : Nat → Int64) (c s : Nat) : Prop := 0 ≤ (sumL f c).toInt ∧ (sumL f c).toInt ≤ 1000000000 * (s : Int) ∧ (0 < (sumL f c).toInt ↔ gts X Y d k s)
theorem HWS.fst {X : Nat → Int} {Y : Nat → Nat → Int32} {d : Int} {k : Nat} {f : Nat → Int64} : HWS X Y d k f 0 0 := by
  have e : (sumL f 0).toInt = 0 := rfl
  refine ⟨by omega, by omega, fun h => ?_, fun h => absurd h gts_0⟩
  rw [e] at h
  exact absurd h (by decide)
theorem HWS.no {X : Nat → Int} {Y : Nat → Nat → Int32} {d : Int} {k : Nat} {f : Nat → Int64} {c s : Nat} (h : HWS X Y d k f c s) (hn : ∀ i : Nat, (i : Int) < X 10 → ¬ tin Y (s : Int) d i) : HWS X Y d k f c (s + 1) := by
  obtain ⟨h1, h2, h3⟩ := h
  refine ⟨h1, by omega, ?_⟩
  rw [h3, gts_1]
  exact ⟨Or.inl, fun q => q.resolve_right (fun ⟨⟨i, g1, g2⟩, _⟩ => hn i g1 g2)⟩
theorem HWS.add {X : Nat → Int} {Y : Nat → Nat → Int32} {d : Int} {k : Nat} {f : Nat → Int64} {c s i : Nat} {w : Int64} (h : HWS X Y d k f c s) (hi : (i : Int) < X 10) (ht : tin Y (s : Int) d i) (hw : w.toInt = (Y 36 (24 * k + (6 * 2 + s))).toInt) (h0 : 0 ≤ (Y 36 (24 * k + (6 * 2 + s))).toInt ∧ (Y 36 (24 * k + (6 * 2 + s))).toInt ≤ 1000000000) (hs : s < 6) : HWS X Y d k (vp_updL f c w) (c + 1) (s + 1) := by
  obtain ⟨h1, h2, h3⟩ := h
  rw [← hw] at h0
  have e : sumL (vp_updL f c w) (c + 1) = sumL f c + w := by
    show sumL (vp_updL f c w) c + vp_updL f c w c = _
    have e0 : sumL (vp_updL f c w) c = sumL f c := sumL_cg c (fun j hj => vp_updL_ne f w (Nat.ne_of_lt hj))
    rw [vp_updL_self, e0]
  have e2 : (sumL f c + w).toInt = (sumL f c).toInt + w.toInt := by
    rw [Int64.toInt_add]
    apply Int.bmod_eq_of_le <;> omega
  refine ⟨by rw [e, e2]; omega, by rw [e, e2]; omega, ?_⟩
  rw [e, e2, gts_1, ← h3, ← hw]
  constructor
  · intro q
    by_cases z : 0 < (sumL f c).toInt
    · exact Or.inl z
    · exact Or.inr ⟨⟨i, hi, ht⟩, by omega⟩
  · intro q
    rcases q with q | ⟨_, q⟩ <;> omega
theorem HWS.cut {X : Nat → Int} {Y : Nat → Nat → Int32} {d : Int} {k : Nat} {f : Nat → Int64} {c : Nat} {v z : Int64} (h : HWS X Y d k f c 6) (e : v = if (sumL f c).toInt ≤ 0 then 0 else z) : (¬ gts X Y d k 6 ∧ v = 0) ∨ (gts X Y d k 6 ∧ v = z) := by
  by_cases q : (sumL f c).toInt ≤ 0
  · rw [if_pos q] at e
    exact Or.inl ⟨fun w => absurd (h.2.2.mpr w) (by omega), e⟩
  · rw [if_neg q] at e
    exact Or.inr ⟨h.2.2.mp (by omega), e⟩
/-- whether anybody gets some of what is found on day d -/
def getsH (X : Nat → Int) (Y : Nat → Nat → Int32) (d : Int) : Prop := ∃ k, RLN Y (X 11).toNat d k ∧ gts X Y d k 6
def okHi (n : Nat) (SX : Nat → Nat → Int) (h d s : Int32) : Prop := okH n h ∧ 1 ≤ SX h.toNatClampNeg 11 ∧ 1 ≤ s.toInt ∧ s.toInt ≤ 1000000000 ∧ SX h.toNatClampNeg 0 ≤ d.toInt ∧ d.toInt < 1000
noncomputable def hidS (X : Nat → Int) (Y : Nat → Nat → Int32) (d : Int) (s : Int32) : Int32 := @ite Int32 (getsH X Y d) (Classical.propDecidable _) s 0
noncomputable def anHi (n : Nat) (SX : Nat → Nat → Int) (SY : Nat → Nat → Nat → Int32) (h d s : Int32) : Int32 := @ite Int32 (okHi n SX h d s) (Classical.propDecidable _) (hidS (SX h.toNatClampNeg) (SY h.toNatClampNeg) d.toInt s) (-1)
theorem hid_y {X : Nat → Int} {Y : Nat → Nat → Int32} {d : Int} {s : Int32} {k : Nat} (hk : RLN Y (X 11).toNat d k) (h : gts X Y d k 6) : s = hidS X Y d s := (if_pos (⟨k, hk, h⟩ : getsH X Y d)).symm
theorem hid_n {X : Nat → Int} {Y : Nat → Nat → Int32} {d : Int} {s : Int32} {k : Nat} (hk : RLN Y (X 11).toNat d k) (h : ¬ gts X Y d k 6) : 0 = hidS X Y d s := (if_neg (fun (q : getsH X Y d) => by
  obtain ⟨k', g1, g2⟩ := q
  rw [RLN.un g1 hk] at g2
  exact h g2)).symm
theorem hi_an {X : Nat → Int} {Y : Nat → Nat → Int32} {d : Int} {r s : Int32} {v : Int64} {k : Nat} (hk : RLN Y (X 11).toNat d k) (h : (¬ gts X Y d k 6 ∧ v = 0) ∨ (gts X Y d k 6 ∧ v = s.toInt64)) (e : r = v.toInt32) : r = hidS X Y d s := by
  rcases h with ⟨h1, h2⟩ | ⟨h1, h2⟩
  · rw [e, h2]
    exact hid_n hk h1
  · rw [e, h2, Int32.toInt32_toInt64]
    exact hid_y hk h1
/-- the terms aren't negative, and how large they may be -/
def TNN (n : Nat) (SX : Nat → Nat → Int) (SY : Nat → Nat → Nat → Int32) : Prop := ∀ k, k < n → ∀ i : Nat, (i : Int) < SX k 11 → ∀ m : Nat, m < 24 → 0 ≤ (SY k 36 (24 * i + m)).toInt ∧ (SY k 36 (24 * i + m)).toInt ≤ 1000000000 ∧ (12 ≤ m → (SY k 36 (24 * i + m)).toInt ≤ 1000)
theorem TNN.cg {n : Nat} {SX SX' : Nat → Nat → Int} {SY SY' : Nat → Nat → Nat → Int32} (h : TNN n SX SY) (hx : ∀ k, SX' k 11 = SX k 11) (hy : ∀ k, SY' k 36 = SY k 36) : TNN n SX' SY' := fun k hk i hi m hm => by
  rw [hx k] at hi
  rw [hy k]
  exact h k hk i hi m hm
theorem iteR {α : Type} {P : Prop} {d : Decidable P} {a b : Nat → Nat → α} {j r : Nat} {c : α} (h : a j r = c) (g : b j r = c) : (@ite _ P d a b) j r = c := by
  by_cases q : P
  · rw [if_pos q]
    exact h
  · rw [if_neg q]
    exact g
theorem vaR {α : Type} {S : Nat → Nat → α} {k r : Nat} {X : Nat → α} (h : X r = S k r) (j : Nat) : va_up S k X j r = S j r := by
  by_cases z : j = k
  · rw [z, va_up_self]
    exact h
  · rw [va_up_ne _ _ z]
theorem TNN.term {n : Nat} {SX : Nat → Nat → Int} {SY : Nat → Nat → Nat → Int32} {h s w v : Int32} (hT : TNN n SX SY) : TNN n SX (syTm n SX SY h s w v) := by
  unfold syTm
  by_cases q : okTm n SX SY h s w v
  · rw [if_pos q]
    obtain ⟨_, q2, q3, q4, q5, q6, q7, _, _⟩ := q
    intro k hk i hi m hm
    by_cases z : k = h.toNatClampNeg
    · rw [z] at hk hi ⊢
      rw [va_up_self]
      by_cases z4 : w.toInt = 4
      · rw [if_pos z4, va_up_ne _ _ (show (36 : Nat) ≠ 35 by decide)]
        exact hT _ hk i hi m hm
      · rw [if_neg z4, va_up_self]
        have hv : v.toInt ≤ 1000000000 ∧ (2 ≤ w.toInt → v.toInt ≤ 1000) := by
          unfold mostI at q7
          by_cases w0 : w.toInt = 0
          · rw [if_pos w0] at q7
            exact ⟨by omega, fun _ => by omega⟩
          · rw [if_neg w0] at q7
            by_cases w1 : w.toInt = 1
            · rw [if_pos w1] at q7
              exact ⟨by omega, fun _ => by omega⟩
            · rw [if_neg w1, if_neg z4] at q7
              exact ⟨by omega, fun _ => q7⟩
        by_cases y : 24 * i + m = 24 * (SX h.toNatClampNeg 11 - 1).toNat + (6 * w.toNatClampNeg + s.toNatClampNeg)
        · have hs := q3.resolve_left z4
          have hsn : (s.toNatClampNeg : Int) = s.toInt := clT hs.1
          have hwn : (w.toNatClampNeg : Int) = w.toInt := clT q4
          rw [y, upd_self]
          exact ⟨q6, hv.1, fun g => hv.2 (by omega)⟩
        · rw [upd_ne _ _ y]
          exact hT _ hk i hi m hm
    · rw [va_up_ne _ _ z]
      exact hT k hk i hi m hm
  · rw [if_neg q]
    exact hT
theorem TNN.rule {n : Nat} {SX : Nat → Nat → Int} {SY : Nat → Nat → Nat → Int32} {h d : Int32} {g9 : Nat → Int32} (hT : TNN n SX SY) (hg : okRu n SX SY h d → RUG (SX h.toNatClampNeg) (SY h.toNatClampNeg) g9) (h0 : ∀ k, k < n → 0 ≤ SX k 11) : TNN n (sxRu n SX SY h d) (syRu n SX SY h d g9) := by
  unfold sxRu syRu
  by_cases q : okRu n SX SY h d
  · rw [if_pos q, if_pos q]
    have hg := hg q
    intro k hk i hi m hm
    by_cases z : k = h.toNatClampNeg
    · rw [z] at hk hi ⊢
      rw [va_up_self, va_up_self] at hi
      rw [va_up_self, va_up_self]
      have g0 := h0 _ hk
      by_cases y : (i : Int) < SX h.toNatClampNeg 11
      · rw [hg.1 (24 * i + m) (by omega)]
        exact hT _ hk i y m hm
      · have ei : i = (SX h.toNatClampNeg 11).toNat := by omega
        rw [ei, hg.2 m hm]
        unfold trS
        by_cases w : SX h.toNatClampNeg 11 = 0
        · rw [if_pos w]
          exact ⟨by decide, by decide, fun _ => by decide⟩
        · rw [if_neg w]
          exact hT _ hk _ (by omega) m hm
    · rw [va_up_ne _ _ z] at hi ⊢
      exact hT k hk i hi m hm
  · rw [if_neg q, if_neg q]
    exact hT
theorem TNN.house {n : Nat} {SX : Nat → Nat → Int} {SY : Nat → Nat → Nat → Int32} {k1 : Int32} {X : Nat → Int} {Y : Nat → Nat → Int32} (hT : TNN n SX SY) (hn : n ≤ 8) (hg : okHo n k1 → HOUSF k1 X Y) : TNN (cntH k1 n) (sxHo n SX k1 X) (syHo n SY k1 Y) := by
  unfold sxHo syHo
  by_cases q : okHo n k1
  · rw [if_pos q, if_pos q]
    have hg := (hg q).2.2.1.2.1
    intro k hk i hi m hm
    by_cases z : k = n
    · rw [z, va_up_self, hg] at hi
      exact absurd hi (by omega)
    · rw [va_up_ne _ _ z] at hi ⊢
      have hc : cntH k1 n ≤ n + 1 := by
        unfold cntH
        (repeat' split) <;> omega
      exact hT k (by omega) i hi m hm
  · rw [if_neg q, if_neg q]
    have hc : cntH k1 n ≤ n := by
      unfold cntH
      by_cases a : k1 < 0
      · rw [if_pos a]
        exact Nat.le_refl n
      · rw [if_neg a]
        by_cases b : k1 ≤ 900
        · rw [if_pos b]
          by_cases c : n = 8
          · rw [if_pos c]
            exact Nat.le_refl n
          · have a1 := Int32.le_iff_toInt_le.mp (Int32.not_lt.mp a)
            have b1 := Int32.le_iff_toInt_le.mp b
            rw [show (0 : Int32).toInt = 0 from rfl] at a1
            rw [show (900 : Int32).toInt = 900 from rfl] at b1
            exact absurd (show okHo n k1 from ⟨a1, b1, by omega⟩) q
        · rw [if_neg b]
          exact Nat.le_refl n
    exact fun k hk => hT k (by omega)
theorem TNN.close {n : Nat} {PK PT : Nat → Int32} {SX : Nat → Nat → Int} {SY : Nat → Nat → Nat → Int32} {h : Int32} {e : Int} {X : Nat → Int} {Y : Nat → Nat → Int32} (hT : TNN n SX SY) (hg : okCl n PK PT SX SY h → CLF e (SX h.toNatClampNeg) (SY h.toNatClampNeg) X Y) : TNN n (sxCl n PK PT SX SY h X) (syCl n PK PT SX SY h Y) := by
  unfold sxCl syCl
  by_cases q : okCl n PK PT SX SY h
  · rw [if_pos q, if_pos q]
    obtain ⟨_, _, _, g11, _, _, _, _, _, _, gY, _, _⟩ := hg q
    exact hT.cg (fun k => vaR g11 k) (fun k => vaR (gY 36 (by decide) (by decide) (by decide) (by decide) (by decide) (by decide)) k)
  · rw [if_neg q, if_neg q]
    exact hT
/-- who holds those that are in, seat by seat: all of the seats below s, and in seat s those below t -/
def PRS (X : Nat → Int) (Y : Nat → Nat → Int32) (d : Int) (f : Nat → Int32) (c s t : Nat) : Prop := (∀ j : Nat, j < c → ∃ i q : Nat, f j = nI i ∧ (i : Int) < X 10 ∧ q < 6 ∧ tin Y (q : Int) d i ∧ (q < s ∨ (q = s ∧ i < t))) ∧ ∀ i q : Nat, (i : Int) < X 10 → (q < s ∨ (q = s ∧ i < t)) → tin Y (q : Int) d i → ∃ j : Nat, j < c ∧ f j = nI i
theorem PRS.fst {X : Nat → Int} {Y : Nat → Nat → Int32} {d : Int} {f : Nat → Int32} : PRS X Y d f 0 0 0 := ⟨fun j h => absurd h (Nat.not_lt_zero _), fun i q _ h => absurd h (by omega)⟩
theorem PRS.no {X : Nat → Int} {Y : Nat → Nat → Int32} {d : Int} {f : Nat → Int32} {c s t : Nat} (h : PRS X Y d f c s t) (hn : ¬ tin Y (s : Int) d t) : PRS X Y d f c s (t + 1) := by
  obtain ⟨h1, h2⟩ := h
  refine ⟨fun j hj => ?_, fun i q hi hq ht => ?_⟩
  · obtain ⟨i, q, g1, g2, g3, g4, g5⟩ := h1 j hj
    exact ⟨i, q, g1, g2, g3, g4, by omega⟩
  · by_cases z : q = s ∧ i = t
    · rw [z.1, z.2] at ht
      exact absurd ht hn
    · exact h2 i q hi (by omega) ht
theorem PRS.yes {X : Nat → Int} {Y : Nat → Nat → Int32} {d : Int} {f f' : Nat → Int32} {c s t : Nat} (h : PRS X Y d f c s t) (ef : f' = upd f c (nI t)) (hs : s < 6) (ht : (t : Int) < X 10) (hn : tin Y (s : Int) d t) : PRS X Y d f' (c + 1) s (t + 1) := by
  obtain ⟨h1, h2⟩ := h
  rw [ef]
  refine ⟨fun j hj => ?_, fun i q hi hq hw => ?_⟩
  · by_cases z : j = c
    · rw [z, upd_self]
      exact ⟨t, s, rfl, ht, hs, hn, by omega⟩
    · rw [upd_ne _ _ z]
      obtain ⟨i, q, g1, g2, g3, g4, g5⟩ := h1 j (by omega)
      exact ⟨i, q, g1, g2, g3, g4, by omega⟩
  · by_cases z : q = s ∧ i = t
    · refine ⟨c, Nat.lt_succ_self c, ?_⟩
      rw [upd_self, z.2]
    · obtain ⟨j, g1, g2⟩ := h2 i q hi (by omega) hw
      exact ⟨j, Nat.lt_succ_of_lt g1, by rw [upd_ne _ _ (Nat.ne_of_lt g1)]; exact g2⟩
theorem PRS.out {X : Nat → Int} {Y : Nat → Nat → Int32} {d : Int} {f : Nat → Int32} {c s t : Nat} (h : PRS X Y d f c s t) (ht : X 10 ≤ (t : Int)) : PRS X Y d f c (s + 1) 0 := by
  obtain ⟨h1, h2⟩ := h
  refine ⟨fun j hj => ?_, fun i q hi hq hw => h2 i q hi (by omega) hw⟩
  obtain ⟨i, q, g1, g2, g3, g4, g5⟩ := h1 j hj
  exact ⟨i, q, g1, g2, g3, g4, by omega⟩
/-- the weights of those in f, up to m of them -/
def WGP (Y : Nat → Nat → Int32) (f g : Nat → Int32) (k w m : Nat) : Prop := ∀ j : Nat, j < m → ∀ i : Nat, i < 24 → f j = nI i → ∃ q : Nat, q < 6 ∧ Y 20 i = nI q ∧ g j = Y 36 ((4 * k + w) * 6 + q)
def ANYW (g : Nat → Int32) (m : Nat) : Prop := ∃ j : Nat, j < m ∧ 0 < (g j).toInt
theorem PRS.at {X : Nat → Int} {Y : Nat → Nat → Int32} {d : Int} {f g : Nat → Int32} {m k j : Nat} (hP : PRS X Y d f m 6 0) (hG : WGP Y f g k 2 m) (hX : X 10 ≤ 24) (hj : j < m) : ∃ i q : Nat, (i : Int) < X 10 ∧ q < 6 ∧ tin Y (q : Int) d i ∧ g j = Y 36 (24 * k + (6 * 2 + q)) := by
  obtain ⟨i, q, g1, g2, g3, g4, g5⟩ := hP.1 j hj
  obtain ⟨q', e1, e2, e3⟩ := hG j hj i (by omega) g1
  have e4 := g4.1
  rw [e2, nI_toInt (by omega)] at e4
  have e5 : q' = q := by omega
  rw [e5] at e3
  exact ⟨i, q, g2, g3, g4, by rw [e3, show (4 * k + 2) * 6 + q = 24 * k + (6 * 2 + q) by omega]⟩
theorem PRS.any {X : Nat → Int} {Y : Nat → Nat → Int32} {d : Int} {f g : Nat → Int32} {m k : Nat} (hP : PRS X Y d f m 6 0) (hG : WGP Y f g k 2 m) (hX : X 10 ≤ 24) : ANYW g m ↔ gts X Y d k 6 := by
  constructor
  · intro ⟨j, hj, h0⟩
    obtain ⟨i, q, g1, g2, g3, g4⟩ := hP.at hG hX hj
    rw [g4] at h0
    exact ⟨q, g2, ⟨i, g1, g3⟩, h0⟩
  · intro ⟨q, h1, ⟨i, h2, h3⟩, h4⟩
    obtain ⟨j, g1, g2⟩ := hP.2 i q h2 (Or.inl h1) h3
    obtain ⟨q', e1, e2, e3⟩ := hG j g1 i (by omega) g2
    have e4 := h3.1
    rw [e2, nI_toInt (by omega)] at e4
    have e5 : q' = q := by omega
    rw [e5, show (4 * k + 2) * 6 + q = 24 * k + (6 * 2 + q) by omega] at e3
    exact ⟨j, g1, by rw [e3]; exact h4⟩
/-- the sum t of the first n weights -/
def ZWS (g : Nat → Int32) (t : Int64) (n : Nat) : Prop := 0 ≤ t.toInt ∧ t.toInt ≤ 1000000000 * (n : Int) ∧ (0 < t.toInt ↔ ANYW g n)
theorem ZWS.fst {g : Nat → Int32} : ZWS g 0 0 := ⟨by decide, by decide, ⟨fun h => absurd h (by decide), fun ⟨_, h, _⟩ => absurd h (Nat.not_lt_zero _)⟩⟩
theorem ZWS.nxt {g : Nat → Int32} {t t' u : Int64} {n : Nat} (h : ZWS g t n) (et : t' = t + u) (eu : u = (g n).toInt64) (hb : 0 ≤ (g n).toInt ∧ (g n).toInt ≤ 1000000000) (hn : n < 24) : ZWS g t' (n + 1) := by
  obtain ⟨h1, h2, h3⟩ := h
  have e : t'.toInt = t.toInt + (g n).toInt := by
    rw [et, eu, Int64.toInt_add, Int32.toInt_toInt64]
    apply Int.bmod_eq_of_le <;> omega
  refine ⟨by omega, by omega, ?_⟩
  rw [e]
  constructor
  · intro q
    by_cases z : 0 < (g n).toInt
    · exact ⟨n, Nat.lt_succ_self n, z⟩
    · obtain ⟨j, g1, g2⟩ := h3.mp (by omega)
      exact ⟨j, Nat.lt_succ_of_lt g1, g2⟩
  · intro ⟨j, g1, g2⟩
    by_cases z : j = n
    · rw [z] at g2
      omega
    · have g3 := h3.mpr ⟨j, by omega, g2⟩
      omega
theorem ZWS.zero {g : Nat → Int32} {t : Int64} {n : Nat} (h : ZWS g t n) (e : t = 0) : ¬ ANYW g n := fun w => by
  have h1 := h.2.2.mpr w
  rw [e] at h1
  exact absurd h1 (by decide)
theorem ZWS.pos {g : Nat → Int32} {t : Int64} {n : Nat} (h : ZWS g t n) (e : ¬ t = 0) : ANYW g n := h.2.2.mp (by
  have h1 := h.1
  by_cases z : t.toInt = 0
  · exact absurd (Int64.toInt.inj (z.trans (show (0 : Int) = (0 : Int64).toInt from rfl))) e
  · omega)
set_option maxHeartbeats 4000000 in
set_option maxRecDepth 100000 in
theorem e_tenureIn (l : Launch) (D : va_G) (cy : Nat → ClassId) (K : Kp) (L : List Nat) (M : Hp) (sz : Nat) (oa : Nat) (k1 : Int32) (k2 : Int32) (hW : WOK cy K L M) (ia : isk K L oa 2 0) (h28 : (∀ i : Nat, (i : Int) < cfx M oa 10 → cax M oa 28 i = 1)) : Met l yX2_tenureIn (wsM yX2_tenureIn cX2_tenureIn 5 (some (.object "PartnersBook$Tenure"))) ({ frames := 1, cells := 0, slots := 0, locals := 21 }) (va_Pc [.ref oa, .int k1, .int k2] (PG D cy [] L M sz)) (va_Qq (fun (r : Option Nat) (_ : Unit) => iskN K L r 9 0 ∧ (∀ t, r = some t → ∃ i : Nat, (i : Int) < cfx M oa 10 ∧ tin (cax M oa) k1.toInt k2.toInt i) ∧ (r = none → ∀ i : Nat, (i : Int) < cfx M oa 10 → ¬ tin (cax M oa) k1.toInt k2.toInt i)) (fun _ t => PQ D [] L M (va_A ([] ++ va_pl L M) sz) t) (va_A ([] ++ va_pl L M) sz)) 0 0 (va_A ([] ++ va_pl L M) sz) := by
  refine Met.ofW (cc := cX2_tenureIn) (maxL := 5) (ret := (some (.object "PartnersBook$Tenure"))) (by decide) rfl ?_
  intro p e s m args below meth c s₁ B hml hv
  obtain ⟨rfl, hsz, hP, hK, hD0, hN⟩ := hv
  have hx := B.exec
  have hb := B.bytes
  have hr := B.returns
  have hts := atoms_spec (ws := (wsM yX2_tenureIn cX2_tenureIn 5 (some (.object "PartnersBook$Tenure")))) B.pre
  have hg : ∀ w ∈ lw_good, w.before _ s = true := fun w h => hts w (List.mem_cons_of_mem _ h)
  have hown : s.vm.findClass RX2 = some m.cls := findClass_of_methodNamed B.named
  have hlocks := B.notSynchronized
  subst hsz
  have hD := hD0.self (sz := s.heap.size)
  generalize hAe : va_A ([] ++ va_pl L M) s.heap.size = A at hD ⊢
  have hA : ∀ q : Nat, s.heap.size ≤ q → A q := fun q h => by rw [← hAe]; exact Or.inr h
  have hS : va_S A s.heap s.heap [] := va_S.rf
  have hl := lv_entry ([.ref oa, .int k1, .int k2]) (n := 5) (Nat.le_of_ble_eq_true rfl)
  rw [lg_entry_eq]
  generalize (lg_sl ([.ref oa, .int k1, .int k2]) ++ List.replicate (5 - (lg_sl ([.ref oa, .int k1, .int k2])).length) Slot.unset).toArray = ls at hl ⊢
  refine W.nameQ (fun Q hQ => ?_)
  refine W.nameR (fun R hR => ?_)
  have hRf : 1 ≤ R.frames := by rw [hR]; exact Nat.le_of_ble_eq_true rfl
  have hRl : 21 ≤ R.locals := by rw [hR]; exact Nat.le_of_ble_eq_true rfl
  have hRc : 0 ≤ R.cells := by rw [hR]; exact Nat.le_of_ble_eq_true rfl
  have hRs : 0 ≤ R.slots := by rw [hR]; exact Nat.le_of_ble_eq_true rfl
  have hl : lv_has ls 5 [(0, .ref oa), (1, .int k1), (2, .int k2)] := hl
  obtain ⟨v1_0, v1_1, v1_2, v1_3, v1_4, v1_5, v1_6, v1_7, v1_8, v1_9, v1_10, v1_11, v1_12, v1_13, v1_14, v1_15, v1_16, v1_17, v1_18, v1_19, hM1, h1_3, h1_4, h1_5, h1_6, h1_7, h1_8, h1_9, h1_10, h1_11, h1_12, h1_13, h1_16, h1_17, h1_18, h1_19⟩ := hW.open_2 ia
  have hc10 : ((v1_9 : Nat) : Int) = cfx M oa 10 := by show _ = (cV 2 M oa 9).toInt; rw [cV_of (j := 9) hM1 rfl, nI_toInt (by omega)]
  have hcc10 : (cV 2 M oa 9).toInt = ((v1_9 : Nat) : Int) := by rw [cV_of (j := 9) hM1 rfl, nI_toInt (by omega)]
  refine lv_iconst (v := 0) hx hb dX2_tenureIn_0 (by decide) ?_
  refine lv_istore_n (lv' := [(3, .int 0), (0, .ref oa), (1, .int k1), (2, .int k2)]) hx hb dX2_tenureIn_1 rfl hl (by decide) rfl (fun ls hl => ?_)
  have key_2 : ∀ (fu_4 : Nat) (v3w5 : Nat) (H_8 : Heap) (locs : List Loc) (ls : Array Slot), 24 - v3w5 < fu_4 → v3w5 ≤ 24 → (∀ i : Nat, i < v3w5 → ¬ tin (cax M oa) k1.toInt k2.toInt i) → WOK cy K L M → va_P D vwCl ([] ++ va_pl L M) H_8 → va_D A ([] ++ va_pl L M) → va_S A s.heap H_8 locs → lv_has ls 5 [(3, .int (nI v3w5)), (0, .ref oa), (1, .int k1), (2, .int k2)] → W p l e R s m ([.ref oa, .int k1, .int k2] : List Value).toArray below meth c H_8 locs 0 0 Q (F0 m 2 ls []) := by
    intro fu_4
    induction fu_4 with
    | zero => intro v3w5 H_8 locs ls h; exact absurd h (Nat.not_lt_zero _)
    | succ fu_4 ih_3 =>
      intro v3w5 H_8 locs ls hfu hx_6 hx_7 hW hP hD hS hl
      refine lv_iload_n hx hb dX2_tenureIn_2 rfl (lv_at hl 0 rfl) ?_
      refine lv_aload_n hx hb dX2_tenureIn_3 rfl (lv_at hl 1 rfl) ?_
      refine pg_get (D := D) (ci := 2) (v := .int (nI v1_9)) (C := RX2) (T := TX2) (N := 20) hx hb hg inG2 hown hK hP ia.1 hM1 rfl 9 (by decide) (hg _ wd_44) (fun _ h9 => h9) rfl dX2_tenureIn_4 ?_
      refine lv_icmp_ge (tgt := 49) hx hb dX2_tenureIn_7 (by decide) (fun c_9 => ?_) (fun c_9 => ?_)
      · have hz := rfl (a := 0)
        have n_10 : v1_9 ≤ v3w5 := (iLE (a := v1_9) (b := v3w5) (by omega) (by omega)).mp c_9
        refine lv_null hx hb dX2_tenureIn_49 ?_
        rw [hQ]
        exact W.aret (v := .null) hx hb hr (Or.inl ⟨_, rfl⟩) (Or.inl rfl) (fun t ht hW9 => ⟨⟨none, (), rfl, ⟨iskN.none, ⟨(fun t9 q9 => by cases q9), fun _ i hi => hx_7 i (by omega)⟩⟩, ⟨by rw [ht]; exact hP, hD⟩⟩, hS.F ht⟩) hS.2.2 dX2_tenureIn_50
      · have hz := rfl (a := 0)
        have n_11 : ¬ (v1_9 ≤ v3w5) := fun q => c_9 ((iLE (a := v1_9) (b := v3w5) (by omega) (by omega)).mpr q)
        refine lv_aload_n hx hb dX2_tenureIn_10 rfl (lv_at hl 1 rfl) ?_
        refine lv_iload_n hx hb dX2_tenureIn_11 rfl (lv_at hl 0 rfl) ?_
        have hPc : va_P D vwCl ([] ++ va_pl L M) H_8 := hP
        have hDc : va_D A ([] ++ va_pl L M) := hD
        have hFc : ∀ q, va_A ([] ++ va_pl L M) H_8.size q → A q := pg_free hDc hS hA
        refine va_callq (va_runV (As := [.int (nI v3w5)]) (rest := []) ⟨hx, hb, hml, hown, hg⟩ (e_X2_tenureAt l D cy K L M H_8.size oa (nI v3w5)  hW ia) (cwV 1 hg (gV wd_54 wd_55 wd_56 wd_57 wd_58) rfl rfl rfl (by decide +kernel) ⟨(Nat.le_trans (Nat.le_of_ble_eq_true rfl) hRf), (Nat.le_trans (Nat.le_of_ble_eq_true rfl) hRl)⟩) ⟨PG.blind, pg_recv hK hP ia.1 hM1 rfl, fun U hU hW => ⟨rfl, PG.at hPc hK hDc hN hU hW⟩⟩ rfl rfl hl.1 rfl (lv_room (Nat.le_of_ble_eq_true rfl)) dX2_tenureIn_12 ⟨(Nat.le_trans (Nat.le_of_ble_eq_true rfl) hRc), (Nat.le_trans (Nat.le_of_ble_eq_true rfl) hRs)⟩) hS (fun q _ h => hFc q h) hFc (fun r_13 M_14 t H_12 locs ht hvm hw hB hz1 hk1 hS => ?_)
        have hp_15 := hw
        obtain ⟨hP1, hD1⟩ := hB
        rw [ht] at hP1
        have hP : va_P D vwCl ([] ++ va_pl L M) H_12 := hP1
        have hD : va_D A ([] ++ va_pl L M) := hD1.mono hFc
        obtain ⟨hp_15, hqx⟩ := hp_15
        rcases r_13 with _ | b_16
        · have hz := rfl (a := 0)
          have hqt := hqx
          refine lv_astoreN (lv' := [(4, .null), (3, .int (nI v3w5)), (0, .ref oa), (1, .int k1), (2, .int k2)]) hx hb dX2_tenureIn_15 hl (by decide) rfl (fun ls hl => ?_)
          refine lv_aloadN hx hb dX2_tenureIn_17 (lv_at hl 0 rfl) ?_
          refine lv_ifnullN (tgt := 43) hx hb dX2_tenureIn_19 (by decide) ?_
          refine lv_iinc (v := (nI (v3w5 + 1))) (lv' := [(3, .int (nI (v3w5 + 1))), (4, .null), (0, .ref oa), (1, .int k1), (2, .int k2)]) hx hb dX2_tenureIn_43 hl (k := 1) rfl (nI_1 v3w5) (by decide) rfl (fun ls hl => ?_)
          refine lv_goto (tgt := 2) hx hb dX2_tenureIn_46 (by decide) ?_
          exact ih_3 (v3w5 + 1) H_12 _ _ (by omega) (by omega) (fun i hi q8 => by by_cases z9 : ¬ i = v3w5; exact hx_7 i (by omega) q8; rw [Classical.not_not.mp z9] at q8; rcases hqt.2 rfl with q9 | q9; exact q9 (by rw [nI_toInt (by omega)]; omega); rw [nI_cl (by omega)] at q9; have h8 := h28 v3w5 (by omega); rw [tn0 q9 (by omega)] at h8; exact absurd h8 (by decide)) hW hP hD hS (lv_sub hl [0, 2, 3, 4] rfl)
        · have hb_17 := hp_15 b_16 rfl
          have hqt := hqx
          refine lv_astore (lv' := [(4, .ref b_16), (3, .int (nI v3w5)), (0, .ref oa), (1, .int k1), (2, .int k2)]) hx hb dX2_tenureIn_15 hl (by decide) rfl (fun ls hl => ?_)
          refine lv_aload hx hb dX2_tenureIn_17 (lv_at hl 0 rfl) ?_
          obtain ⟨v18_0, v18_1, v18_2, v18_3, v18_4, v18_5, v18_6, v18_7, v18_8, v18_9, v18_10, v18_11, v18_12, v18_13, v18_14, v18_15, hM18, h18_0, h18_1, h18_4, h18_8⟩ := hW.open_9 hb_17
          refine lv_ifnull hx hb dX2_tenureIn_19 ?_
          refine lv_aload hx hb dX2_tenureIn_22 (lv_at hl 0 rfl) ?_
          refine pg_get (D := D) (ci := 9) (v := .int v18_2) (C := RX9) (T := TX9) (N := 16) hx hb hg inG9 hown hK hP hb_17.1 hM18 rfl 2 (by decide) (hg _ wd_59) (fun _ h9 => h9) rfl dX2_tenureIn_24 ?_
          refine lv_iload_n hx hb dX2_tenureIn_27 rfl (lv_at hl 3 rfl) ?_
          refine lv_icmp_ne (tgt := 43) hx hb dX2_tenureIn_28 (by decide) (fun c_19 => ?_) (fun c_19 => ?_)
          · have hz := rfl (a := 0)
            refine lv_iinc (v := (nI (v3w5 + 1))) (lv' := [(3, .int (nI (v3w5 + 1))), (4, .ref b_16), (0, .ref oa), (1, .int k1), (2, .int k2)]) hx hb dX2_tenureIn_43 hl (k := 1) rfl (nI_1 v3w5) (by decide) rfl (fun ls hl => ?_)
            refine lv_goto (tgt := 2) hx hb dX2_tenureIn_46 (by decide) ?_
            have hI_20 : ((v3w5 : Nat) : Int) < ((v1_9 : Nat) : Int) := inleI (nI_toInt (by omega)) (nI_toInt (by omega)) c_9
            have hI_21 : (v18_2 : Int32).toInt ≠ (k1 : Int32).toInt := ineI rfl rfl c_19
            have hA_22 : (cV 2 M oa 0).toInt = (v1_0 : Int32).toInt := by rw [cV_of hM1 rfl]
            have hA_23 : (cV 2 M oa 1).toInt = (v1_1 : Int32).toInt := by rw [cV_of hM1 rfl]
            have hA_24 : (cV 2 M oa 2).toInt = (v1_2 : Int32).toInt := by rw [cV_of hM1 rfl]
            have hA_25 : (cV 2 M oa 4).toInt = ((v1_4 : Nat) : Int) := by rw [cV_of hM1 rfl]; exact nI_toInt (by omega)
            have hA_26 : (cV 2 M oa 5).toInt = ((v1_5 : Nat) : Int) := by rw [cV_of hM1 rfl]; exact nI_toInt (by omega)
            have hA_27 : (cV 2 M oa 9).toInt = ((v1_9 : Nat) : Int) := by rw [cV_of hM1 rfl]; exact nI_toInt (by omega)
            have hA_28 : (cV 2 M oa 11).toInt = ((v1_11 : Nat) : Int) := by rw [cV_of hM1 rfl]; exact nI_toInt (by omega)
            have hA_29 : (cV 2 M oa 15).toInt = (v1_15 : Int32).toInt := by rw [cV_of hM1 rfl]
            have hA_30 : (cV 9 M b_16 0).toInt = ((v18_0 : Nat) : Int) := by rw [cV_of hM18 rfl]; exact nI_toInt (by omega)
            have hA_31 : (cV 9 M b_16 2).toInt = (v18_2 : Int32).toInt := by rw [cV_of hM18 rfl]
            have hA_32 : (cV 9 M b_16 3).toInt = (v18_3 : Int32).toInt := by rw [cV_of hM18 rfl]
            have hA_33 : (cV 9 M b_16 4).toInt = (v18_4 : Int32).toInt := by rw [cV_of hM18 rfl]
            have hA_34 : (cV 9 M b_16 5).toInt = (v18_5 : Int32).toInt := by rw [cV_of hM18 rfl]
            have hA_35 : (cV 9 M b_16 6).toInt = (v18_6 : Int32).toInt := by rw [cV_of hM18 rfl]
            have hA_36 : (cV 9 M b_16 7).toInt = (v18_7 : Int32).toInt := by rw [cV_of hM18 rfl]
            obtain ⟨_, hs9⟩ := hqt.1 b_16 rfl
            rw [nI_cl (by omega)] at hs9
            have hlt := lk_te hs9 (by omega)
            have hr20 : (cax M oa 20 v3w5).toInt = (cV 9 M b_16 2).toInt := congrArg Int32.toInt hlt.2.1
            have hr21 : (cax M oa 21 v3w5).toInt = (cV 9 M b_16 3).toInt := congrArg Int32.toInt hlt.2.2.1
            have hr22 : (cax M oa 22 v3w5).toInt = (cV 9 M b_16 5).toInt := congrArg Int32.toInt hlt.2.2.2.1
            exact ih_3 (v3w5 + 1) H_12 _ _ (by omega) (by omega) (fun i hi q8 => by by_cases z9 : ¬ i = v3w5; exact hx_7 i (by omega) q8; rw [Classical.not_not.mp z9] at q8; unfold tin at q8; omega) hW hP hD hS (lv_sub hl [0, 2, 3, 4] rfl)
          · have hz := rfl (a := 0)
            refine lv_aload hx hb dX2_tenureIn_31 (lv_at hl 0 rfl) ?_
            refine lv_iload_n hx hb dX2_tenureIn_33 rfl (lv_at hl 4 rfl) ?_
            have hPc : va_P D vwCl ([] ++ va_pl L M) H_12 := hP
            have hDc : va_D A ([] ++ va_pl L M) := hD
            have hFc : ∀ q, va_A ([] ++ va_pl L M) H_12.size q → A q := pg_free hDc hS hA
            refine va_calli (va_runV (As := [.int k2]) (rest := []) ⟨hx, hb, hml, hown, hg⟩ (e_X9_isIn l D cy K L M H_12.size b_16 k2  hW hb_17) (cwV 1 hg (gV wd_62 wd_63 wd_64 wd_52 wd_65) rfl rfl rfl (by decide +kernel) ⟨(Nat.le_trans (Nat.le_of_ble_eq_true rfl) hRf), (Nat.le_trans (Nat.le_of_ble_eq_true rfl) hRl)⟩) ⟨PG.blind, pg_recv hK hP hb_17.1 hM18 rfl, fun U hU hW => ⟨rfl, PG.at hPc hK hDc hN hU hW⟩⟩ rfl rfl hl.1 rfl (lv_room (Nat.le_of_ble_eq_true rfl)) dX2_tenureIn_34 ⟨(Nat.le_trans (Nat.le_of_ble_eq_true rfl) hRc), (Nat.le_trans (Nat.le_of_ble_eq_true rfl) hRs)⟩) hS (fun q _ h => hFc q h) hFc (fun r_38 M_39 t H_37 locs ht hvm hw hB hz1 hk1 hS => ?_)
            have hp_40 := hw
            obtain ⟨hP1, hD1⟩ := hB
            rw [ht] at hP1
            have hP : va_P D vwCl ([] ++ va_pl L M) H_37 := hP1
            have hD : va_D A ([] ++ va_pl L M) := hD1.mono hFc
            rcases hp_40 with ⟨rfl, c_41⟩ | ⟨rfl, c_42⟩
            · have hz := rfl (a := 0)
              refine lv_if_eq (tgt := 43) hx hb dX2_tenureIn_37 (by decide) (fun c_43 => absurd c_43 (by decide)) (fun _ => ?_)
              refine lv_aload hx hb dX2_tenureIn_40 (lv_at hl 0 rfl) ?_
              have hI_44 : ((v3w5 : Nat) : Int) < ((v1_9 : Nat) : Int) := inleI (nI_toInt (by omega)) (nI_toInt (by omega)) c_9
              have hI_45 : (v18_2 : Int32).toInt = (k1 : Int32).toInt := ieqI rfl rfl c_19
              have hA_46 : (cV 2 M oa 0).toInt = (v1_0 : Int32).toInt := by rw [cV_of hM1 rfl]
              have hA_47 : (cV 2 M oa 1).toInt = (v1_1 : Int32).toInt := by rw [cV_of hM1 rfl]
              have hA_48 : (cV 2 M oa 2).toInt = (v1_2 : Int32).toInt := by rw [cV_of hM1 rfl]
              have hA_49 : (cV 2 M oa 4).toInt = ((v1_4 : Nat) : Int) := by rw [cV_of hM1 rfl]; exact nI_toInt (by omega)
              have hA_50 : (cV 2 M oa 5).toInt = ((v1_5 : Nat) : Int) := by rw [cV_of hM1 rfl]; exact nI_toInt (by omega)
              have hA_51 : (cV 2 M oa 9).toInt = ((v1_9 : Nat) : Int) := by rw [cV_of hM1 rfl]; exact nI_toInt (by omega)
              have hA_52 : (cV 2 M oa 11).toInt = ((v1_11 : Nat) : Int) := by rw [cV_of hM1 rfl]; exact nI_toInt (by omega)
              have hA_53 : (cV 2 M oa 15).toInt = (v1_15 : Int32).toInt := by rw [cV_of hM1 rfl]
              have hA_54 : (cV 9 M b_16 0).toInt = ((v18_0 : Nat) : Int) := by rw [cV_of hM18 rfl]; exact nI_toInt (by omega)
              have hA_55 : (cV 9 M b_16 2).toInt = (v18_2 : Int32).toInt := by rw [cV_of hM18 rfl]
              have hA_56 : (cV 9 M b_16 3).toInt = (v18_3 : Int32).toInt := by rw [cV_of hM18 rfl]
              have hA_57 : (cV 9 M b_16 4).toInt = (v18_4 : Int32).toInt := by rw [cV_of hM18 rfl]
              have hA_58 : (cV 9 M b_16 5).toInt = (v18_5 : Int32).toInt := by rw [cV_of hM18 rfl]
              have hA_59 : (cV 9 M b_16 6).toInt = (v18_6 : Int32).toInt := by rw [cV_of hM18 rfl]
              have hA_60 : (cV 9 M b_16 7).toInt = (v18_7 : Int32).toInt := by rw [cV_of hM18 rfl]
              obtain ⟨_, hs9⟩ := hqt.1 b_16 rfl
              rw [nI_cl (by omega)] at hs9
              have hlt := lk_te hs9 (by omega)
              have hr20 : (cax M oa 20 v3w5).toInt = (cV 9 M b_16 2).toInt := congrArg Int32.toInt hlt.2.1
              have hr21 : (cax M oa 21 v3w5).toInt = (cV 9 M b_16 3).toInt := congrArg Int32.toInt hlt.2.2.1
              have hr22 : (cax M oa 22 v3w5).toInt = (cV 9 M b_16 5).toInt := congrArg Int32.toInt hlt.2.2.2.1
              rw [hQ]
              exact W.aret (v := .ref b_16) hx hb hr (Or.inl ⟨_, rfl⟩) (Or.inr ⟨_, rfl⟩) (fun t ht hW9 => ⟨⟨(some b_16), (), rfl, ⟨iskN.some hb_17, ⟨(fun t9 q9 => by cases q9; exact ⟨v3w5, by omega, by unfold tin; omega⟩), (fun q9 => by cases q9)⟩⟩, ⟨by rw [ht]; exact hP, hD⟩⟩, hS.F ht⟩) hS.2.2 dX2_tenureIn_42
            · have hz := rfl (a := 0)
              refine lv_if_eq (tgt := 43) hx hb dX2_tenureIn_37 (by decide) (fun _ => ?_) (fun c_61 => absurd c_61 (by decide))
              refine lv_iinc (v := (nI (v3w5 + 1))) (lv' := [(3, .int (nI (v3w5 + 1))), (4, .ref b_16), (0, .ref oa), (1, .int k1), (2, .int k2)]) hx hb dX2_tenureIn_43 hl (k := 1) rfl (nI_1 v3w5) (by decide) rfl (fun ls hl => ?_)
              refine lv_goto (tgt := 2) hx hb dX2_tenureIn_46 (by decide) ?_
              have hI_62 : ((v3w5 : Nat) : Int) < ((v1_9 : Nat) : Int) := inleI (nI_toInt (by omega)) (nI_toInt (by omega)) c_9
              have hI_63 : (v18_2 : Int32).toInt = (k1 : Int32).toInt := ieqI rfl rfl c_19
              have hA_64 : (cV 2 M oa 0).toInt = (v1_0 : Int32).toInt := by rw [cV_of hM1 rfl]
              have hA_65 : (cV 2 M oa 1).toInt = (v1_1 : Int32).toInt := by rw [cV_of hM1 rfl]
              have hA_66 : (cV 2 M oa 2).toInt = (v1_2 : Int32).toInt := by rw [cV_of hM1 rfl]
              have hA_67 : (cV 2 M oa 4).toInt = ((v1_4 : Nat) : Int) := by rw [cV_of hM1 rfl]; exact nI_toInt (by omega)
              have hA_68 : (cV 2 M oa 5).toInt = ((v1_5 : Nat) : Int) := by rw [cV_of hM1 rfl]; exact nI_toInt (by omega)
              have hA_69 : (cV 2 M oa 9).toInt = ((v1_9 : Nat) : Int) := by rw [cV_of hM1 rfl]; exact nI_toInt (by omega)
              have hA_70 : (cV 2 M oa 11).toInt = ((v1_11 : Nat) : Int) := by rw [cV_of hM1 rfl]; exact nI_toInt (by omega)
              have hA_71 : (cV 2 M oa 15).toInt = (v1_15 : Int32).toInt := by rw [cV_of hM1 rfl]
              have hA_72 : (cV 9 M b_16 0).toInt = ((v18_0 : Nat) : Int) := by rw [cV_of hM18 rfl]; exact nI_toInt (by omega)
              have hA_73 : (cV 9 M b_16 2).toInt = (v18_2 : Int32).toInt := by rw [cV_of hM18 rfl]
              have hA_74 : (cV 9 M b_16 3).toInt = (v18_3 : Int32).toInt := by rw [cV_of hM18 rfl]
              have hA_75 : (cV 9 M b_16 4).toInt = (v18_4 : Int32).toInt := by rw [cV_of hM18 rfl]
              have hA_76 : (cV 9 M b_16 5).toInt = (v18_5 : Int32).toInt := by rw [cV_of hM18 rfl]
              have hA_77 : (cV 9 M b_16 6).toInt = (v18_6 : Int32).toInt := by rw [cV_of hM18 rfl]
              have hA_78 : (cV 9 M b_16 7).toInt = (v18_7 : Int32).toInt := by rw [cV_of hM18 rfl]
              obtain ⟨_, hs9⟩ := hqt.1 b_16 rfl
              rw [nI_cl (by omega)] at hs9
              have hlt := lk_te hs9 (by omega)
              have hr20 : (cax M oa 20 v3w5).toInt = (cV 9 M b_16 2).toInt := congrArg Int32.toInt hlt.2.1
              have hr21 : (cax M oa 21 v3w5).toInt = (cV 9 M b_16 3).toInt := congrArg Int32.toInt hlt.2.2.1
              have hr22 : (cax M oa 22 v3w5).toInt = (cV 9 M b_16 5).toInt := congrArg Int32.toInt hlt.2.2.2.1
              exact ih_3 (v3w5 + 1) H_37 _ _ (by omega) (by omega) (fun i hi q8 => by by_cases z9 : ¬ i = v3w5; exact hx_7 i (by omega) q8; rw [Classical.not_not.mp z9] at q8; unfold tin at q8; omega) hW hP hD hS (lv_sub hl [0, 2, 3, 4] rfl)
  exact key_2 (24 - 0 + 1) 0 s.heap _ _ (by omega) (by omega) (fun i h => absurd h (Nat.not_lt_zero _)) hW hP hD hS (lv_sub hl [0, 1, 2, 3] rfl)
set_option maxHeartbeats 4000000 in
set_option maxRecDepth 100000 in
theorem e_ruleOn (l : Launch) (D : va_G) (cy : Nat → ClassId) (K : Kp) (L : List Nat) (M : Hp) (sz : Nat) (oa : Nat) (k1 : Int32) (hW : WOK cy K L M) (ia : isk K L oa 2 0) (h33 : (∀ i : Nat, (i : Int) < cfx M oa 11 → cax M oa 33 i = 1)) : Met l yX2_ruleOn (wsM yX2_ruleOn cX2_ruleOn 5 (some (.object "PartnersBook$Rule"))) ({ frames := 0, cells := 0, slots := 0, locals := 0 }) (va_Pc [.ref oa, .int k1] (PG D cy [] L M sz)) (va_Qq (fun (r : Option Nat) (_ : Unit) => iskN K L r 6 0 ∧ RLO M oa k1.toInt (cfx M oa 11).toNat r) (fun _ t => PQ D [] L M (va_A ([] ++ va_pl L M) sz) t) (va_A ([] ++ va_pl L M) sz)) 0 0 (va_A ([] ++ va_pl L M) sz) := by
  refine Met.ofW (cc := cX2_ruleOn) (maxL := 5) (ret := (some (.object "PartnersBook$Rule"))) (by decide) rfl ?_
  intro p e s m args below meth c s₁ B hml hv
  obtain ⟨rfl, hsz, hP, hK, hD0, hN⟩ := hv
  have hx := B.exec
  have hb := B.bytes
  have hr := B.returns
  have hts := atoms_spec (ws := (wsM yX2_ruleOn cX2_ruleOn 5 (some (.object "PartnersBook$Rule")))) B.pre
  have hg : ∀ w ∈ lw_good, w.before _ s = true := fun w h => hts w (List.mem_cons_of_mem _ h)
  have hown : s.vm.findClass RX2 = some m.cls := findClass_of_methodNamed B.named
  have hlocks := B.notSynchronized
  subst hsz
  have hD := hD0.self (sz := s.heap.size)
  generalize hAe : va_A ([] ++ va_pl L M) s.heap.size = A at hD ⊢
  have hA : ∀ q : Nat, s.heap.size ≤ q → A q := fun q h => by rw [← hAe]; exact Or.inr h
  have hS : va_S A s.heap s.heap [] := va_S.rf
  have hl := lv_entry ([.ref oa, .int k1]) (n := 5) (Nat.le_of_ble_eq_true rfl)
  rw [lg_entry_eq]
  generalize (lg_sl ([.ref oa, .int k1]) ++ List.replicate (5 - (lg_sl ([.ref oa, .int k1])).length) Slot.unset).toArray = ls at hl ⊢
  refine W.nameQ (fun Q hQ => ?_)
  refine W.nameR (fun R hR => ?_)
  have hRf : 0 ≤ R.frames := by rw [hR]; exact Nat.le_of_ble_eq_true rfl
  have hRl : 0 ≤ R.locals := by rw [hR]; exact Nat.le_of_ble_eq_true rfl
  have hRc : 0 ≤ R.cells := by rw [hR]; exact Nat.le_of_ble_eq_true rfl
  have hRs : 0 ≤ R.slots := by rw [hR]; exact Nat.le_of_ble_eq_true rfl
  have hl : lv_has ls 5 [(0, .ref oa), (1, .int k1)] := hl
  obtain ⟨v1_0, v1_1, v1_2, v1_3, v1_4, v1_5, v1_6, v1_7, v1_8, v1_9, v1_10, v1_11, v1_12, v1_13, v1_14, v1_15, v1_16, v1_17, v1_18, v1_19, hM1, h1_3, h1_4, h1_5, h1_6, h1_7, h1_8, h1_9, h1_10, h1_11, h1_12, h1_13, h1_16, h1_17, h1_18, h1_19⟩ := hW.open_2 ia
  have hc11 : ((v1_11 : Nat) : Int) = cfx M oa 11 := by show _ = (cV 2 M oa 11).toInt; rw [cV_of (j := 11) hM1 rfl, nI_toInt (by omega)]
  have hcc11 : (cV 2 M oa 11).toInt = ((v1_11 : Nat) : Int) := by rw [cV_of (j := 11) hM1 rfl, nI_toInt (by omega)]
  refine lv_null hx hb dX2_ruleOn_0 ?_
  refine lv_astore_nN (lv' := [(2, .null), (0, .ref oa), (1, .int k1)]) hx hb dX2_ruleOn_1 rfl hl (by decide) rfl (fun ls hl => ?_)
  refine lv_iconst (v := 0) hx hb dX2_ruleOn_2 (by decide) ?_
  refine lv_istore_n (lv' := [(3, .int 0), (2, .null), (0, .ref oa), (1, .int k1)]) hx hb dX2_ruleOn_3 rfl hl (by decide) rfl (fun ls hl => ?_)
  have key_2 : ∀ (fu_4 : Nat) (v2w5 : Option Nat) (v3w5 : Nat) (H_10 : Heap) (locs : List Loc) (ls : Array Slot), 16 - v3w5 < fu_4 → iskN K L v2w5 6 0 → v3w5 ≤ 16 → RLO M oa k1.toInt v3w5 v2w5 → v3w5 ≤ (cfx M oa 11).toNat → WOK cy K L M → va_P D vwCl ([] ++ va_pl L M) H_10 → va_D A ([] ++ va_pl L M) → va_S A s.heap H_10 locs → lv_has ls 5 [(3, .int (nI v3w5)), (2, (va_rf v2w5)), (0, .ref oa), (1, .int k1)] → W p l e R s m ([.ref oa, .int k1] : List Value).toArray below meth c H_10 locs 0 0 Q (F0 m 4 ls []) := by
    intro fu_4
    induction fu_4 with
    | zero => intro v2w5 v3w5 H_10 locs ls h; exact absurd h (Nat.not_lt_zero _)
    | succ fu_4 ih_3 =>
      intro v2w5 v3w5 H_10 locs ls hfu hq_6 hx_7 hx_8 hx_9 hW hP hD hS hl
      rcases v2w5 with _ | b_11
      · have hz := rfl (a := 0)
        refine lv_iload_n hx hb dX2_ruleOn_4 rfl (lv_at hl 0 rfl) ?_
        refine lv_aload_n hx hb dX2_ruleOn_5 rfl (lv_at hl 2 rfl) ?_
        refine pg_get (D := D) (ci := 2) (v := .int (nI v1_11)) (C := RX2) (T := TX2) (N := 20) hx hb hg inG2 hown hK hP ia.1 hM1 rfl 11 (by decide) (hg _ wd_66) (fun _ h9 => h9) rfl dX2_ruleOn_6 ?_
        refine lv_icmp_ge (tgt := 49) hx hb dX2_ruleOn_9 (by decide) (fun c_12 => ?_) (fun c_12 => ?_)
        · have hz := rfl (a := 0)
          have n_13 : v1_11 ≤ v3w5 := (iLE (a := v1_11) (b := v3w5) (by omega) (by omega)).mp c_12
          refine lv_aload_nN hx hb dX2_ruleOn_49 rfl (lv_at hl 1 rfl) ?_
          rw [hQ]
          exact W.aret (v := .null) hx hb hr (Or.inl ⟨_, rfl⟩) (Or.inl rfl) (fun t ht hW9 => ⟨⟨none, (), rfl, ⟨iskN.none, (by have h9 := hx_8; rw [show v3w5 = (cfx M oa 11).toNat by omega] at h9; exact h9)⟩, ⟨by rw [ht]; exact hP, hD⟩⟩, hS.F ht⟩) hS.2.2 dX2_ruleOn_50
        · have hz := rfl (a := 0)
          have n_14 : ¬ (v1_11 ≤ v3w5) := fun q => c_12 ((iLE (a := v1_11) (b := v3w5) (by omega) (by omega)).mpr q)
          refine lv_iload_n hx hb dX2_ruleOn_12 rfl (lv_at hl 0 rfl) ?_
          refine lv_bipush (v := 16) hx hb dX2_ruleOn_13 (by decide) ?_
          refine lv_icmp_ge (tgt := 49) hx hb dX2_ruleOn_15 (by decide) (fun c_15 => ?_) (fun c_15 => ?_)
          · have hz := rfl (a := 0)
            have n_16 : 16 ≤ v3w5 := (iLE (a := 16) (b := v3w5) (by omega) (by omega)).mp c_15
            refine lv_aload_nN hx hb dX2_ruleOn_49 rfl (lv_at hl 1 rfl) ?_
            rw [hQ]
            exact W.aret (v := .null) hx hb hr (Or.inl ⟨_, rfl⟩) (Or.inl rfl) (fun t ht hW9 => ⟨⟨none, (), rfl, ⟨iskN.none, (by have h9 := hx_8; rw [show v3w5 = (cfx M oa 11).toNat by omega] at h9; exact h9)⟩, ⟨by rw [ht]; exact hP, hD⟩⟩, hS.F ht⟩) hS.2.2 dX2_ruleOn_50
          · have hz := rfl (a := 0)
            have n_17 : ¬ (16 ≤ v3w5) := fun q => c_15 ((iLE (a := 16) (b := v3w5) (by omega) (by omega)).mpr q)
            refine lv_aload_n hx hb dX2_ruleOn_18 rfl (lv_at hl 2 rfl) ?_
            refine pg_get (D := D) (ci := 2) (v := .ref v1_10) (C := RX2) (T := TX2) (N := 20) hx hb hg inG2 hown hK hP ia.1 hM1 rfl 10 (by decide) (hg _ wd_67) (fun _ h9 => h9) rfl dX2_ruleOn_19 ?_
            refine lv_iload_n hx hb dX2_ruleOn_22 rfl (lv_at hl 0 rfl) ?_
            obtain ⟨f18, hM18, hf18⟩ := hW.open_20 h1_10
            have hi_19 : vp_in (nI v3w5) 16 := (inbN v3w5 16 (by omega) (by omega))
            refine pg_aldq hx hb hK hP h1_10.1 6 hM18 rfl hi_19 dX2_ruleOn_23 ?_
            obtain ⟨q_20, ho_21⟩ : ∃ q : Option Nat, q = f18 ((nI v3w5) : Int32).toNatClampNeg := ⟨_, rfl⟩
            rw [← ho_21]
            have hq_22 : iskN K L q_20 6 0 := by rw [ho_21]; exact hf18 _ (vp_lt hi_19)
            rcases q_20 with _ | bq_20
            · have hz := rfl (a := 0)
              exfalso
              have h8 := h33 v3w5 (by omega)
              have hs0 : RFc (M (rA 2 M oa 10)) v3w5 = none := by rw [rA_of (j := 10) hM1 rfl, RFc_of hM18]; have h9 := Eq.symm ho_21; rw [nI_cl (by omega)] at h9; exact h9
              rw [pk_rn hs0 (by omega)] at h8
              exact absurd h8 (by decide)
            · have hb_23 := hq_22 bq_20 rfl
              have hsk : RFc (M (rA 2 M oa 10)) v3w5 = some bq_20 := by rw [rA_of (j := 10) hM1 rfl, RFc_of hM18]; have h9 := (Eq.symm ho_21); rw [nI_cl (by omega)] at h9; exact h9
              have hr34 : (cax M oa 34 v3w5).toInt = (cV 6 M bq_20 0).toInt := congrArg Int32.toInt (pk_ru hsk (by omega)).1
              refine lv_astore (lv' := [(4, .ref bq_20), (3, .int (nI v3w5)), (2, .null), (0, .ref oa), (1, .int k1)]) hx hb dX2_ruleOn_24 hl (by decide) rfl (fun ls hl => ?_)
              refine lv_aload hx hb dX2_ruleOn_26 (lv_at hl 0 rfl) ?_
              refine lv_ifnull hx hb dX2_ruleOn_28 ?_
              refine lv_aload hx hb dX2_ruleOn_31 (lv_at hl 0 rfl) ?_
              obtain ⟨v24_0, v24_1, v24_2, hM24, h24_2⟩ := hW.open_6 hb_23
              refine pg_get (D := D) (ci := 6) (v := .int v24_0) (C := RX6) (T := TX6) (N := 3) hx hb hg inG6 hown hK hP hb_23.1 hM24 rfl 0 (by decide) (hg _ wd_68) (fun _ h9 => h9) rfl dX2_ruleOn_33 ?_
              refine lv_iload_n hx hb dX2_ruleOn_36 rfl (lv_at hl 4 rfl) ?_
              refine lv_icmp_gt (tgt := 43) hx hb dX2_ruleOn_37 (by decide) (fun c_25 => ?_) (fun c_25 => ?_)
              · have hz := rfl (a := 0)
                refine lv_iinc (v := (nI (v3w5 + 1))) (lv' := [(3, .int (nI (v3w5 + 1))), (4, .ref bq_20), (2, .null), (0, .ref oa), (1, .int k1)]) hx hb dX2_ruleOn_43 hl (k := 1) rfl (nI_1 v3w5) (by decide) rfl (fun ls hl => ?_)
                refine lv_goto (tgt := 4) hx hb dX2_ruleOn_46 (by decide) ?_
                have hI_26 : ((v3w5 : Nat) : Int) < ((v1_11 : Nat) : Int) := inleI (nI_toInt (by omega)) (nI_toInt (by omega)) c_12
                have hI_27 : ((v3w5 : Nat) : Int) < (16 : Int) := inleI rfl (nI_toInt (by omega)) c_15
                have hI_28 : (k1 : Int32).toInt < (v24_0 : Int32).toInt := iltI rfl rfl c_25
                have hA_29 : (cV 2 M oa 0).toInt = (v1_0 : Int32).toInt := by rw [cV_of hM1 rfl]
                have hA_30 : (cV 2 M oa 1).toInt = (v1_1 : Int32).toInt := by rw [cV_of hM1 rfl]
                have hA_31 : (cV 2 M oa 2).toInt = (v1_2 : Int32).toInt := by rw [cV_of hM1 rfl]
                have hA_32 : (cV 2 M oa 4).toInt = ((v1_4 : Nat) : Int) := by rw [cV_of hM1 rfl]; exact nI_toInt (by omega)
                have hA_33 : (cV 2 M oa 5).toInt = ((v1_5 : Nat) : Int) := by rw [cV_of hM1 rfl]; exact nI_toInt (by omega)
                have hA_34 : (cV 2 M oa 9).toInt = ((v1_9 : Nat) : Int) := by rw [cV_of hM1 rfl]; exact nI_toInt (by omega)
                have hA_35 : (cV 2 M oa 11).toInt = ((v1_11 : Nat) : Int) := by rw [cV_of hM1 rfl]; exact nI_toInt (by omega)
                have hA_36 : (cV 2 M oa 15).toInt = (v1_15 : Int32).toInt := by rw [cV_of hM1 rfl]
                have hA_37 : (cV 6 M bq_20 0).toInt = (v24_0 : Int32).toInt := by rw [cV_of hM24 rfl]
                have hA_38 : (cV 6 M bq_20 1).toInt = (v24_1 : Int32).toInt := by rw [cV_of hM24 rfl]
                exact ih_3 none (v3w5 + 1) H_10 _ _ (by omega) iskN.none (by omega) (RLO.skip hx_8 (by omega)) (by omega) hW hP hD hS (lv_sub hl [0, 2, 3, 4] rfl)
              · have hz := rfl (a := 0)
                refine lv_aload hx hb dX2_ruleOn_40 (lv_at hl 0 rfl) ?_
                refine lv_astore_n (lv' := [(2, .ref bq_20), (4, .ref bq_20), (3, .int (nI v3w5)), (0, .ref oa), (1, .int k1)]) hx hb dX2_ruleOn_42 rfl hl (by decide) rfl (fun ls hl => ?_)
                refine lv_iinc (v := (nI (v3w5 + 1))) (lv' := [(3, .int (nI (v3w5 + 1))), (2, .ref bq_20), (4, .ref bq_20), (0, .ref oa), (1, .int k1)]) hx hb dX2_ruleOn_43 hl (k := 2) rfl (nI_1 v3w5) (by decide) rfl (fun ls hl => ?_)
                refine lv_goto (tgt := 4) hx hb dX2_ruleOn_46 (by decide) ?_
                have hI_39 : ((v3w5 : Nat) : Int) < ((v1_11 : Nat) : Int) := inleI (nI_toInt (by omega)) (nI_toInt (by omega)) c_12
                have hI_40 : ((v3w5 : Nat) : Int) < (16 : Int) := inleI rfl (nI_toInt (by omega)) c_15
                have hI_41 : (v24_0 : Int32).toInt ≤ (k1 : Int32).toInt := inltI rfl rfl c_25
                have hA_42 : (cV 2 M oa 0).toInt = (v1_0 : Int32).toInt := by rw [cV_of hM1 rfl]
                have hA_43 : (cV 2 M oa 1).toInt = (v1_1 : Int32).toInt := by rw [cV_of hM1 rfl]
                have hA_44 : (cV 2 M oa 2).toInt = (v1_2 : Int32).toInt := by rw [cV_of hM1 rfl]
                have hA_45 : (cV 2 M oa 4).toInt = ((v1_4 : Nat) : Int) := by rw [cV_of hM1 rfl]; exact nI_toInt (by omega)
                have hA_46 : (cV 2 M oa 5).toInt = ((v1_5 : Nat) : Int) := by rw [cV_of hM1 rfl]; exact nI_toInt (by omega)
                have hA_47 : (cV 2 M oa 9).toInt = ((v1_9 : Nat) : Int) := by rw [cV_of hM1 rfl]; exact nI_toInt (by omega)
                have hA_48 : (cV 2 M oa 11).toInt = ((v1_11 : Nat) : Int) := by rw [cV_of hM1 rfl]; exact nI_toInt (by omega)
                have hA_49 : (cV 2 M oa 15).toInt = (v1_15 : Int32).toInt := by rw [cV_of hM1 rfl]
                have hA_50 : (cV 6 M bq_20 0).toInt = (v24_0 : Int32).toInt := by rw [cV_of hM24 rfl]
                have hA_51 : (cV 6 M bq_20 1).toInt = (v24_1 : Int32).toInt := by rw [cV_of hM24 rfl]
                exact ih_3 (some bq_20) (v3w5 + 1) H_10 _ _ (by omega) (iskN.some hb_23) (by omega) (RLO.take hsk (by omega)) (by omega) hW hP hD hS (lv_sub hl [0, 1, 3, 4] rfl)
      · have hb_52 := hq_6 b_11 rfl
        refine lv_iload_n hx hb dX2_ruleOn_4 rfl (lv_at hl 0 rfl) ?_
        refine lv_aload_n hx hb dX2_ruleOn_5 rfl (lv_at hl 2 rfl) ?_
        refine pg_get (D := D) (ci := 2) (v := .int (nI v1_11)) (C := RX2) (T := TX2) (N := 20) hx hb hg inG2 hown hK hP ia.1 hM1 rfl 11 (by decide) (hg _ wd_66) (fun _ h9 => h9) rfl dX2_ruleOn_6 ?_
        refine lv_icmp_ge (tgt := 49) hx hb dX2_ruleOn_9 (by decide) (fun c_53 => ?_) (fun c_53 => ?_)
        · have hz := rfl (a := 0)
          have n_54 : v1_11 ≤ v3w5 := (iLE (a := v1_11) (b := v3w5) (by omega) (by omega)).mp c_53
          refine lv_aload_n hx hb dX2_ruleOn_49 rfl (lv_at hl 1 rfl) ?_
          rw [hQ]
          exact W.aret (v := .ref b_11) hx hb hr (Or.inl ⟨_, rfl⟩) (Or.inr ⟨_, rfl⟩) (fun t ht hW9 => ⟨⟨(some b_11), (), rfl, ⟨iskN.some hb_52, (by have h9 := hx_8; rw [show v3w5 = (cfx M oa 11).toNat by omega] at h9; exact h9)⟩, ⟨by rw [ht]; exact hP, hD⟩⟩, hS.F ht⟩) hS.2.2 dX2_ruleOn_50
        · have hz := rfl (a := 0)
          have n_55 : ¬ (v1_11 ≤ v3w5) := fun q => c_53 ((iLE (a := v1_11) (b := v3w5) (by omega) (by omega)).mpr q)
          refine lv_iload_n hx hb dX2_ruleOn_12 rfl (lv_at hl 0 rfl) ?_
          refine lv_bipush (v := 16) hx hb dX2_ruleOn_13 (by decide) ?_
          refine lv_icmp_ge (tgt := 49) hx hb dX2_ruleOn_15 (by decide) (fun c_56 => ?_) (fun c_56 => ?_)
          · have hz := rfl (a := 0)
            have n_57 : 16 ≤ v3w5 := (iLE (a := 16) (b := v3w5) (by omega) (by omega)).mp c_56
            refine lv_aload_n hx hb dX2_ruleOn_49 rfl (lv_at hl 1 rfl) ?_
            rw [hQ]
            exact W.aret (v := .ref b_11) hx hb hr (Or.inl ⟨_, rfl⟩) (Or.inr ⟨_, rfl⟩) (fun t ht hW9 => ⟨⟨(some b_11), (), rfl, ⟨iskN.some hb_52, (by have h9 := hx_8; rw [show v3w5 = (cfx M oa 11).toNat by omega] at h9; exact h9)⟩, ⟨by rw [ht]; exact hP, hD⟩⟩, hS.F ht⟩) hS.2.2 dX2_ruleOn_50
          · have hz := rfl (a := 0)
            have n_58 : ¬ (16 ≤ v3w5) := fun q => c_56 ((iLE (a := 16) (b := v3w5) (by omega) (by omega)).mpr q)
            refine lv_aload_n hx hb dX2_ruleOn_18 rfl (lv_at hl 2 rfl) ?_
            refine pg_get (D := D) (ci := 2) (v := .ref v1_10) (C := RX2) (T := TX2) (N := 20) hx hb hg inG2 hown hK hP ia.1 hM1 rfl 10 (by decide) (hg _ wd_67) (fun _ h9 => h9) rfl dX2_ruleOn_19 ?_
            refine lv_iload_n hx hb dX2_ruleOn_22 rfl (lv_at hl 0 rfl) ?_
            obtain ⟨f59, hM59, hf59⟩ := hW.open_20 h1_10
            have hi_60 : vp_in (nI v3w5) 16 := (inbN v3w5 16 (by omega) (by omega))
            refine pg_aldq hx hb hK hP h1_10.1 6 hM59 rfl hi_60 dX2_ruleOn_23 ?_
            obtain ⟨q_61, ho_62⟩ : ∃ q : Option Nat, q = f59 ((nI v3w5) : Int32).toNatClampNeg := ⟨_, rfl⟩
            rw [← ho_62]
            have hq_63 : iskN K L q_61 6 0 := by rw [ho_62]; exact hf59 _ (vp_lt hi_60)
            rcases q_61 with _ | bq_61
            · have hz := rfl (a := 0)
              exfalso
              have h8 := h33 v3w5 (by omega)
              have hs0 : RFc (M (rA 2 M oa 10)) v3w5 = none := by rw [rA_of (j := 10) hM1 rfl, RFc_of hM59]; have h9 := Eq.symm ho_62; rw [nI_cl (by omega)] at h9; exact h9
              rw [pk_rn hs0 (by omega)] at h8
              exact absurd h8 (by decide)
            · have hb_64 := hq_63 bq_61 rfl
              have hsk : RFc (M (rA 2 M oa 10)) v3w5 = some bq_61 := by rw [rA_of (j := 10) hM1 rfl, RFc_of hM59]; have h9 := (Eq.symm ho_62); rw [nI_cl (by omega)] at h9; exact h9
              have hr34 : (cax M oa 34 v3w5).toInt = (cV 6 M bq_61 0).toInt := congrArg Int32.toInt (pk_ru hsk (by omega)).1
              refine lv_astore (lv' := [(4, .ref bq_61), (3, .int (nI v3w5)), (2, .ref b_11), (0, .ref oa), (1, .int k1)]) hx hb dX2_ruleOn_24 hl (by decide) rfl (fun ls hl => ?_)
              refine lv_aload hx hb dX2_ruleOn_26 (lv_at hl 0 rfl) ?_
              refine lv_ifnull hx hb dX2_ruleOn_28 ?_
              refine lv_aload hx hb dX2_ruleOn_31 (lv_at hl 0 rfl) ?_
              obtain ⟨v65_0, v65_1, v65_2, hM65, h65_2⟩ := hW.open_6 hb_64
              refine pg_get (D := D) (ci := 6) (v := .int v65_0) (C := RX6) (T := TX6) (N := 3) hx hb hg inG6 hown hK hP hb_64.1 hM65 rfl 0 (by decide) (hg _ wd_68) (fun _ h9 => h9) rfl dX2_ruleOn_33 ?_
              refine lv_iload_n hx hb dX2_ruleOn_36 rfl (lv_at hl 4 rfl) ?_
              refine lv_icmp_gt (tgt := 43) hx hb dX2_ruleOn_37 (by decide) (fun c_66 => ?_) (fun c_66 => ?_)
              · have hz := rfl (a := 0)
                refine lv_iinc (v := (nI (v3w5 + 1))) (lv' := [(3, .int (nI (v3w5 + 1))), (4, .ref bq_61), (2, .ref b_11), (0, .ref oa), (1, .int k1)]) hx hb dX2_ruleOn_43 hl (k := 1) rfl (nI_1 v3w5) (by decide) rfl (fun ls hl => ?_)
                refine lv_goto (tgt := 4) hx hb dX2_ruleOn_46 (by decide) ?_
                have hI_67 : ((v3w5 : Nat) : Int) < ((v1_11 : Nat) : Int) := inleI (nI_toInt (by omega)) (nI_toInt (by omega)) c_53
                have hI_68 : ((v3w5 : Nat) : Int) < (16 : Int) := inleI rfl (nI_toInt (by omega)) c_56
                have hI_69 : (k1 : Int32).toInt < (v65_0 : Int32).toInt := iltI rfl rfl c_66
                have hA_70 : (cV 2 M oa 0).toInt = (v1_0 : Int32).toInt := by rw [cV_of hM1 rfl]
                have hA_71 : (cV 2 M oa 1).toInt = (v1_1 : Int32).toInt := by rw [cV_of hM1 rfl]
                have hA_72 : (cV 2 M oa 2).toInt = (v1_2 : Int32).toInt := by rw [cV_of hM1 rfl]
                have hA_73 : (cV 2 M oa 4).toInt = ((v1_4 : Nat) : Int) := by rw [cV_of hM1 rfl]; exact nI_toInt (by omega)
                have hA_74 : (cV 2 M oa 5).toInt = ((v1_5 : Nat) : Int) := by rw [cV_of hM1 rfl]; exact nI_toInt (by omega)
                have hA_75 : (cV 2 M oa 9).toInt = ((v1_9 : Nat) : Int) := by rw [cV_of hM1 rfl]; exact nI_toInt (by omega)
                have hA_76 : (cV 2 M oa 11).toInt = ((v1_11 : Nat) : Int) := by rw [cV_of hM1 rfl]; exact nI_toInt (by omega)
                have hA_77 : (cV 2 M oa 15).toInt = (v1_15 : Int32).toInt := by rw [cV_of hM1 rfl]
                have hA_78 : (cV 6 M bq_61 0).toInt = (v65_0 : Int32).toInt := by rw [cV_of hM65 rfl]
                have hA_79 : (cV 6 M bq_61 1).toInt = (v65_1 : Int32).toInt := by rw [cV_of hM65 rfl]
                exact ih_3 (some b_11) (v3w5 + 1) H_10 _ _ (by omega) (iskN.some hb_52) (by omega) (RLO.skip hx_8 (by omega)) (by omega) hW hP hD hS (lv_sub hl [0, 2, 3, 4] rfl)
              · have hz := rfl (a := 0)
                refine lv_aload hx hb dX2_ruleOn_40 (lv_at hl 0 rfl) ?_
                refine lv_astore_n (lv' := [(2, .ref bq_61), (4, .ref bq_61), (3, .int (nI v3w5)), (0, .ref oa), (1, .int k1)]) hx hb dX2_ruleOn_42 rfl hl (by decide) rfl (fun ls hl => ?_)
                refine lv_iinc (v := (nI (v3w5 + 1))) (lv' := [(3, .int (nI (v3w5 + 1))), (2, .ref bq_61), (4, .ref bq_61), (0, .ref oa), (1, .int k1)]) hx hb dX2_ruleOn_43 hl (k := 2) rfl (nI_1 v3w5) (by decide) rfl (fun ls hl => ?_)
                refine lv_goto (tgt := 4) hx hb dX2_ruleOn_46 (by decide) ?_
                have hI_80 : ((v3w5 : Nat) : Int) < ((v1_11 : Nat) : Int) := inleI (nI_toInt (by omega)) (nI_toInt (by omega)) c_53
                have hI_81 : ((v3w5 : Nat) : Int) < (16 : Int) := inleI rfl (nI_toInt (by omega)) c_56
                have hI_82 : (v65_0 : Int32).toInt ≤ (k1 : Int32).toInt := inltI rfl rfl c_66
                have hA_83 : (cV 2 M oa 0).toInt = (v1_0 : Int32).toInt := by rw [cV_of hM1 rfl]
                have hA_84 : (cV 2 M oa 1).toInt = (v1_1 : Int32).toInt := by rw [cV_of hM1 rfl]
                have hA_85 : (cV 2 M oa 2).toInt = (v1_2 : Int32).toInt := by rw [cV_of hM1 rfl]
                have hA_86 : (cV 2 M oa 4).toInt = ((v1_4 : Nat) : Int) := by rw [cV_of hM1 rfl]; exact nI_toInt (by omega)
                have hA_87 : (cV 2 M oa 5).toInt = ((v1_5 : Nat) : Int) := by rw [cV_of hM1 rfl]; exact nI_toInt (by omega)
                have hA_88 : (cV 2 M oa 9).toInt = ((v1_9 : Nat) : Int) := by rw [cV_of hM1 rfl]; exact nI_toInt (by omega)
                have hA_89 : (cV 2 M oa 11).toInt = ((v1_11 : Nat) : Int) := by rw [cV_of hM1 rfl]; exact nI_toInt (by omega)
                have hA_90 : (cV 2 M oa 15).toInt = (v1_15 : Int32).toInt := by rw [cV_of hM1 rfl]
                have hA_91 : (cV 6 M bq_61 0).toInt = (v65_0 : Int32).toInt := by rw [cV_of hM65 rfl]
                have hA_92 : (cV 6 M bq_61 1).toInt = (v65_1 : Int32).toInt := by rw [cV_of hM65 rfl]
                exact ih_3 (some bq_61) (v3w5 + 1) H_10 _ _ (by omega) (iskN.some hb_64) (by omega) (RLO.take hsk (by omega)) (by omega) hW hP hD hS (lv_sub hl [0, 1, 3, 4] rfl)
  exact key_2 (16 - 0 + 1) none 0 s.heap _ _ (by omega) iskN.none (by omega) RLO.fst (by omega) hW hP hD hS (lv_sub hl [0, 1, 2, 3] rfl)
set_option maxHeartbeats 4000000 in
set_option maxRecDepth 100000 in
theorem e_termOf (l : Launch) (D : va_G) (cy : Nat → ClassId) (K : Kp) (L : List Nat) (M : Hp) (sz : Nat) (oa : Nat) (k1 : Int32) (k2 : Int32) (hW : WOK cy K L M) (ia : isk K L oa 6 0) : Met l yX6_termOf (wsM yX6_termOf cX6_termOf 3 (some .int)) ({ frames := 1, cells := 0, slots := 0, locals := 21 }) (va_Pc [.ref oa, .int k1, .int k2] (PG D cy [] L M sz)) (va_Qi (fun (r : Int32) (_ : Unit) => (∃ (vr : Int32), r = vr ∧ (vr = trV M oa k1 k2))) (fun _ t => PQ D [] L M (va_A ([] ++ va_pl L M) sz) t) (va_A ([] ++ va_pl L M) sz)) 0 0 (va_A ([] ++ va_pl L M) sz) := by
  refine Met.ofW (cc := cX6_termOf) (maxL := 3) (ret := (some .int)) (by decide) rfl ?_
  intro p e s m args below meth c s₁ B hml hv
  obtain ⟨rfl, hsz, hP, hK, hD0, hN⟩ := hv
  have hx := B.exec
  have hb := B.bytes
  have hr := B.returns
  have hts := atoms_spec (ws := (wsM yX6_termOf cX6_termOf 3 (some .int))) B.pre
  have hg : ∀ w ∈ lw_good, w.before _ s = true := fun w h => hts w (List.mem_cons_of_mem _ h)
  have hown : s.vm.findClass RX6 = some m.cls := findClass_of_methodNamed B.named
  have hlocks := B.notSynchronized
  subst hsz
  have hD := hD0.self (sz := s.heap.size)
  generalize hAe : va_A ([] ++ va_pl L M) s.heap.size = A at hD ⊢
  have hA : ∀ q : Nat, s.heap.size ≤ q → A q := fun q h => by rw [← hAe]; exact Or.inr h
  have hS : va_S A s.heap s.heap [] := va_S.rf
  have hl := lv_entry ([.ref oa, .int k1, .int k2]) (n := 3) (Nat.le_of_ble_eq_true rfl)
  rw [lg_entry_eq]
  generalize (lg_sl ([.ref oa, .int k1, .int k2]) ++ List.replicate (3 - (lg_sl ([.ref oa, .int k1, .int k2])).length) Slot.unset).toArray = ls at hl ⊢
  refine W.nameQ (fun Q hQ => ?_)
  refine W.nameR (fun R hR => ?_)
  have hRf : 1 ≤ R.frames := by rw [hR]; exact Nat.le_of_ble_eq_true rfl
  have hRl : 21 ≤ R.locals := by rw [hR]; exact Nat.le_of_ble_eq_true rfl
  have hRc : 0 ≤ R.cells := by rw [hR]; exact Nat.le_of_ble_eq_true rfl
  have hRs : 0 ≤ R.slots := by rw [hR]; exact Nat.le_of_ble_eq_true rfl
  have hl : lv_has ls 3 [(0, .ref oa), (1, .int k1), (2, .int k2)] := hl
  refine lv_iload_n hx hb dX6_termOf_0 rfl (lv_at hl 1 rfl) ?_
  refine lv_iload_n hx hb dX6_termOf_1 rfl (lv_at hl 2 rfl) ?_
  have hPc : va_P D vwCl ([] ++ va_pl L M) s.heap := hP
  have hDc : va_D A ([] ++ va_pl L M) := hD
  have hFc : ∀ q, va_A ([] ++ va_pl L M) s.heap.size q → A q := pg_free hDc hS hA
  refine va_calli (va_runS (As := [.int k1, .int k2]) (rest := []) ⟨hx, hb, hml, hown, hg⟩ (e_isTerm l D cy K L M s.heap.size k1 k2  hW ) (va_cwS 2 hg (gS wd_128 wd_129 wd_97 wd_130) rfl rfl rfl (by decide +kernel) ⟨(Nat.le_trans (Nat.le_of_ble_eq_true rfl) hRf), (Nat.le_trans (Nat.le_of_ble_eq_true rfl) hRl)⟩) ⟨PG.blind, fun U hU hW => ⟨rfl, PG.at hPc hK hDc hN hU hW⟩⟩ rfl rfl hl.1 rfl (lv_room (Nat.le_of_ble_eq_true rfl)) dX6_termOf_2 ⟨(Nat.le_trans (Nat.le_of_ble_eq_true rfl) hRc), (Nat.le_trans (Nat.le_of_ble_eq_true rfl) hRs)⟩) hS (fun q _ h => hFc q h) hFc (fun r_2 M_3 t H_1 locs ht hvm hw hB hz1 hk1 hS => ?_)
  have hp_4 := hw
  obtain ⟨hP1, hD1⟩ := hB
  rw [ht] at hP1
  have hP : va_P D vwCl ([] ++ va_pl L M) H_1 := hP1
  have hD : va_D A ([] ++ va_pl L M) := hD1.mono hFc
  rcases hp_4 with ⟨rfl, c_5, c_6, c_7, c_8, c_9⟩ | ⟨rfl, c_10⟩
  · have hz := rfl (a := 0)
    refine lv_if_eq (tgt := 22) hx hb dX6_termOf_5 (by decide) (fun c_11 => absurd c_11 (by decide)) (fun _ => ?_)
    refine lv_aload_n hx hb dX6_termOf_8 rfl (lv_at hl 0 rfl) ?_
    obtain ⟨v12_0, v12_1, v12_2, hM12, h12_2⟩ := hW.open_6 ia
    refine pg_get (D := D) (ci := 6) (v := .ref v12_2) (C := RX6) (T := TX6) (N := 3) hx hb hg inG6 hown hK hP ia.1 hM12 rfl 2 (by decide) (hg _ wd_93) (fun _ h9 => h9) rfl dX6_termOf_9 ?_
    refine lv_iload_n hx hb dX6_termOf_12 rfl (lv_at hl 2 rfl) ?_
    refine lv_bipush (v := 6) hx hb dX6_termOf_13 (by decide) ?_
    obtain ⟨j_13, hj_14, rfl⟩ := i32nat 4 (by decide) c_8 c_9
    refine lv_imul hx hb dX6_termOf_15 ?_
    refine lv_topi (fun f_15 ef_15 => ?_)
    obtain rfl : f_15 = (nI (j_13 * 6)) := ef_15.trans (nI_mul j_13 6)
    refine lv_iload_n hx hb dX6_termOf_16 rfl (lv_at hl 1 rfl) ?_
    obtain ⟨j_16, hj_17, rfl⟩ := i32nat 6 (by decide) c_6 c_7
    refine lv_iadd hx hb dX6_termOf_17 ?_
    refine lv_topi (fun f_18 ef_18 => ?_)
    obtain rfl : f_18 = (nI ((j_13 * 6) + j_16)) := ef_18.trans (nI_add (j_13 * 6) j_16)
    obtain ⟨f19, hM19⟩ := hW.open_54 h12_2
    refine pg_iald hx hb hK hP h12_2.1 0 hM19 rfl (inbN ((j_13 * 6) + j_16) 24 (by omega) (by omega)) dX6_termOf_18 ?_
    refine lv_topi (fun f_20 ef_20 => ?_)
    refine lv_goto (tgt := 23) hx hb dX6_termOf_19 (by decide) ?_
    have hI_21 : (0 : Int) ≤ ((j_16 : Nat) : Int) := inltI (nI_toInt (by omega)) rfl c_6
    have hI_22 : ((j_16 : Nat) : Int) < (6 : Int) := inleI rfl (nI_toInt (by omega)) c_7
    have hI_23 : (0 : Int) ≤ ((j_13 : Nat) : Int) := inltI (nI_toInt (by omega)) rfl c_8
    have hI_24 : ((j_13 : Nat) : Int) < (4 : Int) := inleI rfl (nI_toInt (by omega)) c_9
    have hn_25 : (nI j_16).toInt = ((j_16 : Nat) : Int) := nI_toInt (by omega)
    have hn_26 : (nI j_13).toInt = ((j_13 : Nat) : Int) := nI_toInt (by omega)
    rw [hQ]
    exact W.iret (v := f_20) hx hb hr (fun t ht hW9 => ⟨⟨f_20, (), rfl, ⟨_, rfl, (by unfold trV; rw [if_pos (by omega), nI_cl (t := j_13) (by omega), nI_cl (t := j_16) (by omega), rA_of (j := 2) hM12 rfl, IFc_of hM19, ef_20, nI_cl (by omega), show 6 * j_13 + j_16 = j_13 * 6 + j_16 by omega])⟩, ⟨by rw [ht]; exact hP, hD⟩⟩, hS.F ht⟩) hS.2.2 dX6_termOf_23
  · have hz := rfl (a := 0)
    refine lv_if_eq (tgt := 22) hx hb dX6_termOf_5 (by decide) (fun _ => ?_) (fun c_27 => absurd c_27 (by decide))
    refine lv_iconst (v := 0) hx hb dX6_termOf_22 (by decide) ?_
    rw [hQ]
    exact W.iret (v := 0) hx hb hr (fun t ht hW9 => ⟨⟨0, (), rfl, ⟨_, rfl, (by unfold trV; rw [if_neg (by omega)])⟩, ⟨by rw [ht]; exact hP, hD⟩⟩, hS.F ht⟩) hS.2.2 dX6_termOf_23
set_option maxHeartbeats 4000000 in
set_option maxRecDepth 100000 in
theorem e_termOn (l : Launch) (D : va_G) (cy : Nat → ClassId) (K : Kp) (L : List Nat) (M : Hp) (sz : Nat) (oa : Nat) (k1 : Int32) (k2 : Int32) (k3 : Int32) (hW : WOK cy K L M) (ia : isk K L oa 2 0) (h33 : (∀ i : Nat, (i : Int) < cfx M oa 11 → cax M oa 33 i = 1)) : Met l yX2_termOn (wsM yX2_termOn cX2_termOn 5 (some .int)) ({ frames := 2, cells := 0, slots := 0, locals := 43 }) (va_Pc [.ref oa, .int k1, .int k2, .int k3] (PG D cy [] L M sz)) (va_Qi (fun (r : Int32) (_ : Unit) => (∃ (vr : Int32), r = vr ∧ (vr = tonS (cfx M oa 11).toNat (cax M oa) k1.toInt k2 k3))) (fun _ t => PQ D [] L M (va_A ([] ++ va_pl L M) sz) t) (va_A ([] ++ va_pl L M) sz)) 0 0 (va_A ([] ++ va_pl L M) sz) := by
  refine Met.ofW (cc := cX2_termOn) (maxL := 5) (ret := (some .int)) (by decide) rfl ?_
  intro p e s m args below meth c s₁ B hml hv
  obtain ⟨rfl, hsz, hP, hK, hD0, hN⟩ := hv
  have hx := B.exec
  have hb := B.bytes
  have hr := B.returns
  have hts := atoms_spec (ws := (wsM yX2_termOn cX2_termOn 5 (some .int))) B.pre
  have hg : ∀ w ∈ lw_good, w.before _ s = true := fun w h => hts w (List.mem_cons_of_mem _ h)
  have hown : s.vm.findClass RX2 = some m.cls := findClass_of_methodNamed B.named
  have hlocks := B.notSynchronized
  subst hsz
  have hD := hD0.self (sz := s.heap.size)
  generalize hAe : va_A ([] ++ va_pl L M) s.heap.size = A at hD ⊢
  have hA : ∀ q : Nat, s.heap.size ≤ q → A q := fun q h => by rw [← hAe]; exact Or.inr h
  have hS : va_S A s.heap s.heap [] := va_S.rf
  have hl := lv_entry ([.ref oa, .int k1, .int k2, .int k3]) (n := 5) (Nat.le_of_ble_eq_true rfl)
  rw [lg_entry_eq]
  generalize (lg_sl ([.ref oa, .int k1, .int k2, .int k3]) ++ List.replicate (5 - (lg_sl ([.ref oa, .int k1, .int k2, .int k3])).length) Slot.unset).toArray = ls at hl ⊢
  refine W.nameQ (fun Q hQ => ?_)
  refine W.nameR (fun R hR => ?_)
  have hRf : 2 ≤ R.frames := by rw [hR]; exact Nat.le_of_ble_eq_true rfl
  have hRl : 43 ≤ R.locals := by rw [hR]; exact Nat.le_of_ble_eq_true rfl
  have hRc : 0 ≤ R.cells := by rw [hR]; exact Nat.le_of_ble_eq_true rfl
  have hRs : 0 ≤ R.slots := by rw [hR]; exact Nat.le_of_ble_eq_true rfl
  have hl : lv_has ls 5 [(0, .ref oa), (1, .int k1), (2, .int k2), (3, .int k3)] := hl
  obtain ⟨v1_0, v1_1, v1_2, v1_3, v1_4, v1_5, v1_6, v1_7, v1_8, v1_9, v1_10, v1_11, v1_12, v1_13, v1_14, v1_15, v1_16, v1_17, v1_18, v1_19, hM1, h1_3, h1_4, h1_5, h1_6, h1_7, h1_8, h1_9, h1_10, h1_11, h1_12, h1_13, h1_16, h1_17, h1_18, h1_19⟩ := hW.open_2 ia
  have hc11 : ((v1_11 : Nat) : Int) = cfx M oa 11 := by show _ = (cV 2 M oa 11).toInt; rw [cV_of (j := 11) hM1 rfl, nI_toInt (by omega)]
  have hcc11 : (cV 2 M oa 11).toInt = ((v1_11 : Nat) : Int) := by rw [cV_of (j := 11) hM1 rfl, nI_toInt (by omega)]
  refine lv_aload_n hx hb dX2_termOn_0 rfl (lv_at hl 0 rfl) ?_
  refine lv_iload_n hx hb dX2_termOn_1 rfl (lv_at hl 1 rfl) ?_
  have hPc : va_P D vwCl ([] ++ va_pl L M) s.heap := hP
  have hDc : va_D A ([] ++ va_pl L M) := hD
  have hFc : ∀ q, va_A ([] ++ va_pl L M) s.heap.size q → A q := pg_free hDc hS hA
  refine va_callq (va_runV (As := [.int k1]) (rest := []) ⟨hx, hb, hml, hown, hg⟩ (e_ruleOn l D cy K L M s.heap.size oa k1  hW ia h33) (cwV 1 hg (gV wd_131 wd_132 wd_133 wd_57 wd_134) rfl rfl rfl (by decide +kernel) ⟨(Nat.le_trans (Nat.le_of_ble_eq_true rfl) hRf), (Nat.le_trans (Nat.le_of_ble_eq_true rfl) hRl)⟩) ⟨PG.blind, pg_recv hK hP ia.1 hM1 rfl, fun U hU hW => ⟨rfl, PG.at hPc hK hDc hN hU hW⟩⟩ rfl rfl hl.1 rfl (lv_room (Nat.le_of_ble_eq_true rfl)) dX2_termOn_2 ⟨(Nat.le_trans (Nat.le_of_ble_eq_true rfl) hRc), (Nat.le_trans (Nat.le_of_ble_eq_true rfl) hRs)⟩) hS (fun q _ h => hFc q h) hFc (fun r_3 M_4 t H_2 locs ht hvm hw hB hz1 hk1 hS => ?_)
  have hp_5 := hw
  obtain ⟨hP1, hD1⟩ := hB
  rw [ht] at hP1
  have hP : va_P D vwCl ([] ++ va_pl L M) H_2 := hP1
  have hD : va_D A ([] ++ va_pl L M) := hD1.mono hFc
  obtain ⟨hp_5, hqx⟩ := hp_5
  rcases r_3 with _ | b_6
  · have hz := rfl (a := 0)
    have hrl := hqx
    refine lv_astoreN (lv' := [(4, .null), (0, .ref oa), (1, .int k1), (2, .int k2), (3, .int k3)]) hx hb dX2_termOn_5 hl (by decide) rfl (fun ls hl => ?_)
    refine lv_aloadN hx hb dX2_termOn_7 (lv_at hl 0 rfl) ?_
    refine lv_ifnonnullN hx hb dX2_termOn_9 ?_
    refine lv_iconst (v := 0) hx hb dX2_termOn_12 (by decide) ?_
    refine lv_goto (tgt := 23) hx hb dX2_termOn_13 (by decide) ?_
    rw [hQ]
    exact W.iret (v := 0) hx hb hr (fun t ht hW9 => ⟨⟨0, (), rfl, ⟨_, rfl, hrl.ton0.symm⟩, ⟨by rw [ht]; exact hP, hD⟩⟩, hS.F ht⟩) hS.2.2 dX2_termOn_23
  · have hb_7 := hp_5 b_6 rfl
    have hrl := hqx
    refine lv_astore (lv' := [(4, .ref b_6), (0, .ref oa), (1, .int k1), (2, .int k2), (3, .int k3)]) hx hb dX2_termOn_5 hl (by decide) rfl (fun ls hl => ?_)
    refine lv_aload hx hb dX2_termOn_7 (lv_at hl 0 rfl) ?_
    refine lv_ifnonnull (tgt := 16) hx hb dX2_termOn_9 (by decide) ?_
    refine lv_aload hx hb dX2_termOn_16 (lv_at hl 0 rfl) ?_
    refine lv_iload_n hx hb dX2_termOn_18 rfl (lv_at hl 4 rfl) ?_
    refine lv_iload_n hx hb dX2_termOn_19 rfl (lv_at hl 3 rfl) ?_
    obtain ⟨v8_0, v8_1, v8_2, hM8, h8_2⟩ := hW.open_6 hb_7
    have hPc : va_P D vwCl ([] ++ va_pl L M) H_2 := hP
    have hDc : va_D A ([] ++ va_pl L M) := hD
    have hFc : ∀ q, va_A ([] ++ va_pl L M) H_2.size q → A q := pg_free hDc hS hA
    refine va_calli (va_runV (As := [.int k3, .int k2]) (rest := []) ⟨hx, hb, hml, hown, hg⟩ (e_termOf l D cy K L M H_2.size b_6 k3 k2  hW hb_7) (cwV 2 hg (gV wd_135 wd_136 wd_137 wd_97 wd_138) rfl rfl rfl (by decide +kernel) ⟨(Nat.le_trans (Nat.le_of_ble_eq_true rfl) hRf), (Nat.le_trans (Nat.le_of_ble_eq_true rfl) hRl)⟩) ⟨PG.blind, pg_recv hK hP hb_7.1 hM8 rfl, fun U hU hW => ⟨rfl, PG.at hPc hK hDc hN hU hW⟩⟩ rfl rfl hl.1 rfl (lv_room (Nat.le_of_ble_eq_true rfl)) dX2_termOn_20 ⟨(Nat.le_trans (Nat.le_of_ble_eq_true rfl) hRc), (Nat.le_trans (Nat.le_of_ble_eq_true rfl) hRs)⟩) hS (fun q _ h => hFc q h) hFc (fun r_10 M_11 t H_9 locs ht hvm hw hB hz1 hk1 hS => ?_)
    have hp_12 := hw
    obtain ⟨hP1, hD1⟩ := hB
    rw [ht] at hP1
    have hP : va_P D vwCl ([] ++ va_pl L M) H_9 := hP1
    have hD : va_D A ([] ++ va_pl L M) := hD1.mono hFc
    obtain ⟨vr_13, hr_15, c_14⟩ := hp_12
    have hq := Eq.symm hr_15
    subst hq
    rw [hQ]
    exact W.iret (v := vr_13) hx hb hr (fun t ht hW9 => ⟨⟨vr_13, (), rfl, ⟨_, rfl, c_14.trans (hrl.ton1 (by omega)).symm⟩, ⟨by rw [ht]; exact hP, hD⟩⟩, hS.F ht⟩) hS.2.2 dX2_termOn_23
set_option maxHeartbeats 4000000 in
set_option maxRecDepth 100000 in
theorem e_start (l : Launch) (D : va_G) (cy : Nat → ClassId) (K : Kp) (L : List Nat) (M : Hp) (sz : Nat) (oa : Nat) (y0 : Nat) (y1 : Nat) (y2 : Nat) (y3 : Nat) (y4 : Nat) (y5 : Nat) (hW : WOK cy K L M) (ia : isk K L oa 7 0) (hMy : M oa = (b7_8 y0 y1 y2 y3 y4 (nI y5))) (hy0 : isk K L y0 64 100) (hy1 : isk K L y1 68 100) (hy2 : isk K L y2 69 100) (hy3 : isk K L y3 70 100) (hy4 : isk K L y4 71 100) (hy5 : y5 ≤ 100) : Met l yX7_start (wsM yX7_start cX7_start 1 none) ({ frames := 0, cells := 0, slots := 0, locals := 0 }) (va_Pc [.ref oa] (PG D cy [] L M sz)) (va_Qv (fun (M9 : Hp) => WOK cy K L M9 ∧ fr K L [7] M M9 ∧ M9 oa = (b7_8 y0 y1 y2 y3 y4 (nI 0)) ∧ (True)) (fun M9 t => PQ D [] L M9 (va_A ([] ++ va_pl L M) sz) t) (va_A ([] ++ va_pl L M) sz)) 0 0 (va_A ([] ++ va_pl L M) sz) := by
  refine Met.ofW (cc := cX7_start) (maxL := 1) (ret := none) (by decide) rfl ?_
  intro p e s m args below meth c s₁ B hml hv
  obtain ⟨rfl, hsz, hP, hK, hD0, hN⟩ := hv
  have hx := B.exec
  have hb := B.bytes
  have hr := B.returns
  have hts := atoms_spec (ws := (wsM yX7_start cX7_start 1 none)) B.pre
  have hg : ∀ w ∈ lw_good, w.before _ s = true := fun w h => hts w (List.mem_cons_of_mem _ h)
  have hown : s.vm.findClass RX7 = some m.cls := findClass_of_methodNamed B.named
  have hlocks := B.notSynchronized
  subst hsz
  have hD := hD0.self (sz := s.heap.size)
  generalize hAe : va_A ([] ++ va_pl L M) s.heap.size = A at hD ⊢
  have hA : ∀ q : Nat, s.heap.size ≤ q → A q := fun q h => by rw [← hAe]; exact Or.inr h
  have hS : va_S A s.heap s.heap [] := va_S.rf
  have hl := lv_entry ([.ref oa]) (n := 1) (Nat.le_of_ble_eq_true rfl)
  rw [lg_entry_eq]
  generalize (lg_sl ([.ref oa]) ++ List.replicate (1 - (lg_sl ([.ref oa])).length) Slot.unset).toArray = ls at hl ⊢
  refine W.nameQ (fun Q hQ => ?_)
  refine W.nameR (fun R hR => ?_)
  have hRf : 0 ≤ R.frames := by rw [hR]; exact Nat.le_of_ble_eq_true rfl
  have hRl : 0 ≤ R.locals := by rw [hR]; exact Nat.le_of_ble_eq_true rfl
  have hRc : 0 ≤ R.cells := by rw [hR]; exact Nat.le_of_ble_eq_true rfl
  have hRs : 0 ≤ R.slots := by rw [hR]; exact Nat.le_of_ble_eq_true rfl
  have hF : fr K L [7] M M := fr.rf
  have hl : lv_has ls 1 [(0, .ref oa)] := hl
  refine lv_aload_n hx hb dX7_start_0 rfl (lv_at hl 0 rfl) ?_
  refine lv_iconst (v := 0) hx hb dX7_start_1 (by decide) ?_
  refine pg_put (D := D) (ci := 7) (v := .int 0) (ty := .int) (C := RX7) (T := TX7) (N := 6) hx hb hg inG7 tyX7 tyX7_ok nmX7 hown hK hP hD hS ia.1 hMy rfl 5 (by decide) (hg _ wd_139) (fun _ h9 => h9) rfl (by decide +kernel) rfl rfl (Nat.le_of_ble_eq_true rfl) dX7_start_2 (fun H_1 locs hP hD hS => ?_)
  obtain ⟨M_2, eM_2⟩ : ∃ M1 : Hp, M1 = va_up M oa ((b7_8 y0 y1 y2 y3 y4 (nI 0))) := ⟨_, rfl⟩
  have hP : va_P D vwCl ([] ++ va_pl L M_2) H_1 := by rw [eM_2]; exact hP
  have hD : va_D A ([] ++ va_pl L M_2) := by rw [eM_2]; exact hD
  have hW : WOK cy K L M_2 := by rw [eM_2]; exact hW.up_7 ia ⟨y0, y1, y2, y3, y4, 0, rfl, hy0, hy1, hy2, hy3, hy4, (by omega)⟩
  have hF : fr K L [7] M M_2 := by rw [eM_2]; exact hF.up ia (by decide)
  have hM_3 : M_2 oa = (b7_8 y0 y1 y2 y3 y4 (nI 0)) := by rw [eM_2]; exact va_up_self _ _ _
  have hb_4 : 0 ≤ 100 := by omega
  rw [hQ]
  exact W.vret hx hb hr (fun t ht hW9 => ⟨⟨M_2, rfl, ⟨hW, hF, hM_3, trivial⟩, ⟨by rw [ht]; exact hP, hD⟩⟩, hS.F ht⟩) hS.2.2 dX7_start_5
set_option maxHeartbeats 4000000 in
set_option maxRecDepth 100000 in
theorem e_add (l : Launch) (D : va_G) (cy : Nat → ClassId) (K : Kp) (L : List Nat) (M : Hp) (sz : Nat) (oa : Nat) (k1 : Nat) (k2 : Int64) (y0 : Nat) (y1 : Nat) (y2 : Nat) (y3 : Nat) (y4 : Nat) (y5 : Nat) (hW : WOK cy K L M) (ia : isk K L oa 7 0) (ik1 : isk K L k1 9 0) (hlt : y5 < 100) (hMy : M oa = (b7_8 y0 y1 y2 y3 y4 (nI y5))) (hy0 : isk K L y0 64 100) (hy1 : isk K L y1 68 100) (hy2 : isk K L y2 69 100) (hy3 : isk K L y3 70 100) (hy4 : isk K L y4 71 100) (hy5 : y5 ≤ 100) : Met l yX7_add (wsM yX7_add cX7_add 4 none) ({ frames := 0, cells := 0, slots := 0, locals := 0 }) (va_Pc [.ref oa, .ref k1, .long k2] (PG D cy [] L M sz)) (va_Qv (fun (M9 : Hp) => WOK cy K L M9 ∧ fr K L [7, 64, 68] M M9 ∧ (LFc (M9 y1) = vp_updL (LFc (M y1)) y5 k2) ∧ M9 oa = (b7_8 y0 y1 y2 y3 y4 (nI (y5 + 1))) ∧ (True)) (fun M9 t => PQ D [] L M9 (va_A ([] ++ va_pl L M) sz) t) (va_A ([] ++ va_pl L M) sz)) 0 0 (va_A ([] ++ va_pl L M) sz) := by
  refine Met.ofW (cc := cX7_add) (maxL := 4) (ret := none) (by decide) rfl ?_
  intro p e s m args below meth c s₁ B hml hv
  obtain ⟨rfl, hsz, hP, hK, hD0, hN⟩ := hv
  have hx := B.exec
  have hb := B.bytes
  have hr := B.returns
  have hts := atoms_spec (ws := (wsM yX7_add cX7_add 4 none)) B.pre
  have hg : ∀ w ∈ lw_good, w.before _ s = true := fun w h => hts w (List.mem_cons_of_mem _ h)
  have hown : s.vm.findClass RX7 = some m.cls := findClass_of_methodNamed B.named
  have hlocks := B.notSynchronized
  subst hsz
  have hD := hD0.self (sz := s.heap.size)
  generalize hAe : va_A ([] ++ va_pl L M) s.heap.size = A at hD ⊢
  have hA : ∀ q : Nat, s.heap.size ≤ q → A q := fun q h => by rw [← hAe]; exact Or.inr h
  have hS : va_S A s.heap s.heap [] := va_S.rf
  have hl := lv_entry ([.ref oa, .ref k1, .long k2]) (n := 4) (Nat.le_of_ble_eq_true rfl)
  rw [lg_entry_eq]
  generalize (lg_sl ([.ref oa, .ref k1, .long k2]) ++ List.replicate (4 - (lg_sl ([.ref oa, .ref k1, .long k2])).length) Slot.unset).toArray = ls at hl ⊢
  refine W.nameQ (fun Q hQ => ?_)
  refine W.nameR (fun R hR => ?_)
  have hRf : 0 ≤ R.frames := by rw [hR]; exact Nat.le_of_ble_eq_true rfl
  have hRl : 0 ≤ R.locals := by rw [hR]; exact Nat.le_of_ble_eq_true rfl
  have hRc : 0 ≤ R.cells := by rw [hR]; exact Nat.le_of_ble_eq_true rfl
  have hRs : 0 ≤ R.slots := by rw [hR]; exact Nat.le_of_ble_eq_true rfl
  have hF : fr K L [7, 64, 68] M M := fr.rf
  have hl : lv_has ls 4 [(0, .ref oa), (1, .ref k1), (2, .long k2)] := hl
  obtain ⟨f1, hM1⟩ := hW.open_68 hy1
  have hL0 : LFc (M y1) = f1 := LFc_of hM1
  refine lv_aload_n hx hb dX7_add_0 rfl (lv_at hl 0 rfl) ?_
  refine pg_get (D := D) (ci := 7) (v := .int (nI y5)) (C := RX7) (T := TX7) (N := 6) hx hb hg inG7 hown hK hP ia.1 hMy rfl 5 (by decide) (hg _ wd_139) (fun _ h9 => h9) rfl dX7_add_1 ?_
  refine lv_bipush (v := 100) hx hb dX7_add_4 (by decide) ?_
  refine lv_icmp_ge (tgt := 39) hx hb dX7_add_6 (by decide) (fun c_2 => ?_) (fun c_2 => ?_)
  · have hz := rfl (a := 0)
    have n_3 : 100 ≤ y5 := (iLE (a := 100) (b := y5) (by omega) (by omega)).mp c_2
    exfalso
    omega
  · have hz := rfl (a := 0)
    have n_4 : ¬ (100 ≤ y5) := fun q => c_2 ((iLE (a := 100) (b := y5) (by omega) (by omega)).mpr q)
    refine lv_aload_n hx hb dX7_add_9 rfl (lv_at hl 0 rfl) ?_
    refine pg_get (D := D) (ci := 7) (v := .ref y0) (C := RX7) (T := TX7) (N := 6) hx hb hg inG7 hown hK hP ia.1 hMy rfl 0 (by decide) (hg _ wd_140) (fun _ h9 => h9) rfl dX7_add_10 ?_
    refine lv_aload_n hx hb dX7_add_13 rfl (lv_at hl 0 rfl) ?_
    refine pg_get (D := D) (ci := 7) (v := .int (nI y5)) (C := RX7) (T := TX7) (N := 6) hx hb hg inG7 hown hK hP ia.1 hMy rfl 5 (by decide) (hg _ wd_139) (fun _ h9 => h9) rfl dX7_add_14 ?_
    refine lv_aload_n hx hb dX7_add_17 rfl (lv_at hl 1 rfl) ?_
    obtain ⟨f5, hM5, hf5⟩ := hW.open_64 hy0
    obtain ⟨v7_0, v7_1, v7_2, v7_3, v7_4, v7_5, v7_6, v7_7, v7_8, v7_9, v7_10, v7_11, v7_12, v7_13, v7_14, v7_15, hM7, h7_0, h7_1, h7_4, h7_8⟩ := hW.open_9 ik1
    refine pg_astq (r := (RX9, TX9, 16)) hx hb hK hP hD hS hy0.1 8 9 hM5 rfl ik1.1 hM7 rfl (inbN y5 100 (by omega) (by omega)) dX7_add_18 (fun H_6 locs hP hD hS => ?_)
    obtain ⟨M_8, eM_8⟩ : ∃ M1 : Hp, M1 = va_up M y0 (.inl (cy 22, 100, .inr (.inr (.inr (.inr (va_up f5 ((nI y5) : Int32).toNatClampNeg (some k1))))))) := ⟨_, rfl⟩
    have hP : va_P D vwCl ([] ++ va_pl L M_8) H_6 := by rw [eM_8]; exact hP
    have hD : va_D A ([] ++ va_pl L M_8) := by rw [eM_8]; exact hD
    have hW : WOK cy K L M_8 := by rw [eM_8]; exact hW.up_64 hy0 ⟨_, rfl, (upN hf5 ik1)⟩
    have hF : fr K L [7, 64, 68] M M_8 := by rw [eM_8]; exact hF.up hy0 (by decide)
    have hM_9 : M_8 y0 = .inl (cy 22, 100, .inr (.inr (.inr (.inr (va_up f5 ((nI y5) : Int32).toNatClampNeg (some k1)))))) := by rw [eM_8]; exact va_up_self _ _ _
    have hM_10 : M_8 oa = (b7_8 y0 y1 y2 y3 y4 (nI y5)) := by rw [eM_8, va_up_ne _ _ (ia.neT hy0 (by decide))]; exact hMy
    have hM_11 : M_8 y1 = .inl (cy 15, 100, .inr (.inl (f1))) := by rw [eM_8, va_up_ne _ _ (hy1.neT hy0 (by decide))]; exact hM1
    have hM_12 : M_8 k1 = (b9_9 (nI v7_0) v7_1 v7_2 v7_3 v7_4 v7_5 v7_6 v7_7 v7_8 v7_9 v7_10 v7_11 v7_12 v7_13 v7_14 v7_15) := by rw [eM_8, va_up_ne _ _ (ik1.neT hy0 (by decide))]; exact hM7
    have hf_14 : ∀ j, j < 100 → iskN K L ((va_up f5 ((nI y5) : Int32).toNatClampNeg (some k1)) j) 9 0 := (upN hf5 ik1)
    obtain ⟨f_13, ef_13⟩ : ∃ f : Nat → Option Nat, f = va_up f5 ((nI y5) : Int32).toNatClampNeg (some k1) := ⟨_, rfl⟩
    rw [← ef_13] at hM_9 hf_14
    have hk_15 : f_13 ((nI y5) : Int32).toNatClampNeg = some k1 := by rw [ef_13]; exact va_up_self _ _ _
    refine lv_aload_n hx hb dX7_add_19 rfl (lv_at hl 0 rfl) ?_
    refine pg_get (D := D) (ci := 7) (v := .ref y1) (C := RX7) (T := TX7) (N := 6) hx hb hg inG7 hown hK hP ia.1 hM_10 rfl 1 (by decide) (hg _ wd_141) (fun _ h9 => h9) rfl dX7_add_20 ?_
    refine lv_aload_n hx hb dX7_add_23 rfl (lv_at hl 0 rfl) ?_
    refine pg_get (D := D) (ci := 7) (v := .int (nI y5)) (C := RX7) (T := TX7) (N := 6) hx hb hg inG7 hown hK hP ia.1 hM_10 rfl 5 (by decide) (hg _ wd_139) (fun _ h9 => h9) rfl dX7_add_24 ?_
    refine lv_lload_n hx hb dX7_add_27 rfl (lv_at hl 2 rfl) ?_
    refine pg_last hx hb hK hP hD hS hy1.1 1 hM_11 rfl (inbN y5 100 (by omega) (by omega)) dX7_add_28 (fun H_16 locs hP hD hS => ?_)
    obtain ⟨M_17, eM_17⟩ : ∃ M1 : Hp, M1 = va_up M_8 y1 (.inl (cy 15, 100, .inr (.inl (vp_updL f1 ((nI y5) : Int32).toNatClampNeg k2)))) := ⟨_, rfl⟩
    have hP : va_P D vwCl ([] ++ va_pl L M_17) H_16 := by rw [eM_17]; exact hP
    have hD : va_D A ([] ++ va_pl L M_17) := by rw [eM_17]; exact hD
    have hW : WOK cy K L M_17 := by rw [eM_17]; exact hW.up_68 hy1 ⟨_, rfl⟩
    have hF : fr K L [7, 64, 68] M M_17 := by rw [eM_17]; exact hF.up hy1 (by decide)
    have hM_18 : M_17 y1 = .inl (cy 15, 100, .inr (.inl (vp_updL f1 ((nI y5) : Int32).toNatClampNeg k2))) := by rw [eM_17]; exact va_up_self _ _ _
    have hM_19 : M_17 y0 = .inl (cy 22, 100, .inr (.inr (.inr (.inr (f_13))))) := by rw [eM_17, va_up_ne _ _ (hy0.neT hy1 (by decide))]; exact hM_9
    have hM_20 : M_17 oa = (b7_8 y0 y1 y2 y3 y4 (nI y5)) := by rw [eM_17, va_up_ne _ _ (ia.neT hy1 (by decide))]; exact hM_10
    have hM_21 : M_17 k1 = (b9_9 (nI v7_0) v7_1 v7_2 v7_3 v7_4 v7_5 v7_6 v7_7 v7_8 v7_9 v7_10 v7_11 v7_12 v7_13 v7_14 v7_15) := by rw [eM_17, va_up_ne _ _ (ik1.neT hy1 (by decide))]; exact hM_12
    obtain ⟨f_22, ef_22⟩ : ∃ f : Nat → Int64, f = vp_updL f1 ((nI y5) : Int32).toNatClampNeg k2 := ⟨_, rfl⟩
    rw [← ef_22] at hM_18
    refine lv_aload_n hx hb dX7_add_29 rfl (lv_at hl 0 rfl) ?_
    refine lv_dup hx hb dX7_add_30 rfl ?_
    refine pg_get (D := D) (ci := 7) (v := .int (nI y5)) (C := RX7) (T := TX7) (N := 6) hx hb hg inG7 hown hK hP ia.1 hM_20 rfl 5 (by decide) (hg _ wd_139) (fun _ h9 => h9) rfl dX7_add_31 ?_
    refine lv_iconst (v := 1) hx hb dX7_add_34 (by decide) ?_
    refine lv_iadd hx hb dX7_add_35 ?_
    refine lv_topi (fun f_23 ef_23 => ?_)
    obtain rfl : f_23 = (nI (y5 + 1)) := ef_23.trans (nI_add y5 1)
    refine pg_put (D := D) (ci := 7) (v := .int (nI (y5 + 1))) (ty := .int) (C := RX7) (T := TX7) (N := 6) hx hb hg inG7 tyX7 tyX7_ok nmX7 hown hK hP hD hS ia.1 hM_20 rfl 5 (by decide) (hg _ wd_139) (fun _ h9 => h9) rfl (by decide +kernel) rfl rfl (Nat.le_of_ble_eq_true rfl) dX7_add_36 (fun H_24 locs hP hD hS => ?_)
    obtain ⟨M_25, eM_25⟩ : ∃ M1 : Hp, M1 = va_up M_17 oa ((b7_8 y0 y1 y2 y3 y4 (nI (y5 + 1)))) := ⟨_, rfl⟩
    have hP : va_P D vwCl ([] ++ va_pl L M_25) H_24 := by rw [eM_25]; exact hP
    have hD : va_D A ([] ++ va_pl L M_25) := by rw [eM_25]; exact hD
    have hW : WOK cy K L M_25 := by rw [eM_25]; exact hW.up_7 ia ⟨y0, y1, y2, y3, y4, (y5 + 1), rfl, hy0, hy1, hy2, hy3, hy4, (by omega)⟩
    have hF : fr K L [7, 64, 68] M M_25 := by rw [eM_25]; exact hF.up ia (by decide)
    have hM_26 : M_25 oa = (b7_8 y0 y1 y2 y3 y4 (nI (y5 + 1))) := by rw [eM_25]; exact va_up_self _ _ _
    have hM_27 : M_25 y1 = .inl (cy 15, 100, .inr (.inl (f_22))) := by rw [eM_25, va_up_ne _ _ (hy1.neT ia (by decide))]; exact hM_18
    have hM_28 : M_25 y0 = .inl (cy 22, 100, .inr (.inr (.inr (.inr (f_13))))) := by rw [eM_25, va_up_ne _ _ (hy0.neT ia (by decide))]; exact hM_19
    have hM_29 : M_25 k1 = (b9_9 (nI v7_0) v7_1 v7_2 v7_3 v7_4 v7_5 v7_6 v7_7 v7_8 v7_9 v7_10 v7_11 v7_12 v7_13 v7_14 v7_15) := by rw [eM_25, va_up_ne _ _ (ik1.neT ia (by decide))]; exact hM_21
    have hb_30 : (y5 + 1) ≤ 100 := by omega
    rw [hQ]
    exact W.vret hx hb hr (fun t ht hW9 => ⟨⟨M_25, rfl, ⟨hW, hF, (by rw [LFc_of hM_27, hL0, ef_22, nI_cl (by omega)]), hM_26, trivial⟩, ⟨by rw [ht]; exact hP, hD⟩⟩, hS.F ht⟩) hS.2.2 dX7_add_39
set_option maxHeartbeats 4000000 in
set_option maxRecDepth 100000 in
theorem e_total (l : Launch) (D : va_G) (cy : Nat → ClassId) (K : Kp) (L : List Nat) (M : Hp) (sz : Nat) (oa : Nat) (y0 : Nat) (y1 : Nat) (y2 : Nat) (y3 : Nat) (y4 : Nat) (y5 : Nat) (hW : WOK cy K L M) (ia : isk K L oa 7 0) (hMy : M oa = (b7_8 y0 y1 y2 y3 y4 (nI y5))) (hy0 : isk K L y0 64 100) (hy1 : isk K L y1 68 100) (hy2 : isk K L y2 69 100) (hy3 : isk K L y3 70 100) (hy4 : isk K L y4 71 100) (hy5 : y5 ≤ 100) : Met l yX7_totalWeight (wsM yX7_totalWeight cX7_totalWeight 4 (some .long)) ({ frames := 0, cells := 0, slots := 0, locals := 0 }) (va_Pc [.ref oa] (PG D cy [] L M sz)) (va_Ql (fun (r : Int64) (_ : Unit) => (∃ (vr : Int64), r = vr ∧ (vr = sumL (LFc (M y1)) y5))) (fun _ t => PQ D [] L M (va_A ([] ++ va_pl L M) sz) t) (va_A ([] ++ va_pl L M) sz)) 0 0 (va_A ([] ++ va_pl L M) sz) := by
  refine Met.ofW (cc := cX7_totalWeight) (maxL := 4) (ret := (some .long)) (by decide) rfl ?_
  intro p e s m args below meth c s₁ B hml hv
  obtain ⟨rfl, hsz, hP, hK, hD0, hN⟩ := hv
  have hx := B.exec
  have hb := B.bytes
  have hr := B.returns
  have hts := atoms_spec (ws := (wsM yX7_totalWeight cX7_totalWeight 4 (some .long))) B.pre
  have hg : ∀ w ∈ lw_good, w.before _ s = true := fun w h => hts w (List.mem_cons_of_mem _ h)
  have hown : s.vm.findClass RX7 = some m.cls := findClass_of_methodNamed B.named
  have hlocks := B.notSynchronized
  subst hsz
  have hD := hD0.self (sz := s.heap.size)
  generalize hAe : va_A ([] ++ va_pl L M) s.heap.size = A at hD ⊢
  have hA : ∀ q : Nat, s.heap.size ≤ q → A q := fun q h => by rw [← hAe]; exact Or.inr h
  have hS : va_S A s.heap s.heap [] := va_S.rf
  have hl := lv_entry ([.ref oa]) (n := 4) (Nat.le_of_ble_eq_true rfl)
  rw [lg_entry_eq]
  generalize (lg_sl ([.ref oa]) ++ List.replicate (4 - (lg_sl ([.ref oa])).length) Slot.unset).toArray = ls at hl ⊢
  refine W.nameQ (fun Q hQ => ?_)
  refine W.nameR (fun R hR => ?_)
  have hRf : 0 ≤ R.frames := by rw [hR]; exact Nat.le_of_ble_eq_true rfl
  have hRl : 0 ≤ R.locals := by rw [hR]; exact Nat.le_of_ble_eq_true rfl
  have hRc : 0 ≤ R.cells := by rw [hR]; exact Nat.le_of_ble_eq_true rfl
  have hRs : 0 ≤ R.slots := by rw [hR]; exact Nat.le_of_ble_eq_true rfl
  have hl : lv_has ls 4 [(0, .ref oa)] := hl
  refine lv_lconst (v := 0) hx hb dX7_totalWeight_0 (by decide) ?_
  refine lv_lstore_n (lv' := [(1, .long 0), (0, .ref oa)]) hx hb dX7_totalWeight_1 rfl hl (by decide) rfl (fun ls hl => ?_)
  refine lv_iconst (v := 0) hx hb dX7_totalWeight_2 (by decide) ?_
  refine lv_istore_n (lv' := [(3, .int 0), (1, .long 0), (0, .ref oa)]) hx hb dX7_totalWeight_3 rfl hl (by decide) rfl (fun ls hl => ?_)
  have key_1 : ∀ (fu_3 : Nat) (v1w4 : Int64) (v3w4 : Nat) (H_8 : Heap) (locs : List Loc) (ls : Array Slot), 100 - v3w4 < fu_3 → v3w4 ≤ 100 → v3w4 ≤ y5 → v1w4 = sumL (LFc (M y1)) v3w4 → WOK cy K L M → va_P D vwCl ([] ++ va_pl L M) H_8 → va_D A ([] ++ va_pl L M) → va_S A s.heap H_8 locs → lv_has ls 4 [(3, .int (nI v3w4)), (1, .long v1w4), (0, .ref oa)] → W p l e R s m ([.ref oa] : List Value).toArray below meth c H_8 locs 0 0 Q (F0 m 4 ls []) := by
    intro fu_3
    induction fu_3 with
    | zero => intro v1w4 v3w4 H_8 locs ls h; exact absurd h (Nat.not_lt_zero _)
    | succ fu_3 ih_2 =>
      intro v1w4 v3w4 H_8 locs ls hfu hx_5 hx_6 hx_7 hW hP hD hS hl
      refine lv_iload_n hx hb dX7_totalWeight_4 rfl (lv_at hl 0 rfl) ?_
      refine lv_aload_n hx hb dX7_totalWeight_5 rfl (lv_at hl 2 rfl) ?_
      refine pg_get (D := D) (ci := 7) (v := .int (nI y5)) (C := RX7) (T := TX7) (N := 6) hx hb hg inG7 hown hK hP ia.1 hMy rfl 5 (by decide) (hg _ wd_139) (fun _ h9 => h9) rfl dX7_totalWeight_6 ?_
      refine lv_icmp_ge (tgt := 27) hx hb dX7_totalWeight_9 (by decide) (fun c_9 => ?_) (fun c_9 => ?_)
      · have hz := rfl (a := 0)
        have n_10 : y5 ≤ v3w4 := (iLE (a := y5) (b := v3w4) (by omega) (by omega)).mp c_9
        refine lv_lload_n hx hb dX7_totalWeight_27 rfl (lv_at hl 1 rfl) ?_
        rw [hQ]
        exact W.lret (v := v1w4) hx hb hr (fun t ht hW9 => ⟨⟨v1w4, (), rfl, ⟨_, rfl, (by rw [hx_7, show v3w4 = y5 by omega])⟩, ⟨by rw [ht]; exact hP, hD⟩⟩, hS.F ht⟩) hS.2.2 dX7_totalWeight_28
      · have hz := rfl (a := 0)
        have n_11 : ¬ (y5 ≤ v3w4) := fun q => c_9 ((iLE (a := y5) (b := v3w4) (by omega) (by omega)).mpr q)
        refine lv_lload_n hx hb dX7_totalWeight_12 rfl (lv_at hl 1 rfl) ?_
        refine lv_aload_n hx hb dX7_totalWeight_13 rfl (lv_at hl 2 rfl) ?_
        refine pg_get (D := D) (ci := 7) (v := .ref y1) (C := RX7) (T := TX7) (N := 6) hx hb hg inG7 hown hK hP ia.1 hMy rfl 1 (by decide) (hg _ wd_141) (fun _ h9 => h9) rfl dX7_totalWeight_14 ?_
        refine lv_iload_n hx hb dX7_totalWeight_17 rfl (lv_at hl 0 rfl) ?_
        obtain ⟨f12, hM12⟩ := hW.open_68 hy1
        refine pg_lald hx hb hK hP hy1.1 1 hM12 rfl (inbN v3w4 100 (by omega) (by omega)) dX7_totalWeight_18 ?_
        refine lv_topl (fun f_13 ef_13 => ?_)
        refine lv_ladd hx hb dX7_totalWeight_19 ?_
        refine lv_topl (fun f_14 ef_14 => ?_)
        refine lv_lstore_n (lv' := [(1, .long f_14), (3, .int (nI v3w4)), (0, .ref oa)]) hx hb dX7_totalWeight_20 rfl hl (by decide) rfl (fun ls hl => ?_)
        refine lv_iinc (v := (nI (v3w4 + 1))) (lv' := [(3, .int (nI (v3w4 + 1))), (1, .long f_14), (0, .ref oa)]) hx hb dX7_totalWeight_21 hl (k := 1) rfl (nI_1 v3w4) (by decide) rfl (fun ls hl => ?_)
        refine lv_goto (tgt := 4) hx hb dX7_totalWeight_24 (by decide) ?_
        exact ih_2 f_14 (v3w4 + 1) H_8 _ _ (by omega) (by omega) (by omega) (by rw [ef_14, ef_13, hx_7, nI_cl (by omega), LFc_of hM12]; first | done | rfl) hW hP hD hS (lv_sub hl [0, 1, 2] rfl)
  exact key_1 (100 - 0 + 1) 0 0 s.heap _ _ (by omega) (by omega) (by omega) rfl hW hP hD hS (lv_sub hl [0, 1, 2] rfl)
set_option maxHeartbeats 4000000 in
set_option maxRecDepth 100000 in
theorem e_cut (l : Launch) (D : va_G) (cy : Nat → ClassId) (K : Kp) (L : List Nat) (M : Hp) (sz : Nat) (oa : Nat) (k1 : Int64) (y0 : Nat) (y1 : Nat) (y2 : Nat) (y3 : Nat) (y4 : Nat) (y5 : Nat) (hW : WOK cy K L M) (ia : isk K L oa 7 0) (hMy : M oa = (b7_8 y0 y1 y2 y3 y4 (nI y5))) (hy0 : isk K L y0 64 100) (hy1 : isk K L y1 68 100) (hy2 : isk K L y2 69 100) (hy3 : isk K L y3 70 100) (hy4 : isk K L y4 71 100) (hy5 : y5 ≤ 100) : Met l yX7_cut (wsM yX7_cut cX7_cut 12 (some .long)) ({ frames := 1, cells := 0, slots := 0, locals := 24 }) (va_Pc [.ref oa, .long k1] (PG D cy [] L M sz)) (va_Ql (fun (r : Int64) (M9 : Hp) => WOK cy K L M9 ∧ fr K L [69, 70] M M9 ∧ ((∃ (vr : Int64), r = vr ∧ (vr = if (sumL (LFc (M y1)) y5).toInt ≤ 0 then 0 else k1)))) (fun M9 t => PQ D [] L M9 (va_A ([] ++ va_pl L M) sz) t) (va_A ([] ++ va_pl L M) sz)) 0 0 (va_A ([] ++ va_pl L M) sz) := by
  refine Met.ofW (cc := cX7_cut) (maxL := 12) (ret := (some .long)) (by decide) rfl ?_
  intro p e s m args below meth c s₁ B hml hv
  obtain ⟨rfl, hsz, hP, hK, hD0, hN⟩ := hv
  have hx := B.exec
  have hb := B.bytes
  have hr := B.returns
  have hts := atoms_spec (ws := (wsM yX7_cut cX7_cut 12 (some .long))) B.pre
  have hg : ∀ w ∈ lw_good, w.before _ s = true := fun w h => hts w (List.mem_cons_of_mem _ h)
  have hown : s.vm.findClass RX7 = some m.cls := findClass_of_methodNamed B.named
  have hlocks := B.notSynchronized
  subst hsz
  have hD := hD0.self (sz := s.heap.size)
  generalize hAe : va_A ([] ++ va_pl L M) s.heap.size = A at hD ⊢
  have hA : ∀ q : Nat, s.heap.size ≤ q → A q := fun q h => by rw [← hAe]; exact Or.inr h
  have hS : va_S A s.heap s.heap [] := va_S.rf
  have hl := lv_entry ([.ref oa, .long k1]) (n := 12) (Nat.le_of_ble_eq_true rfl)
  rw [lg_entry_eq]
  generalize (lg_sl ([.ref oa, .long k1]) ++ List.replicate (12 - (lg_sl ([.ref oa, .long k1])).length) Slot.unset).toArray = ls at hl ⊢
  refine W.nameQ (fun Q hQ => ?_)
  refine W.nameR (fun R hR => ?_)
  have hRf : 1 ≤ R.frames := by rw [hR]; exact Nat.le_of_ble_eq_true rfl
  have hRl : 24 ≤ R.locals := by rw [hR]; exact Nat.le_of_ble_eq_true rfl
  have hRc : 0 ≤ R.cells := by rw [hR]; exact Nat.le_of_ble_eq_true rfl
  have hRs : 0 ≤ R.slots := by rw [hR]; exact Nat.le_of_ble_eq_true rfl
  have hF : fr K L [69, 70] M M := fr.rf
  have hl : lv_has ls 12 [(0, .ref oa), (1, .long k1)] := hl
  refine lv_aload_n hx hb dX7_cut_0 rfl (lv_at hl 0 rfl) ?_
  have hPc : va_P D vwCl ([] ++ va_pl L M) s.heap := hP
  have hDc : va_D A ([] ++ va_pl L M) := hD
  have hFc : ∀ q, va_A ([] ++ va_pl L M) s.heap.size q → A q := pg_free hDc hS hA
  refine va_calll (va_runV (As := []) (rest := []) ⟨hx, hb, hml, hown, hg⟩ (e_total l D cy K L M s.heap.size oa y0 y1 y2 y3 y4 y5 hW ia hMy hy0 hy1 hy2 hy3 hy4 hy5) (cwV 0 hg (gV wd_145 wd_146 wd_147 wd_148 wd_149) rfl rfl rfl (by decide +kernel) ⟨(Nat.le_trans (Nat.le_of_ble_eq_true rfl) hRf), (Nat.le_trans (Nat.le_of_ble_eq_true rfl) hRl)⟩) ⟨PG.blind, pg_recv hK hP ia.1 hMy rfl, fun U hU hW => ⟨rfl, PG.at hPc hK hDc hN hU hW⟩⟩ rfl rfl hl.1 rfl (lv_room (Nat.le_of_ble_eq_true rfl)) dX7_cut_1 ⟨(Nat.le_trans (Nat.le_of_ble_eq_true rfl) hRc), (Nat.le_trans (Nat.le_of_ble_eq_true rfl) hRs)⟩) hS (fun q _ h => hFc q h) hFc (fun r_2 M_3 t H_1 locs ht hvm hw hB hz1 hk1 hS => ?_)
  have hp_4 := hw
  obtain ⟨hP1, hD1⟩ := hB
  rw [ht] at hP1
  have hP : va_P D vwCl ([] ++ va_pl L M) H_1 := hP1
  have hD : va_D A ([] ++ va_pl L M) := hD1.mono hFc
  obtain ⟨vr_5, hr_7, c_6⟩ := hp_4
  have hq := Eq.symm hr_7
  subst hq
  refine lv_lstore_n (lv' := [(3, .long vr_5), (0, .ref oa), (1, .long k1)]) hx hb dX7_cut_4 rfl hl (by decide) rfl (fun ls hl => ?_)
  refine lv_lload_n hx hb dX7_cut_5 rfl (lv_at hl 0 rfl) ?_
  refine lv_lconst (v := 0) hx hb dX7_cut_6 (by decide) ?_
  refine W.lcmp hx hb dX7_cut_7 ?_
  refine lv_if_gt (tgt := 21) hx hb dX7_cut_8 (by decide) (fun c_8 => ?_) (fun c_8 => ?_)
  · have hz := rfl (a := 0)
    have d_9 : 0 < vr_5 := lc_gtt c_8
    refine lv_lload_n hx hb dX7_cut_21 rfl (lv_at hl 2 rfl) ?_
    refine va_mabs_long hx hb (by rw [hml]; exact hl.1.symm) hown (hg _ wd_150) (hg _ wd_151) (hg _ wd_12) (hg _ wd_152) (Nat.le_trans (Nat.le_of_ble_eq_true rfl) hRf) (Nat.le_trans (Nat.le_of_ble_eq_true rfl) hRl) (Nat.le_trans (Nat.le_of_ble_eq_true rfl) hRc) (Nat.le_trans (Nat.le_of_ble_eq_true rfl) hRs) dX7_cut_22 ?_
    refine lv_topl (fun f_10 ef_10 => ?_)
    refine lv_lstore (lv' := [(5, .long f_10), (3, .long vr_5), (0, .ref oa), (1, .long k1)]) hx hb dX7_cut_25 hl (by decide) rfl (fun ls hl => ?_)
    refine lv_lload hx hb dX7_cut_27 (lv_at hl 0 rfl) ?_
    refine lv_lstore (lv' := [(7, .long f_10), (5, .long f_10), (3, .long vr_5), (0, .ref oa), (1, .long k1)]) hx hb dX7_cut_29 hl (by decide) rfl (fun ls hl => ?_)
    refine lv_iconst (v := 0) hx hb dX7_cut_31 (by decide) ?_
    refine lv_istore (lv' := [(9, .int 0), (7, .long f_10), (5, .long f_10), (3, .long vr_5), (0, .ref oa), (1, .long k1)]) hx hb dX7_cut_32 hl (by decide) rfl (fun ls hl => ?_)
    have key_11 : ∀ (fu_13 : Nat) (v7w14 : Int64) (v9w14 : Nat) (M_16 : Hp) (H_17 : Heap) (locs : List Loc) (ls : Array Slot), 100 - v9w14 < fu_13 → v9w14 ≤ 100 → WOK cy K L M_16 → fr K L [69, 70] M M_16 → va_P D vwCl ([] ++ va_pl L M_16) H_17 → va_D A ([] ++ va_pl L M_16) → va_S A s.heap H_17 locs → lv_has ls 12 [(9, .int (nI v9w14)), (7, .long v7w14), (5, .long f_10), (3, .long vr_5), (0, .ref oa), (1, .long k1)] → W p l e R s m ([.ref oa, .long k1] : List Value).toArray below meth c H_17 locs 0 0 Q (F0 m 34 ls []) := by
      intro fu_13
      induction fu_13 with
      | zero => intro v7w14 v9w14 M_16 H_17 locs ls h; exact absurd h (Nat.not_lt_zero _)
      | succ fu_13 ih_12 =>
        intro v7w14 v9w14 M_16 H_17 locs ls hfu hx_15 hW hF hP hD hS hl
        refine lv_iload hx hb dX7_cut_34 (lv_at hl 0 rfl) ?_
        refine lv_aload_n hx hb dX7_cut_36 rfl (lv_at hl 4 rfl) ?_
        obtain ⟨v18_0, v18_1, v18_2, v18_3, v18_4, v18_5, hM18, h18_0, h18_1, h18_2, h18_3, h18_4, h18_5⟩ := hW.open_7 ia
        refine pg_get (D := D) (ci := 7) (v := .int (nI v18_5)) (C := RX7) (T := TX7) (N := 6) hx hb hg inG7 hown hK hP ia.1 hM18 rfl 5 (by decide) (hg _ wd_139) (fun _ h9 => h9) rfl dX7_cut_37 ?_
        refine lv_icmp_ge (tgt := 95) hx hb dX7_cut_40 (by decide) (fun c_19 => ?_) (fun c_19 => ?_)
        · have hz := rfl (a := 0)
          have n_20 : v18_5 ≤ v9w14 := (iLE (a := v18_5) (b := v9w14) (by omega) (by omega)).mp c_19
          refine lv_iconst (v := 0) hx hb dX7_cut_95 (by decide) ?_
          refine lv_istore (lv' := [(9, .int 0), (7, .long v7w14), (5, .long f_10), (3, .long vr_5), (0, .ref oa), (1, .long k1)]) hx hb dX7_cut_96 hl (by decide) rfl (fun ls hl => ?_)
          have key_21 : ∀ (fu_23 : Nat) (v9w24 : Nat) (M_26 : Hp) (H_27 : Heap) (locs : List Loc) (ls : Array Slot), 100 - v9w24 < fu_23 → v9w24 ≤ 100 → WOK cy K L M_26 → fr K L [69, 70] M M_26 → va_P D vwCl ([] ++ va_pl L M_26) H_27 → va_D A ([] ++ va_pl L M_26) → va_S A s.heap H_27 locs → lv_has ls 12 [(9, .int (nI v9w24)), (7, .long v7w14), (5, .long f_10), (3, .long vr_5), (0, .ref oa), (1, .long k1)] → W p l e R s m ([.ref oa, .long k1] : List Value).toArray below meth c H_27 locs 0 0 Q (F0 m 98 ls []) := by
            intro fu_23
            induction fu_23 with
            | zero => intro v9w24 M_26 H_27 locs ls h; exact absurd h (Nat.not_lt_zero _)
            | succ fu_23 ih_22 =>
              intro v9w24 M_26 H_27 locs ls hfu hx_25 hW hF hP hD hS hl
              refine lv_iload hx hb dX7_cut_98 (lv_at hl 0 rfl) ?_
              refine lv_aload_n hx hb dX7_cut_100 rfl (lv_at hl 4 rfl) ?_
              obtain ⟨v28_0, v28_1, v28_2, v28_3, v28_4, v28_5, hM28, h28_0, h28_1, h28_2, h28_3, h28_4, h28_5⟩ := hW.open_7 ia
              refine pg_get (D := D) (ci := 7) (v := .int (nI v28_5)) (C := RX7) (T := TX7) (N := 6) hx hb hg inG7 hown hK hP ia.1 hM28 rfl 5 (by decide) (hg _ wd_139) (fun _ h9 => h9) rfl dX7_cut_101 ?_
              refine lv_icmp_ge (tgt := 126) hx hb dX7_cut_104 (by decide) (fun c_29 => ?_) (fun c_29 => ?_)
              · have hz := rfl (a := 0)
                have n_30 : v28_5 ≤ v9w24 := (iLE (a := v28_5) (b := v9w24) (by omega) (by omega)).mp c_29
                refine lv_lload_n hx hb dX7_cut_126 rfl (lv_at hl 5 rfl) ?_
                refine lv_lconst (v := 0) hx hb dX7_cut_127 (by decide) ?_
                refine W.lcmp hx hb dX7_cut_128 ?_
                refine lv_if_ge (tgt := 165) hx hb dX7_cut_129 (by decide) (fun c_31 => ?_) (fun c_31 => ?_)
                · have hz := rfl (a := 0)
                  refine lv_lload_n hx hb dX7_cut_165 rfl (lv_at hl 5 rfl) ?_
                  rw [hQ]
                  exact W.lret (v := k1) hx hb hr (fun t ht hW9 => ⟨⟨k1, M_26, rfl, ⟨hW, hF, ⟨_, rfl, (by rw [if_neg (fun w9 => (Int64.not_le.mpr d_9) (Int64.le_iff_toInt_le.mpr (by rw [c_6]; exact w9)))])⟩⟩, ⟨by rw [ht]; exact hP, hD⟩⟩, hS.F ht⟩) hS.2.2 dX7_cut_166
                · have hz := rfl (a := 0)
                  refine lv_iconst (v := 0) hx hb dX7_cut_132 (by decide) ?_
                  refine lv_istore (lv' := [(9, .int 0), (7, .long v7w14), (5, .long f_10), (3, .long vr_5), (0, .ref oa), (1, .long k1)]) hx hb dX7_cut_133 hl (by decide) rfl (fun ls hl => ?_)
                  have key_33 : ∀ (fu_35 : Nat) (v9w36 : Nat) (M_38 : Hp) (H_39 : Heap) (locs : List Loc) (ls : Array Slot), 100 - v9w36 < fu_35 → v9w36 ≤ 100 → WOK cy K L M_38 → fr K L [69, 70] M M_38 → va_P D vwCl ([] ++ va_pl L M_38) H_39 → va_D A ([] ++ va_pl L M_38) → va_S A s.heap H_39 locs → lv_has ls 12 [(9, .int (nI v9w36)), (7, .long v7w14), (5, .long f_10), (3, .long vr_5), (0, .ref oa), (1, .long k1)] → W p l e R s m ([.ref oa, .long k1] : List Value).toArray below meth c H_39 locs 0 0 Q (F0 m 135 ls []) := by
                    intro fu_35
                    induction fu_35 with
                    | zero => intro v9w36 M_38 H_39 locs ls h; exact absurd h (Nat.not_lt_zero _)
                    | succ fu_35 ih_34 =>
                      intro v9w36 M_38 H_39 locs ls hfu hx_37 hW hF hP hD hS hl
                      refine lv_iload hx hb dX7_cut_135 (lv_at hl 0 rfl) ?_
                      refine lv_aload_n hx hb dX7_cut_137 rfl (lv_at hl 4 rfl) ?_
                      obtain ⟨v40_0, v40_1, v40_2, v40_3, v40_4, v40_5, hM40, h40_0, h40_1, h40_2, h40_3, h40_4, h40_5⟩ := hW.open_7 ia
                      refine pg_get (D := D) (ci := 7) (v := .int (nI v40_5)) (C := RX7) (T := TX7) (N := 6) hx hb hg inG7 hown hK hP ia.1 hM40 rfl 5 (by decide) (hg _ wd_139) (fun _ h9 => h9) rfl dX7_cut_138 ?_
                      refine lv_icmp_ge (tgt := 165) hx hb dX7_cut_141 (by decide) (fun c_41 => ?_) (fun c_41 => ?_)
                      · have hz := rfl (a := 0)
                        have n_42 : v40_5 ≤ v9w36 := (iLE (a := v40_5) (b := v9w36) (by omega) (by omega)).mp c_41
                        refine lv_lload_n hx hb dX7_cut_165 rfl (lv_at hl 5 rfl) ?_
                        rw [hQ]
                        exact W.lret (v := k1) hx hb hr (fun t ht hW9 => ⟨⟨k1, M_38, rfl, ⟨hW, hF, ⟨_, rfl, (by rw [if_neg (fun w9 => (Int64.not_le.mpr d_9) (Int64.le_iff_toInt_le.mpr (by rw [c_6]; exact w9)))])⟩⟩, ⟨by rw [ht]; exact hP, hD⟩⟩, hS.F ht⟩) hS.2.2 dX7_cut_166
                      · have hz := rfl (a := 0)
                        have n_43 : ¬ (v40_5 ≤ v9w36) := fun q => c_41 ((iLE (a := v40_5) (b := v9w36) (by omega) (by omega)).mpr q)
                        refine lv_aload_n hx hb dX7_cut_144 rfl (lv_at hl 4 rfl) ?_
                        refine pg_get (D := D) (ci := 7) (v := .ref v40_2) (C := RX7) (T := TX7) (N := 6) hx hb hg inG7 hown hK hP ia.1 hM40 rfl 2 (by decide) (hg _ wd_142) (fun _ h9 => h9) rfl dX7_cut_145 ?_
                        refine lv_iload hx hb dX7_cut_148 (lv_at hl 0 rfl) ?_
                        refine lv_aload_n hx hb dX7_cut_150 rfl (lv_at hl 4 rfl) ?_
                        refine pg_get (D := D) (ci := 7) (v := .ref v40_2) (C := RX7) (T := TX7) (N := 6) hx hb hg inG7 hown hK hP ia.1 hM40 rfl 2 (by decide) (hg _ wd_142) (fun _ h9 => h9) rfl dX7_cut_151 ?_
                        refine lv_iload hx hb dX7_cut_154 (lv_at hl 0 rfl) ?_
                        obtain ⟨f44, hM44⟩ := hW.open_69 h40_2
                        refine pg_lald hx hb hK hP h40_2.1 1 hM44 rfl (inbN v9w36 100 (by omega) (by omega)) dX7_cut_156 ?_
                        refine lv_topl (fun f_45 ef_45 => ?_)
                        refine lv_lneg hx hb dX7_cut_157 ?_
                        refine lv_topl (fun f_46 ef_46 => ?_)
                        refine pg_last hx hb hK hP hD hS h40_2.1 1 hM44 rfl (inbN v9w36 100 (by omega) (by omega)) dX7_cut_158 (fun H_47 locs hP hD hS => ?_)
                        obtain ⟨M_48, eM_48⟩ : ∃ M1 : Hp, M1 = va_up M_38 v40_2 (.inl (cy 15, 100, .inr (.inl (vp_updL f44 ((nI v9w36) : Int32).toNatClampNeg f_46)))) := ⟨_, rfl⟩
                        have hP : va_P D vwCl ([] ++ va_pl L M_48) H_47 := by rw [eM_48]; exact hP
                        have hD : va_D A ([] ++ va_pl L M_48) := by rw [eM_48]; exact hD
                        have hW : WOK cy K L M_48 := by rw [eM_48]; exact hW.up_69 h40_2 ⟨_, rfl⟩
                        have hF : fr K L [69, 70] M M_48 := by rw [eM_48]; exact hF.up h40_2 (by decide)
                        have hM_49 : M_48 v40_2 = .inl (cy 15, 100, .inr (.inl (vp_updL f44 ((nI v9w36) : Int32).toNatClampNeg f_46))) := by rw [eM_48]; exact va_up_self _ _ _
                        have hM_50 : M_48 oa = (b7_8 v40_0 v40_1 v40_2 v40_3 v40_4 (nI v40_5)) := by rw [eM_48, va_up_ne _ _ (ia.neT h40_2 (by decide))]; exact hM40
                        obtain ⟨f_51, ef_51⟩ : ∃ f : Nat → Int64, f = vp_updL f44 ((nI v9w36) : Int32).toNatClampNeg f_46 := ⟨_, rfl⟩
                        rw [← ef_51] at hM_49
                        clear ef_51
                        refine lv_iinc (v := (nI (v9w36 + 1))) (lv' := [(9, .int (nI (v9w36 + 1))), (7, .long v7w14), (5, .long f_10), (3, .long vr_5), (0, .ref oa), (1, .long k1)]) hx hb dX7_cut_159 hl (k := 0) rfl (nI_1 v9w36) (by decide) rfl (fun ls hl => ?_)
                        refine lv_goto (tgt := 135) hx hb dX7_cut_162 (by decide) ?_
                        exact ih_34 (v9w36 + 1) M_48 H_47 _ _ (by omega) (by omega) hW hF hP hD hS (lv_sub hl [0, 1, 2, 3, 4, 5] rfl)
                  exact key_33 (100 - 0 + 1) 0 M_26 H_27 _ _ (by omega) (by omega) hW hF hP hD hS (lv_sub hl [0, 1, 2, 3, 4, 5] rfl)
              · have hz := rfl (a := 0)
                have n_52 : ¬ (v28_5 ≤ v9w24) := fun q => c_29 ((iLE (a := v28_5) (b := v9w24) (by omega) (by omega)).mpr q)
                refine lv_iload hx hb dX7_cut_107 (lv_at hl 0 rfl) ?_
                refine lv_i2l hx hb dX7_cut_109 rfl ?_
                refine lv_topl (fun f_53 ef_53 => ?_)
                refine lv_lload hx hb dX7_cut_110 (lv_at hl 1 rfl) ?_
                refine W.lcmp hx hb dX7_cut_112 ?_
                refine lv_if_ge (tgt := 126) hx hb dX7_cut_113 (by decide) (fun c_54 => ?_) (fun c_54 => ?_)
                · have hz := rfl (a := 0)
                  refine lv_lload_n hx hb dX7_cut_126 rfl (lv_at hl 5 rfl) ?_
                  refine lv_lconst (v := 0) hx hb dX7_cut_127 (by decide) ?_
                  refine W.lcmp hx hb dX7_cut_128 ?_
                  refine lv_if_ge (tgt := 165) hx hb dX7_cut_129 (by decide) (fun c_56 => ?_) (fun c_56 => ?_)
                  · have hz := rfl (a := 0)
                    refine lv_lload_n hx hb dX7_cut_165 rfl (lv_at hl 5 rfl) ?_
                    rw [hQ]
                    exact W.lret (v := k1) hx hb hr (fun t ht hW9 => ⟨⟨k1, M_26, rfl, ⟨hW, hF, ⟨_, rfl, (by rw [if_neg (fun w9 => (Int64.not_le.mpr d_9) (Int64.le_iff_toInt_le.mpr (by rw [c_6]; exact w9)))])⟩⟩, ⟨by rw [ht]; exact hP, hD⟩⟩, hS.F ht⟩) hS.2.2 dX7_cut_166
                  · have hz := rfl (a := 0)
                    refine lv_iconst (v := 0) hx hb dX7_cut_132 (by decide) ?_
                    refine lv_istore (lv' := [(9, .int 0), (7, .long v7w14), (5, .long f_10), (3, .long vr_5), (0, .ref oa), (1, .long k1)]) hx hb dX7_cut_133 hl (by decide) rfl (fun ls hl => ?_)
                    have key_58 : ∀ (fu_60 : Nat) (v9w61 : Nat) (M_63 : Hp) (H_64 : Heap) (locs : List Loc) (ls : Array Slot), 100 - v9w61 < fu_60 → v9w61 ≤ 100 → WOK cy K L M_63 → fr K L [69, 70] M M_63 → va_P D vwCl ([] ++ va_pl L M_63) H_64 → va_D A ([] ++ va_pl L M_63) → va_S A s.heap H_64 locs → lv_has ls 12 [(9, .int (nI v9w61)), (7, .long v7w14), (5, .long f_10), (3, .long vr_5), (0, .ref oa), (1, .long k1)] → W p l e R s m ([.ref oa, .long k1] : List Value).toArray below meth c H_64 locs 0 0 Q (F0 m 135 ls []) := by
                      intro fu_60
                      induction fu_60 with
                      | zero => intro v9w61 M_63 H_64 locs ls h; exact absurd h (Nat.not_lt_zero _)
                      | succ fu_60 ih_59 =>
                        intro v9w61 M_63 H_64 locs ls hfu hx_62 hW hF hP hD hS hl
                        refine lv_iload hx hb dX7_cut_135 (lv_at hl 0 rfl) ?_
                        refine lv_aload_n hx hb dX7_cut_137 rfl (lv_at hl 4 rfl) ?_
                        obtain ⟨v65_0, v65_1, v65_2, v65_3, v65_4, v65_5, hM65, h65_0, h65_1, h65_2, h65_3, h65_4, h65_5⟩ := hW.open_7 ia
                        refine pg_get (D := D) (ci := 7) (v := .int (nI v65_5)) (C := RX7) (T := TX7) (N := 6) hx hb hg inG7 hown hK hP ia.1 hM65 rfl 5 (by decide) (hg _ wd_139) (fun _ h9 => h9) rfl dX7_cut_138 ?_
                        refine lv_icmp_ge (tgt := 165) hx hb dX7_cut_141 (by decide) (fun c_66 => ?_) (fun c_66 => ?_)
                        · have hz := rfl (a := 0)
                          have n_67 : v65_5 ≤ v9w61 := (iLE (a := v65_5) (b := v9w61) (by omega) (by omega)).mp c_66
                          refine lv_lload_n hx hb dX7_cut_165 rfl (lv_at hl 5 rfl) ?_
                          rw [hQ]
                          exact W.lret (v := k1) hx hb hr (fun t ht hW9 => ⟨⟨k1, M_63, rfl, ⟨hW, hF, ⟨_, rfl, (by rw [if_neg (fun w9 => (Int64.not_le.mpr d_9) (Int64.le_iff_toInt_le.mpr (by rw [c_6]; exact w9)))])⟩⟩, ⟨by rw [ht]; exact hP, hD⟩⟩, hS.F ht⟩) hS.2.2 dX7_cut_166
                        · have hz := rfl (a := 0)
                          have n_68 : ¬ (v65_5 ≤ v9w61) := fun q => c_66 ((iLE (a := v65_5) (b := v9w61) (by omega) (by omega)).mpr q)
                          refine lv_aload_n hx hb dX7_cut_144 rfl (lv_at hl 4 rfl) ?_
                          refine pg_get (D := D) (ci := 7) (v := .ref v65_2) (C := RX7) (T := TX7) (N := 6) hx hb hg inG7 hown hK hP ia.1 hM65 rfl 2 (by decide) (hg _ wd_142) (fun _ h9 => h9) rfl dX7_cut_145 ?_
                          refine lv_iload hx hb dX7_cut_148 (lv_at hl 0 rfl) ?_
                          refine lv_aload_n hx hb dX7_cut_150 rfl (lv_at hl 4 rfl) ?_
                          refine pg_get (D := D) (ci := 7) (v := .ref v65_2) (C := RX7) (T := TX7) (N := 6) hx hb hg inG7 hown hK hP ia.1 hM65 rfl 2 (by decide) (hg _ wd_142) (fun _ h9 => h9) rfl dX7_cut_151 ?_
                          refine lv_iload hx hb dX7_cut_154 (lv_at hl 0 rfl) ?_
                          obtain ⟨f69, hM69⟩ := hW.open_69 h65_2
                          refine pg_lald hx hb hK hP h65_2.1 1 hM69 rfl (inbN v9w61 100 (by omega) (by omega)) dX7_cut_156 ?_
                          refine lv_topl (fun f_70 ef_70 => ?_)
                          refine lv_lneg hx hb dX7_cut_157 ?_
                          refine lv_topl (fun f_71 ef_71 => ?_)
                          refine pg_last hx hb hK hP hD hS h65_2.1 1 hM69 rfl (inbN v9w61 100 (by omega) (by omega)) dX7_cut_158 (fun H_72 locs hP hD hS => ?_)
                          obtain ⟨M_73, eM_73⟩ : ∃ M1 : Hp, M1 = va_up M_63 v65_2 (.inl (cy 15, 100, .inr (.inl (vp_updL f69 ((nI v9w61) : Int32).toNatClampNeg f_71)))) := ⟨_, rfl⟩
                          have hP : va_P D vwCl ([] ++ va_pl L M_73) H_72 := by rw [eM_73]; exact hP
                          have hD : va_D A ([] ++ va_pl L M_73) := by rw [eM_73]; exact hD
                          have hW : WOK cy K L M_73 := by rw [eM_73]; exact hW.up_69 h65_2 ⟨_, rfl⟩
                          have hF : fr K L [69, 70] M M_73 := by rw [eM_73]; exact hF.up h65_2 (by decide)
                          have hM_74 : M_73 v65_2 = .inl (cy 15, 100, .inr (.inl (vp_updL f69 ((nI v9w61) : Int32).toNatClampNeg f_71))) := by rw [eM_73]; exact va_up_self _ _ _
                          have hM_75 : M_73 oa = (b7_8 v65_0 v65_1 v65_2 v65_3 v65_4 (nI v65_5)) := by rw [eM_73, va_up_ne _ _ (ia.neT h65_2 (by decide))]; exact hM65
                          obtain ⟨f_76, ef_76⟩ : ∃ f : Nat → Int64, f = vp_updL f69 ((nI v9w61) : Int32).toNatClampNeg f_71 := ⟨_, rfl⟩
                          rw [← ef_76] at hM_74
                          clear ef_76
                          refine lv_iinc (v := (nI (v9w61 + 1))) (lv' := [(9, .int (nI (v9w61 + 1))), (7, .long v7w14), (5, .long f_10), (3, .long vr_5), (0, .ref oa), (1, .long k1)]) hx hb dX7_cut_159 hl (k := 0) rfl (nI_1 v9w61) (by decide) rfl (fun ls hl => ?_)
                          refine lv_goto (tgt := 135) hx hb dX7_cut_162 (by decide) ?_
                          exact ih_59 (v9w61 + 1) M_73 H_72 _ _ (by omega) (by omega) hW hF hP hD hS (lv_sub hl [0, 1, 2, 3, 4, 5] rfl)
                    exact key_58 (100 - 0 + 1) 0 M_26 H_27 _ _ (by omega) (by omega) hW hF hP hD hS (lv_sub hl [0, 1, 2, 3, 4, 5] rfl)
                · have hz := rfl (a := 0)
                  refine lv_aload_n hx hb dX7_cut_116 rfl (lv_at hl 4 rfl) ?_
                  have hPc : va_P D vwCl ([] ++ va_pl L M_26) H_27 := hP
                  have hDc : va_D A ([] ++ va_pl L M_26) := hD
                  have hFc : ∀ q, va_A ([] ++ va_pl L M_26) H_27.size q → A q := pg_free hDc hS hA
                  refine va_callv (va_runV (As := []) (rest := []) ⟨hx, hb, hml, hown, hg⟩ (s_X7_giveCoin l D cy K L M_26 H_27.size oa  hW ia) (cwV 0 hg (gV wd_153 wd_154 wd_155 wd_148 wd_156) rfl rfl rfl (by decide +kernel) ⟨(Nat.le_trans (Nat.le_of_ble_eq_true rfl) hRf), (Nat.le_trans (Nat.le_of_ble_eq_true rfl) hRl)⟩) ⟨PG.blind, pg_recv hK hP ia.1 hM28 rfl, fun U hU hW => ⟨rfl, PG.at hPc hK hDc hN hU hW⟩⟩ rfl rfl hl.1 rfl (lv_room (Nat.le_of_ble_eq_true rfl)) dX7_cut_117 ⟨(Nat.le_trans (Nat.le_of_ble_eq_true rfl) hRc), (Nat.le_trans (Nat.le_of_ble_eq_true rfl) hRs)⟩) hS (fun q _ h => hFc q h) hFc (fun M_79 t H_77 locs ht hvm hw hB hz1 hk1 hS => ?_)
                  obtain ⟨hW, hF2, hp_80⟩ := hw
                  obtain ⟨hP1, hD1⟩ := hB
                  rw [ht] at hP1
                  have hP : va_P D vwCl ([] ++ va_pl L M_79) H_77 := hP1
                  have hD : va_D A ([] ++ va_pl L M_79) := hD1.mono hFc
                  have hM_81 : M_79 oa = (b7_8 v28_0 v28_1 v28_2 v28_3 v28_4 (nI v28_5)) := (hF2.at ia (by decide)).trans hM28
                  have hF : fr K L [69, 70] M M_79 := hF.tr hF2 (by decide)
                  refine lv_iinc (v := (nI (v9w24 + 1))) (lv' := [(9, .int (nI (v9w24 + 1))), (7, .long v7w14), (5, .long f_10), (3, .long vr_5), (0, .ref oa), (1, .long k1)]) hx hb dX7_cut_120 hl (k := 0) rfl (nI_1 v9w24) (by decide) rfl (fun ls hl => ?_)
                  refine lv_goto (tgt := 98) hx hb dX7_cut_123 (by decide) ?_
                  exact ih_22 (v9w24 + 1) M_79 H_77 _ _ (by omega) (by omega) hW hF hP hD hS (lv_sub hl [0, 1, 2, 3, 4, 5] rfl)
          exact key_21 (100 - 0 + 1) 0 M_16 H_17 _ _ (by omega) (by omega) hW hF hP hD hS (lv_sub hl [0, 1, 2, 3, 4, 5] rfl)
        · have hz := rfl (a := 0)
          have n_82 : ¬ (v18_5 ≤ v9w14) := fun q => c_19 ((iLE (a := v18_5) (b := v9w14) (by omega) (by omega)).mpr q)
          refine lv_lload hx hb dX7_cut_43 (lv_at hl 2 rfl) ?_
          refine lv_aload_n hx hb dX7_cut_45 rfl (lv_at hl 4 rfl) ?_
          refine pg_get (D := D) (ci := 7) (v := .ref v18_1) (C := RX7) (T := TX7) (N := 6) hx hb hg inG7 hown hK hP ia.1 hM18 rfl 1 (by decide) (hg _ wd_141) (fun _ h9 => h9) rfl dX7_cut_46 ?_
          refine lv_iload hx hb dX7_cut_49 (lv_at hl 0 rfl) ?_
          obtain ⟨f83, hM83⟩ := hW.open_68 h18_1
          refine pg_lald hx hb hK hP h18_1.1 1 hM83 rfl (inbN v9w14 100 (by omega) (by omega)) dX7_cut_51 ?_
          refine lv_topl (fun f_84 ef_84 => ?_)
          refine lv_lmul hx hb dX7_cut_52 ?_
          refine lv_topl (fun f_85 ef_85 => ?_)
          refine lv_lstore (lv' := [(10, .long f_85), (9, .int (nI v9w14)), (7, .long v7w14), (5, .long f_10), (3, .long vr_5), (0, .ref oa), (1, .long k1)]) hx hb dX7_cut_53 hl (by decide) rfl (fun ls hl => ?_)
          refine lv_aload_n hx hb dX7_cut_55 rfl (lv_at hl 5 rfl) ?_
          refine pg_get (D := D) (ci := 7) (v := .ref v18_2) (C := RX7) (T := TX7) (N := 6) hx hb hg inG7 hown hK hP ia.1 hM18 rfl 2 (by decide) (hg _ wd_142) (fun _ h9 => h9) rfl dX7_cut_56 ?_
          refine lv_iload hx hb dX7_cut_59 (lv_at hl 1 rfl) ?_
          refine lv_lload hx hb dX7_cut_61 (lv_at hl 0 rfl) ?_
          refine lv_lload_n hx hb dX7_cut_63 rfl (lv_at hl 4 rfl) ?_
          refine lv_ldiv hx hb dX7_cut_64 (fun q => absurd d_9 (by rw [q]; decide)) ?_
          refine lv_topl (fun f_86 ef_86 => ?_)
          obtain ⟨f87, hM87⟩ := hW.open_69 h18_2
          refine pg_last hx hb hK hP hD hS h18_2.1 1 hM87 rfl (inbN v9w14 100 (by omega) (by omega)) dX7_cut_65 (fun H_88 locs hP hD hS => ?_)
          obtain ⟨M_89, eM_89⟩ : ∃ M1 : Hp, M1 = va_up M_16 v18_2 (.inl (cy 15, 100, .inr (.inl (vp_updL f87 ((nI v9w14) : Int32).toNatClampNeg f_86)))) := ⟨_, rfl⟩
          have hP : va_P D vwCl ([] ++ va_pl L M_89) H_88 := by rw [eM_89]; exact hP
          have hD : va_D A ([] ++ va_pl L M_89) := by rw [eM_89]; exact hD
          have hW : WOK cy K L M_89 := by rw [eM_89]; exact hW.up_69 h18_2 ⟨_, rfl⟩
          have hF : fr K L [69, 70] M M_89 := by rw [eM_89]; exact hF.up h18_2 (by decide)
          have hM_90 : M_89 v18_2 = .inl (cy 15, 100, .inr (.inl (vp_updL f87 ((nI v9w14) : Int32).toNatClampNeg f_86))) := by rw [eM_89]; exact va_up_self _ _ _
          have hM_91 : M_89 oa = (b7_8 v18_0 v18_1 v18_2 v18_3 v18_4 (nI v18_5)) := by rw [eM_89, va_up_ne _ _ (ia.neT h18_2 (by decide))]; exact hM18
          have hM_92 : M_89 v18_1 = .inl (cy 15, 100, .inr (.inl (f83))) := by rw [eM_89, va_up_ne _ _ (h18_1.neT h18_2 (by decide))]; exact hM83
          obtain ⟨f_93, ef_93⟩ : ∃ f : Nat → Int64, f = vp_updL f87 ((nI v9w14) : Int32).toNatClampNeg f_86 := ⟨_, rfl⟩
          rw [← ef_93] at hM_90
          clear ef_93
          refine lv_aload_n hx hb dX7_cut_66 rfl (lv_at hl 5 rfl) ?_
          refine pg_get (D := D) (ci := 7) (v := .ref v18_3) (C := RX7) (T := TX7) (N := 6) hx hb hg inG7 hown hK hP ia.1 hM_91 rfl 3 (by decide) (hg _ wd_143) (fun _ h9 => h9) rfl dX7_cut_67 ?_
          refine lv_iload hx hb dX7_cut_70 (lv_at hl 1 rfl) ?_
          refine lv_lload hx hb dX7_cut_72 (lv_at hl 0 rfl) ?_
          refine lv_lload_n hx hb dX7_cut_74 rfl (lv_at hl 4 rfl) ?_
          refine lv_lrem hx hb dX7_cut_75 (fun q => absurd d_9 (by rw [q]; decide)) ?_
          refine lv_topl (fun f_94 ef_94 => ?_)
          obtain ⟨f95, hM95⟩ := hW.open_70 h18_3
          refine pg_last hx hb hK hP hD hS h18_3.1 1 hM95 rfl (inbN v9w14 100 (by omega) (by omega)) dX7_cut_76 (fun H_96 locs hP hD hS => ?_)
          obtain ⟨M_97, eM_97⟩ : ∃ M1 : Hp, M1 = va_up M_89 v18_3 (.inl (cy 15, 100, .inr (.inl (vp_updL f95 ((nI v9w14) : Int32).toNatClampNeg f_94)))) := ⟨_, rfl⟩
          have hP : va_P D vwCl ([] ++ va_pl L M_97) H_96 := by rw [eM_97]; exact hP
          have hD : va_D A ([] ++ va_pl L M_97) := by rw [eM_97]; exact hD
          have hW : WOK cy K L M_97 := by rw [eM_97]; exact hW.up_70 h18_3 ⟨_, rfl⟩
          have hF : fr K L [69, 70] M M_97 := by rw [eM_97]; exact hF.up h18_3 (by decide)
          have hM_98 : M_97 v18_3 = .inl (cy 15, 100, .inr (.inl (vp_updL f95 ((nI v9w14) : Int32).toNatClampNeg f_94))) := by rw [eM_97]; exact va_up_self _ _ _
          have hM_99 : M_97 v18_2 = .inl (cy 15, 100, .inr (.inl (f_93))) := by rw [eM_97, va_up_ne _ _ (h18_2.neT h18_3 (by decide))]; exact hM_90
          have hM_100 : M_97 oa = (b7_8 v18_0 v18_1 v18_2 v18_3 v18_4 (nI v18_5)) := by rw [eM_97, va_up_ne _ _ (ia.neT h18_3 (by decide))]; exact hM_91
          have hM_101 : M_97 v18_1 = .inl (cy 15, 100, .inr (.inl (f83))) := by rw [eM_97, va_up_ne _ _ (h18_1.neT h18_3 (by decide))]; exact hM_92
          obtain ⟨f_102, ef_102⟩ : ∃ f : Nat → Int64, f = vp_updL f95 ((nI v9w14) : Int32).toNatClampNeg f_94 := ⟨_, rfl⟩
          rw [← ef_102] at hM_98
          clear ef_102
          refine lv_lload hx hb dX7_cut_77 (lv_at hl 2 rfl) ?_
          refine lv_aload_n hx hb dX7_cut_79 rfl (lv_at hl 5 rfl) ?_
          refine pg_get (D := D) (ci := 7) (v := .ref v18_2) (C := RX7) (T := TX7) (N := 6) hx hb hg inG7 hown hK hP ia.1 hM_100 rfl 2 (by decide) (hg _ wd_142) (fun _ h9 => h9) rfl dX7_cut_80 ?_
          refine lv_iload hx hb dX7_cut_83 (lv_at hl 1 rfl) ?_
          refine pg_lald hx hb hK hP h18_2.1 1 hM_99 rfl (inbN v9w14 100 (by omega) (by omega)) dX7_cut_85 ?_
          refine lv_topl (fun f_103 ef_103 => ?_)
          refine lv_lsub hx hb dX7_cut_86 ?_
          refine lv_topl (fun f_104 ef_104 => ?_)
          refine lv_lstore (lv' := [(7, .long f_104), (10, .long f_85), (9, .int (nI v9w14)), (5, .long f_10), (3, .long vr_5), (0, .ref oa), (1, .long k1)]) hx hb dX7_cut_87 hl (by decide) rfl (fun ls hl => ?_)
          refine lv_iinc (v := (nI (v9w14 + 1))) (lv' := [(9, .int (nI (v9w14 + 1))), (7, .long f_104), (10, .long f_85), (5, .long f_10), (3, .long vr_5), (0, .ref oa), (1, .long k1)]) hx hb dX7_cut_89 hl (k := 2) rfl (nI_1 v9w14) (by decide) rfl (fun ls hl => ?_)
          refine lv_goto (tgt := 34) hx hb dX7_cut_92 (by decide) ?_
          exact ih_12 f_104 (v9w14 + 1) M_97 H_96 _ _ (by omega) (by omega) hW hF hP hD hS (lv_sub hl [0, 1, 3, 4, 5, 6] rfl)
    exact key_11 (100 - 0 + 1) f_10 0 M H_1 _ _ (by omega) (by omega) hW hF hP hD hS (lv_sub hl [0, 1, 2, 3, 4, 5] rfl)
  · have hz := rfl (a := 0)
    have d_9 : ¬ 0 < vr_5 := lc_gtf c_8
    refine lv_aload_n hx hb dX7_cut_11 rfl (lv_at hl 1 rfl) ?_
    refine pg_get (D := D) (ci := 7) (v := .ref y2) (C := RX7) (T := TX7) (N := 6) hx hb hg inG7 hown hK hP ia.1 hMy rfl 2 (by decide) (hg _ wd_142) (fun _ h9 => h9) rfl dX7_cut_12 ?_
    refine lv_lconst (v := 0) hx hb dX7_cut_15 (by decide) ?_
    have hPc : va_P D vwCl ([] ++ va_pl L M) H_1 := hP
    have hDc : va_D A ([] ++ va_pl L M) := hD
    have hFc : ∀ q, va_A ([] ++ va_pl L M) H_1.size q → A q := pg_free hDc hS hA
    refine va_callv (va_runS (As := [.ref y2, .long 0]) (rest := []) ⟨hx, hb, hml, hown, hg⟩ (s_J7_fill_d0a16_69 l D cy K L M H_1.size y2 100 0  hW hy2 (by omega)) (va_cwS 2 hg (gS wd_157 wd_158 wd_159 wd_160) rfl rfl rfl (by decide +kernel) ⟨(Nat.le_trans (Nat.le_of_ble_eq_true rfl) hRf), (Nat.le_trans (Nat.le_of_ble_eq_true rfl) hRl)⟩) ⟨PG.blind, fun U hU hW => ⟨rfl, PG.at hPc hK hDc hN hU hW⟩⟩ rfl rfl hl.1 rfl (lv_room (Nat.le_of_ble_eq_true rfl)) dX7_cut_16 ⟨(Nat.le_trans (Nat.le_of_ble_eq_true rfl) hRc), (Nat.le_trans (Nat.le_of_ble_eq_true rfl) hRs)⟩) hS (fun q _ h => hFc q h) hFc (fun M_107 t H_105 locs ht hvm hw hB hz1 hk1 hS => ?_)
    obtain ⟨hW, hF2, hp_108⟩ := hw
    obtain ⟨hP1, hD1⟩ := hB
    rw [ht] at hP1
    have hP : va_P D vwCl ([] ++ va_pl L M_107) H_105 := hP1
    have hD : va_D A ([] ++ va_pl L M_107) := hD1.mono hFc
    have hM_109 : M_107 oa = (b7_8 y0 y1 y2 y3 y4 (nI y5)) := (hF2.at ia (by decide)).trans hMy
    have hF : fr K L [69, 70] M M_107 := hF.tr hF2 (by decide)
    refine lv_lconst (v := 0) hx hb dX7_cut_19 (by decide) ?_
    rw [hQ]
    exact W.lret (v := 0) hx hb hr (fun t ht hW9 => ⟨⟨0, M_107, rfl, ⟨hW, hF, ⟨_, rfl, (by rw [if_pos (by rw [← c_6]; have h9 := Int64.le_iff_toInt_le.mp (Int64.not_lt.mp d_9); rw [show (0 : Int64).toInt = 0 from rfl] at h9; exact h9)])⟩⟩, ⟨by rw [ht]; exact hP, hD⟩⟩, hS.F ht⟩) hS.2.2 dX7_cut_20
set_option maxHeartbeats 4000000 in
set_option maxRecDepth 100000 in
theorem x_hidden (l : Launch) (D : va_G) (cy : Nat → ClassId) (K : Kp) (L : List Nat) (M : Hp) (sz : Nat) (xa : Nat) (x0 : Nat) (x1 : Nat) (x2 : Nat) (x3 : Nat) (x4 : Nat) (x5 : Nat) (x6 : Nat) (x7 : Int32) (x8 : Nat) (x9 : Int32) (x10 : Int32) (k1 : Int32) (k2 : Int32) (k3 : Int32) (Bo : Nat → Nat × Nat) (T : Int) (PK : Nat → Int32) (PT : Nat → Int32) (SX : Nat → Nat → Int) (SY : Nat → Nat → Nat → Int32) (hW : WOK cy K L M) (i0 : isk K L x0 17 8) (b1 : x1 ≤ 8) (i2 : isk K L x2 19 40) (b3 : x3 ≤ 40) (i4 : isk K L x4 7 0) (i5 : isk K L x5 5 0) (i6 : isk K L x6 60 24) (i8 : isk K L x8 73 25) (hC : CX Bo K L x0 x1 T x3 PK PT SX SY M) (hSV : ∀ k, k < x1 → SV (SX k) (SY k)) (hHI : ∀ k, k < x1 → HI (SX k) (SY k)) (hT : (0 ≤ T ∧ T ≤ 900000)) (hTN : TNN x1 SX SY) : Met l yX11_hidden (wsM yX11_hidden cX11_hidden 9 (some .int)) ({ frames := 3, cells := 0, slots := 0, locals := 67 }) (va_Pc [.ref xa, .int k1, .int k2, .int k3] (PG D cy [(xa, (b11_1 x0 (nI x1) x2 (nI x3) x4 x5 x6 x7 x8 x9 x10))] L M sz)) (va_Qi (fun (r : Int32) (M9 : Hp) => WOK cy K L M9 ∧ fr K L [7, 9, 64, 68, 69, 70] M M9 ∧ fT 9 K L [10] M M9 ∧ (CX Bo K L x0 x1 (T + 1) x3 PK PT SX SY M9) ∧ ((r = anHi x1 SX SY k1 k2 k3))) (fun M9 t => ∃ (w9 : Int32), PQ D [(xa, (b11_1 x0 (nI x1) x2 (nI x3) x4 x5 x6 x7 x8 w9 (-1)))] L M9 (va_A ([(xa, (b11_1 x0 (nI x1) x2 (nI x3) x4 x5 x6 x7 x8 x9 x10))] ++ va_pl L M) sz) t) (va_A ([(xa, (b11_1 x0 (nI x1) x2 (nI x3) x4 x5 x6 x7 x8 x9 x10))] ++ va_pl L M) sz)) 0 0 (va_A ([(xa, (b11_1 x0 (nI x1) x2 (nI x3) x4 x5 x6 x7 x8 x9 x10))] ++ va_pl L M) sz) := by
  refine Met.ofW (cc := cX11_hidden) (maxL := 9) (ret := (some .int)) (by decide) rfl ?_
  intro p e s m args below meth c s₁ B hml hv
  obtain ⟨rfl, hsz, hP, hK, hD0, hN⟩ := hv
  have hx := B.exec
  have hb := B.bytes
  have hr := B.returns
  have hts := atoms_spec (ws := (wsM yX11_hidden cX11_hidden 9 (some .int))) B.pre
  have hg : ∀ w ∈ lw_good, w.before _ s = true := fun w h => hts w (List.mem_cons_of_mem _ h)
  have hown : s.vm.findClass RX11 = some m.cls := findClass_of_methodNamed B.named
  have hlocks := B.notSynchronized
  subst hsz
  have hD := hD0.self (sz := s.heap.size)
  generalize hAe : va_A ([(xa, (b11_1 x0 (nI x1) x2 (nI x3) x4 x5 x6 x7 x8 x9 x10))] ++ va_pl L M) s.heap.size = A at hD ⊢
  have hA : ∀ q : Nat, s.heap.size ≤ q → A q := fun q h => by rw [← hAe]; exact Or.inr h
  have hS : va_S A s.heap s.heap [] := va_S.rf
  have hl := lv_entry ([.ref xa, .int k1, .int k2, .int k3]) (n := 9) (Nat.le_of_ble_eq_true rfl)
  rw [lg_entry_eq]
  generalize (lg_sl ([.ref xa, .int k1, .int k2, .int k3]) ++ List.replicate (9 - (lg_sl ([.ref xa, .int k1, .int k2, .int k3])).length) Slot.unset).toArray = ls at hl ⊢
  refine W.nameQ (fun Q hQ => ?_)
  refine W.nameR (fun R hR => ?_)
  have hRf : 3 ≤ R.frames := by rw [hR]; exact Nat.le_of_ble_eq_true rfl
  have hRl : 67 ≤ R.locals := by rw [hR]; exact Nat.le_of_ble_eq_true rfl
  have hRc : 0 ≤ R.cells := by rw [hR]; exact Nat.le_of_ble_eq_true rfl
  have hRs : 0 ≤ R.slots := by rw [hR]; exact Nat.le_of_ble_eq_true rfl
  have hF : fr K L [7, 9, 64, 68, 69, 70] M M := fr.rf
  have hT9 : fT 9 K L [10] M M := fT.rf
  have hl : lv_has ls 9 [(0, .ref xa), (1, .int k1), (2, .int k2), (3, .int k3)] := hl
  have hW0 := hW
  refine lv_aload_n hx hb dX11_hidden_0 rfl (lv_at hl 0 rfl) ?_
  refine lv_iload_n hx hb dX11_hidden_1 rfl (lv_at hl 1 rfl) ?_
  have hPc : va_P D vwCl ([(xa, (b11_1 x0 (nI x1) x2 (nI x3) x4 x5 x6 x7 x8 x9 x10))] ++ va_pl L M) s.heap := hP
  have hDc : va_D A ([(xa, (b11_1 x0 (nI x1) x2 (nI x3) x4 x5 x6 x7 x8 x9 x10))] ++ va_pl L M) := hD
  have hFc : ∀ q, va_A ([(xa, (b11_1 x0 (nI x1) x2 (nI x3) x4 x5 x6 x7 x8 x9 x10))] ++ va_pl L M) s.heap.size q → A q := pg_free hDc hS hA
  refine va_callq (va_runV (As := [.int k1]) (rest := []) ⟨hx, hb, hml, hown, hg⟩ (e_houseAt l D cy K L M s.heap.size xa x0 x1 x2 x3 x4 x5 x6 x7 x8 x9 x10 k1 Bo T PK PT SX SY  hW i0 b1 i2 b3 i4 i5 i6 i8 hC) (cwV 1 hg (gV wd_340 wd_341 wd_342 wd_3 wd_343) rfl rfl rfl (by decide +kernel) ⟨(Nat.le_trans (Nat.le_of_ble_eq_true rfl) hRf), (Nat.le_trans (Nat.le_of_ble_eq_true rfl) hRl)⟩) ⟨PG.blind, va_recv hK hP (ci := 11) (q0 := 0) rfl rfl, fun U hU hW => ⟨rfl, PG.at hPc hK hDc hN hU hW⟩⟩ rfl rfl hl.1 rfl (lv_room (Nat.le_of_ble_eq_true rfl)) dX11_hidden_2 ⟨(Nat.le_trans (Nat.le_of_ble_eq_true rfl) hRc), (Nat.le_trans (Nat.le_of_ble_eq_true rfl) hRs)⟩) hS (fun q _ h => hFc q h) hFc (fun r_2 M_3 t H_1 locs ht hvm hw hB hz1 hk1 hS => ?_)
  have hp_4 := hw
  obtain ⟨hP1, hD1⟩ := hB
  rw [ht] at hP1
  have hP : va_P D vwCl ([(xa, (b11_1 x0 (nI x1) x2 (nI x3) x4 x5 x6 x7 x8 x9 x10))] ++ va_pl L M) H_1 := hP1
  have hD : va_D A ([(xa, (b11_1 x0 (nI x1) x2 (nI x3) x4 x5 x6 x7 x8 x9 x10))] ++ va_pl L M) := hD1.mono hFc
  obtain ⟨hp_4, hqx⟩ := hp_4
  rcases r_2 with _ | b_5
  · have hz := rfl (a := 0)
    refine lv_astoreN (lv' := [(4, .null), (0, .ref xa), (1, .int k1), (2, .int k2), (3, .int k3)]) hx hb dX11_hidden_5 hl (by decide) rfl (fun ls hl => ?_)
    refine lv_aloadN hx hb dX11_hidden_7 (lv_at hl 0 rfl) ?_
    refine lv_ifnullN (tgt := 20) hx hb dX11_hidden_9 (by decide) ?_
    refine lv_aload_n hx hb dX11_hidden_20 rfl (lv_at hl 1 rfl) ?_
    refine lv_iconst (v := 1) hx hb dX11_hidden_21 (by decide) ?_
    have hPc := hP.sub (ws' := [(xa, (b11_1 x0 (nI x1) x2 (nI x3) x4 x5 x6 x7 x8 x9 x10))]) [0] rfl
    have hDc := hD.sub (ws' := [(xa, (b11_1 x0 (nI x1) x2 (nI x3) x4 x5 x6 x7 x8 x9 x10))]) [0] (by decide) rfl
    have hKc := hK.sub (tys' := []) [] rfl
    have hFc := va_free (wc := [(xa, (b11_1 x0 (nI x1) x2 (nI x3) x4 x5 x6 x7 x8 x9 x10))]) hD hS hA [0] rfl
    refine va_calli (va_runV (As := [.int 1]) (rest := []) ⟨hx, hb, hml, hown, hg⟩ (k_refuse l D H_1.size xa x0 (nI x1) x2 (nI x3) x4 x5 x6 x7 x8 x9 x10 1) (cwV 1 hg (gV wd_344 wd_345 wd_346 wd_3 wd_347) rfl rfl rfl (by decide +kernel) ⟨(Nat.le_trans (Nat.le_of_ble_eq_true rfl) hRf), (Nat.le_trans (Nat.le_of_ble_eq_true rfl) hRl)⟩) ⟨Pr.blind, va_recv hK hP (ci := 11) (q0 := 0) rfl rfl, fun U hU hW => ⟨rfl, Pr.at hPc hKc hDc hN hU hW⟩⟩ rfl rfl hl.1 rfl (lv_room (Nat.le_of_ble_eq_true rfl)) dX11_hidden_22 ⟨(Nat.le_trans (Nat.le_of_ble_eq_true rfl) hRc), (Nat.le_trans (Nat.le_of_ble_eq_true rfl) hRs)⟩) hS (fun q _ h => hFc q h) hFc (fun r_7 M_8 t H_6 locs ht hvm hw hB hz1 hk1 hS => ?_)
    have hp_9 := hw
    obtain ⟨hP1, hK1, hD1⟩ := hB
    rw [ht] at hP1
    obtain ⟨hP, hD⟩ := va_joinQ (X := [(xa, (b11_1 x0 (nI x1) x2 (nI x3) x4 x5 x6 x7 x8 x9 x10))]) (cx := [(xa, (b11_1 x0 (nI x1) x2 (nI x3) x4 x5 x6 x7 x8 x9 x10))]) (wr := []) (w1 := [(xa, (b11_1 x0 (nI x1) x2 (nI x3) x4 x5 x6 x7 x8 1 (-1)))]) (pl := va_pl L M) hP hD [0] [] rfl rfl (by decide) (by decide) hk1 hFc hP1 hD1
    have hP : va_P D vwCl ([(xa, (b11_1 x0 (nI x1) x2 (nI x3) x4 x5 x6 x7 x8 1 (-1)))] ++ va_pl L M) H_6 := hP
    have hD : va_D A ([(xa, (b11_1 x0 (nI x1) x2 (nI x3) x4 x5 x6 x7 x8 1 (-1)))] ++ va_pl L M) := hD
    have hq := Eq.symm hp_9
    subst hq
    have hnh := hqx.2 rfl
    have hno : ¬ okHi x1 SX k1 k2 k3 := fun q9 => by unfold okHi okH at q9; first | omega | (obtain ⟨⟨_, _⟩, _, _, _, _, _⟩ := q9; first | omega | contradiction)
    rw [hQ]
    exact W.iret (v := (-1)) hx hb hr (fun t ht hW9 => ⟨⟨(-1), M, rfl, ⟨hW, hF, hT9, hC.mono, (by unfold anHi; rw [if_neg hno])⟩, ⟨1, by rw [ht]; exact hP, hD⟩⟩, hS.F ht⟩) hS.2.2 dX11_hidden_25
  · have hb_10 := hp_4 b_5 rfl
    refine lv_astore (lv' := [(4, .ref b_5), (0, .ref xa), (1, .int k1), (2, .int k2), (3, .int k3)]) hx hb dX11_hidden_5 hl (by decide) rfl (fun ls hl => ?_)
    obtain ⟨hr9, hb9⟩ := hqx.1 b_5 rfl
    have hck : ((k1 : Int32).toNatClampNeg : Int) = (k1 : Int32).toInt := clT (by omega)
    have hkn : (k1 : Int32).toNatClampNeg < x1 := by omega
    have hSM := hC.at hkn hb9
    have hSVk := hSV (k1 : Int32).toNatClampNeg hkn
    have hHIk := hHI (k1 : Int32).toNatClampNeg hkn
    have hV : VC Bo K L M M b_5 (cfx M b_5) (cax M b_5) := VC.rf b_5 hC.oc
    obtain ⟨v11_0, v11_1, v11_2, v11_3, v11_4, v11_5, v11_6, v11_7, v11_8, v11_9, v11_10, v11_11, v11_12, v11_13, v11_14, v11_15, v11_16, v11_17, v11_18, v11_19, hM11, h11_3, h11_4, h11_5, h11_6, h11_7, h11_8, h11_9, h11_10, h11_11, h11_12, h11_13, h11_16, h11_17, h11_18, h11_19⟩ := hW.open_2 hb_10
    have hA_12 : (cV 2 M b_5 0).toInt = (v11_0 : Int32).toInt := by rw [cV_of hM11 rfl]
    have hA_13 : (cV 2 M b_5 1).toInt = (v11_1 : Int32).toInt := by rw [cV_of hM11 rfl]
    have hA_14 : (cV 2 M b_5 2).toInt = (v11_2 : Int32).toInt := by rw [cV_of hM11 rfl]
    have hA_15 : (cV 2 M b_5 4).toInt = ((v11_4 : Nat) : Int) := by rw [cV_of hM11 rfl]; exact nI_toInt (by omega)
    have hA_16 : (cV 2 M b_5 5).toInt = ((v11_5 : Nat) : Int) := by rw [cV_of hM11 rfl]; exact nI_toInt (by omega)
    have hA_17 : (cV 2 M b_5 9).toInt = ((v11_9 : Nat) : Int) := by rw [cV_of hM11 rfl]; exact nI_toInt (by omega)
    have hA_18 : (cV 2 M b_5 11).toInt = ((v11_11 : Nat) : Int) := by rw [cV_of hM11 rfl]; exact nI_toInt (by omega)
    have hA_19 : (cV 2 M b_5 15).toInt = (v11_15 : Int32).toInt := by rw [cV_of hM11 rfl]
    have hq0 : (cV 2 M b_5 1).toInt = SX (k1 : Int32).toNatClampNeg 0 := hSM.x0
    have hq1 : (cV 2 M b_5 2).toInt = SX (k1 : Int32).toNatClampNeg 1 := hSM.x1
    have hq10 : (cV 2 M b_5 9).toInt = SX (k1 : Int32).toNatClampNeg 10 := hSM.x10
    have hq11 : (cV 2 M b_5 11).toInt = SX (k1 : Int32).toNatClampNeg 11 := hSM.x11
    have hq12 : (cV 2 M b_5 4).toInt = SX (k1 : Int32).toNatClampNeg 12 := hSM.x12
    have hq13 : (cV 2 M b_5 5).toInt = SX (k1 : Int32).toNatClampNeg 13 := hSM.x13
    have hq14 : (cV 1 M v11_16 3).toInt = SX (k1 : Int32).toNatClampNeg 14 := by have h9 := hSM.x14; rw [← h9]; show _ = (cV 1 M (rA 2 M b_5 16) 3).toInt; rw [rA_of (j := 16) hM11 rfl]
    have hq15 : (cV 1 M v11_17 3).toInt = SX (k1 : Int32).toNatClampNeg 15 := by have h9 := hSM.x15; rw [← h9]; show _ = (cV 1 M (rA 2 M b_5 17) 3).toInt; rw [rA_of (j := 17) hM11 rfl]
    have hq16 : (cV 10 M v11_18 2).toInt = SX (k1 : Int32).toNatClampNeg 16 := by have h9 := hSM.x16; rw [← h9]; show _ = (cV 10 M (rA 2 M b_5 18) 2).toInt; rw [rA_of (j := 18) hM11 rfl]
    have hq19 : (cV 10 M v11_18 1).toInt = cfx M b_5 19 := by show _ = (cV 10 M (rA 2 M b_5 18) 1).toInt; rw [rA_of (j := 18) hM11 rfl]
    have hun := hSM.un
    have hl16 : (ALc (M (rA 1 M v11_16 1)) : Int) = 120 := by have h9 := hC.oc.l16 hW hb_10; rw [rA_of (j := 16) hM11 rfl] at h9; omega
    have hl17 : (ALc (M (rA 1 M v11_17 1)) : Int) = 20 := by have h9 := hC.oc.l17 hW hb_10; rw [rA_of (j := 17) hM11 rfl] at h9; omega
    have hbd0 := hSVk.b0
    have hbd1 := hSVk.b1
    have hbd10 := hSVk.b10
    have hbd11 := hSVk.b11
    have hbd12 := hSVk.b12
    have hbd13 := hSVk.b13
    have hbd14 := hSVk.b14
    have hbd15 := hSVk.b15
    have hbd16 := hSVk.b16
    have hqx14 : cfx M b_5 14 = SX (k1 : Int32).toNatClampNeg 14 := hSM.x14
    have hqx15 : cfx M b_5 15 = SX (k1 : Int32).toNatClampNeg 15 := hSM.x15
    have hqx16 : cfx M b_5 16 = SX (k1 : Int32).toNatClampNeg 16 := hSM.x16
    refine lv_aload hx hb dX11_hidden_7 (lv_at hl 0 rfl) ?_
    refine lv_ifnull hx hb dX11_hidden_9 ?_
    refine lv_aload hx hb dX11_hidden_12 (lv_at hl 0 rfl) ?_
    refine pg_get (D := D) (ci := 2) (v := .int (nI v11_11)) (C := RX2) (T := TX2) (N := 20) hx hb hg inG2 hown hK hP hb_10.1 hM11 rfl 11 (by decide) (hg _ wd_442) (fun _ h9 => h9) rfl dX11_hidden_14 ?_
    refine lv_if_ne (tgt := 26) hx hb dX11_hidden_17 (by decide) (fun c_20 => ?_) (fun c_20 => ?_)
    · have hz := rfl (a := 0)
      have n_21 : ¬ (v11_11 = 0) := fun q => c_20 ((iEQ (a := v11_11) (b := 0) (by omega) (by omega)).mpr q)
      refine lv_iload_n hx hb dX11_hidden_26 rfl (lv_at hl 4 rfl) ?_
      have hPc : va_P D vwCl ([] ++ va_pl L M) H_1 := hP.part (cx := []) [] rfl
      have hDc : va_D A ([] ++ va_pl L M) := hD.part (cx := []) [] (by decide) rfl
      have hFc : ∀ q, va_A ([] ++ va_pl L M) H_1.size q → A q := pg_free hDc hS hA
      refine va_calli (va_runS (As := [.int k3]) (rest := []) ⟨hx, hb, hml, hown, hg⟩ (e_X11_isSum l D cy K L M H_1.size k3  hW ) (va_cwS 1 hg (gS wd_384 wd_385 wd_3 wd_386) rfl rfl rfl (by decide +kernel) ⟨(Nat.le_trans (Nat.le_of_ble_eq_true rfl) hRf), (Nat.le_trans (Nat.le_of_ble_eq_true rfl) hRl)⟩) ⟨PG.blind, fun U hU hW => ⟨rfl, PG.at hPc hK hDc hN hU hW⟩⟩ rfl rfl hl.1 rfl (lv_room (Nat.le_of_ble_eq_true rfl)) dX11_hidden_27 ⟨(Nat.le_trans (Nat.le_of_ble_eq_true rfl) hRc), (Nat.le_trans (Nat.le_of_ble_eq_true rfl) hRs)⟩) hS (fun q _ h => hFc q h) hFc (fun r_23 M_24 t H_22 locs ht hvm hw hB hz1 hk1 hS => ?_)
      have hp_25 := hw
      obtain ⟨hP1, hD1⟩ := hB
      rw [ht] at hP1
      obtain ⟨hP, hD⟩ := va_joinP (X := [(xa, (b11_1 x0 (nI x1) x2 (nI x3) x4 x5 x6 x7 x8 x9 x10))]) (cx := []) (wr := [(xa, (b11_1 x0 (nI x1) x2 (nI x3) x4 x5 x6 x7 x8 x9 x10))]) (rx := []) (pl := va_pl L M) (pl1 := va_pl L M) hP hD [] [0] rfl rfl (by decide) (by decide) hk1 hFc hP1 hD1
      have hP : va_P D vwCl ([(xa, (b11_1 x0 (nI x1) x2 (nI x3) x4 x5 x6 x7 x8 x9 x10))] ++ va_pl L M) H_22 := hP
      have hD : va_D A ([(xa, (b11_1 x0 (nI x1) x2 (nI x3) x4 x5 x6 x7 x8 x9 x10))] ++ va_pl L M) := hD
      rcases hp_25 with ⟨rfl, c_26⟩ | ⟨rfl, c_27⟩
      · have hz := rfl (a := 0)
        refine lv_if_ne (tgt := 39) hx hb dX11_hidden_30 (by decide) (fun _ => ?_) (fun c_28 => absurd c_28 (by decide))
        refine lv_iload_n hx hb dX11_hidden_39 rfl (lv_at hl 3 rfl) ?_
        refine lv_aload hx hb dX11_hidden_40 (lv_at hl 0 rfl) ?_
        refine pg_get (D := D) (ci := 2) (v := .int v11_1) (C := RX2) (T := TX2) (N := 20) hx hb hg inG2 hown hK hP hb_10.1 hM11 rfl 1 (by decide) (hg _ wd_439) (fun _ h9 => h9) rfl dX11_hidden_42 ?_
        refine lv_icmp_lt (tgt := 55) hx hb dX11_hidden_45 (by decide) (fun c_29 => ?_) (fun c_29 => ?_)
        · have hz := rfl (a := 0)
          refine lv_aload_n hx hb dX11_hidden_55 rfl (lv_at hl 1 rfl) ?_
          refine lv_iconst (v := 3) hx hb dX11_hidden_56 (by decide) ?_
          have hPc := hP.sub (ws' := [(xa, (b11_1 x0 (nI x1) x2 (nI x3) x4 x5 x6 x7 x8 x9 x10))]) [0] rfl
          have hDc := hD.sub (ws' := [(xa, (b11_1 x0 (nI x1) x2 (nI x3) x4 x5 x6 x7 x8 x9 x10))]) [0] (by decide) rfl
          have hKc := hK.sub (tys' := []) [] rfl
          have hFc := va_free (wc := [(xa, (b11_1 x0 (nI x1) x2 (nI x3) x4 x5 x6 x7 x8 x9 x10))]) hD hS hA [0] rfl
          refine va_calli (va_runV (As := [.int 3]) (rest := []) ⟨hx, hb, hml, hown, hg⟩ (k_refuse l D H_22.size xa x0 (nI x1) x2 (nI x3) x4 x5 x6 x7 x8 x9 x10 3) (cwV 1 hg (gV wd_344 wd_345 wd_346 wd_3 wd_347) rfl rfl rfl (by decide +kernel) ⟨(Nat.le_trans (Nat.le_of_ble_eq_true rfl) hRf), (Nat.le_trans (Nat.le_of_ble_eq_true rfl) hRl)⟩) ⟨Pr.blind, va_recv hK hP (ci := 11) (q0 := 0) rfl rfl, fun U hU hW => ⟨rfl, Pr.at hPc hKc hDc hN hU hW⟩⟩ rfl rfl hl.1 rfl (lv_room (Nat.le_of_ble_eq_true rfl)) dX11_hidden_57 ⟨(Nat.le_trans (Nat.le_of_ble_eq_true rfl) hRc), (Nat.le_trans (Nat.le_of_ble_eq_true rfl) hRs)⟩) hS (fun q _ h => hFc q h) hFc (fun r_31 M_32 t H_30 locs ht hvm hw hB hz1 hk1 hS => ?_)
          have hp_33 := hw
          obtain ⟨hP1, hK1, hD1⟩ := hB
          rw [ht] at hP1
          obtain ⟨hP, hD⟩ := va_joinQ (X := [(xa, (b11_1 x0 (nI x1) x2 (nI x3) x4 x5 x6 x7 x8 x9 x10))]) (cx := [(xa, (b11_1 x0 (nI x1) x2 (nI x3) x4 x5 x6 x7 x8 x9 x10))]) (wr := []) (w1 := [(xa, (b11_1 x0 (nI x1) x2 (nI x3) x4 x5 x6 x7 x8 3 (-1)))]) (pl := va_pl L M) hP hD [0] [] rfl rfl (by decide) (by decide) hk1 hFc hP1 hD1
          have hP : va_P D vwCl ([(xa, (b11_1 x0 (nI x1) x2 (nI x3) x4 x5 x6 x7 x8 3 (-1)))] ++ va_pl L M) H_30 := hP
          have hD : va_D A ([(xa, (b11_1 x0 (nI x1) x2 (nI x3) x4 x5 x6 x7 x8 3 (-1)))] ++ va_pl L M) := hD
          have hq := Eq.symm hp_33
          subst hq
          have hI_34 : ((v11_11 : Nat) : Int) ≠ (0 : Int) := ineI (nI_toInt (by omega)) rfl c_20
          have hI_35 : (k2 : Int32).toInt < (v11_1 : Int32).toInt := iltI rfl rfl c_29
          have hno : ¬ okHi x1 SX k1 k2 k3 := fun q9 => by unfold okHi okH at q9; first | omega | (obtain ⟨⟨_, _⟩, _, _, _, _, _⟩ := q9; first | omega | contradiction)
          rw [hQ]
          exact W.iret (v := (-1)) hx hb hr (fun t ht hW9 => ⟨⟨(-1), M, rfl, ⟨hW, hF, hT9, hC.mono, (by unfold anHi; rw [if_neg hno])⟩, ⟨3, by rw [ht]; exact hP, hD⟩⟩, hS.F ht⟩) hS.2.2 dX11_hidden_60
        · have hz := rfl (a := 0)
          refine lv_iload_n hx hb dX11_hidden_48 rfl (lv_at hl 3 rfl) ?_
          refine lv_sipush (v := 999) hx hb dX11_hidden_49 (by decide) ?_
          refine lv_icmp_le (tgt := 61) hx hb dX11_hidden_52 (by decide) (fun c_36 => ?_) (fun c_36 => ?_)
          · have hz := rfl (a := 0)
            have hI_37 : ((v11_11 : Nat) : Int) ≠ (0 : Int) := ineI (nI_toInt (by omega)) rfl c_20
            have hI_38 : (v11_1 : Int32).toInt ≤ (k2 : Int32).toInt := inltI rfl rfl c_29
            have hI_39 : (k2 : Int32).toInt ≤ (999 : Int) := ileI rfl rfl c_36
            have hn28 : ∀ i : Nat, (i : Int) < cfx M b_5 10 → cax M b_5 28 i = 1 := fun i hi => by have h9 := hSM.x10; exact (hSM.tn i (by omega)).mpr (by omega)
            have hn33 : ∀ i : Nat, (i : Int) < cfx M b_5 11 → cax M b_5 33 i = 1 := fun i hi => by have h9 := hSM.x11; exact (hSM.ru i (by omega)).1
            have hf0 := hHIk.2.2.2.1.1 (by omega)
            obtain ⟨kr, hkr⟩ := RLN.ex (Y := SY k1.toNatClampNeg) (d := k2.toInt) (by omega) (SX k1.toNatClampNeg 11).toNat (by omega)
            have hkr1 := hkr.1
            have htn9 := hTN k1.toNatClampNeg hkn kr (by omega)
            have hcg9 : ∀ i : Nat, i < (SX k1.toNatClampNeg 11).toNat → cax M b_5 34 i = SY k1.toNatClampNeg 34 i ∧ ∀ m : Nat, m < 24 → cax M b_5 36 (24 * i + m) = SY k1.toNatClampNeg 36 (24 * i + m) := fun i hi => ⟨(hSM.ru i (by omega)).2.1, (hSM.ru i (by omega)).2.2.2⟩
            refine lv_aload_n hx hb dX11_hidden_61 rfl (lv_at hl 1 rfl) ?_
            refine va_get (D := D) (ci := 11) (v := .ref x4) (C := RX11) (T := TX11) (N := 11) hx hb hg inG11 hown hK hP 0 rfl rfl 4 (by decide) (hg _ wd_443) (fun _ h9 => h9) rfl dX11_hidden_62 ?_
            obtain ⟨v40_0, v40_1, v40_2, v40_3, v40_4, v40_5, hM40, h40_0, h40_1, h40_2, h40_3, h40_4, h40_5⟩ := hW.open_7 i4
            have hPc : va_P D vwCl ([] ++ va_pl L M) H_22 := hP.part (cx := []) [] rfl
            have hDc : va_D A ([] ++ va_pl L M) := hD.part (cx := []) [] (by decide) rfl
            have hFc : ∀ q, va_A ([] ++ va_pl L M) H_22.size q → A q := pg_free hDc hS hA
            refine va_callv (va_runV (As := []) (rest := []) ⟨hx, hb, hml, hown, hg⟩ (e_start l D cy K L M H_22.size x4 v40_0 v40_1 v40_2 v40_3 v40_4 v40_5 hW i4 hM40 h40_0 h40_1 h40_2 h40_3 h40_4 h40_5) (cwV 0 hg (gV wd_444 wd_209 wd_210 wd_148 wd_211) rfl rfl rfl (by decide +kernel) ⟨(Nat.le_trans (Nat.le_of_ble_eq_true rfl) hRf), (Nat.le_trans (Nat.le_of_ble_eq_true rfl) hRl)⟩) ⟨PG.blind, pg_recv hK hP i4.1 hM40 rfl, fun U hU hW => ⟨rfl, PG.at hPc hK hDc hN hU hW⟩⟩ rfl rfl hl.1 rfl (lv_room (Nat.le_of_ble_eq_true rfl)) dX11_hidden_65 ⟨(Nat.le_trans (Nat.le_of_ble_eq_true rfl) hRc), (Nat.le_trans (Nat.le_of_ble_eq_true rfl) hRs)⟩) hS (fun q _ h => hFc q h) hFc (fun M_43 t H_41 locs ht hvm hw hB hz1 hk1 hS => ?_)
            have hWb := hW
            obtain ⟨hW, hF2, hM_45, hp_44⟩ := hw
            obtain ⟨hP1, hD1⟩ := hB
            rw [ht] at hP1
            obtain ⟨hP, hD⟩ := va_joinP (X := [(xa, (b11_1 x0 (nI x1) x2 (nI x3) x4 x5 x6 x7 x8 x9 x10))]) (cx := []) (wr := [(xa, (b11_1 x0 (nI x1) x2 (nI x3) x4 x5 x6 x7 x8 x9 x10))]) (rx := []) (pl := va_pl L M) (pl1 := va_pl L M_43) hP hD [] [0] rfl rfl (by decide) (by decide) hk1 hFc hP1 hD1
            have hP : va_P D vwCl ([(xa, (b11_1 x0 (nI x1) x2 (nI x3) x4 x5 x6 x7 x8 x9 x10))] ++ va_pl L M_43) H_41 := hP
            have hD : va_D A ([(xa, (b11_1 x0 (nI x1) x2 (nI x3) x4 x5 x6 x7 x8 x9 x10))] ++ va_pl L M_43) := hD
            have hM_46 : M_43 b_5 = (b2_2 v11_0 v11_1 v11_2 v11_3 (nI v11_4) (nI v11_5) v11_6 v11_7 v11_8 (nI v11_9) v11_10 (nI v11_11) v11_12 v11_13 v11_14 v11_15 v11_16 v11_17 v11_18 v11_19) := (hF2.at hb_10 (by decide)).trans hM11
            have hb_47 : 0 ≤ 100 := by omega
            have hF : fr K L [7, 9, 64, 68, 69, 70] M M_43 := hF.tr hF2 (by decide)
            have hT9 : fT 9 K L [10] M M_43 := hT9.frr hF2 (by decide)
            have hV : VC Bo K L M M_43 b_5 (cfx M b_5) (cax M b_5) := hV.same hWb hb_10 (SAME.fr (fr.cv hF2 (by decide)) (fr.cv hF2 (by decide)) (fr.cv hF2 (by decide)) (fr.cv hF2 (by decide)) (fr.cv hF2 (by decide)) (fr.cv hF2 (by decide)) (fr.cv hF2 (by decide)) hF2 (by decide))
            refine lv_iconst (v := 0) hx hb dX11_hidden_68 (by decide) ?_
            refine lv_istore (lv' := [(5, .int 0), (4, .ref b_5), (0, .ref xa), (1, .int k1), (2, .int k2), (3, .int k3)]) hx hb dX11_hidden_69 hl (by decide) rfl (fun ls hl => ?_)
            obtain ⟨f48, hM48⟩ := hW.open_68 h40_1
            have key_49 : ∀ (fu_51 : Nat) (v5w52 : Nat) (gWw52 : Nat → Int64) (gCw52 : Nat) (M_56 : Hp) (H_57 : Heap) (locs : List Loc) (ls : Array Slot), 6 - v5w52 < fu_51 → M_56 x4 = (b7_8 v40_0 v40_1 v40_2 v40_3 v40_4 (nI gCw52)) → M_56 v40_1 = .inl (cy 15, 100, .inr (.inl (gWw52))) → gCw52 ≤ 100 → v5w52 ≤ 6 → gCw52 ≤ v5w52 → HWS (SX k1.toNatClampNeg) (SY k1.toNatClampNeg) k2.toInt kr gWw52 gCw52 v5w52 → WOK cy K L M_56 → fr K L [7, 9, 64, 68, 69, 70] M M_56 → fT 9 K L [10] M M_56 → VC Bo K L M M_56 b_5 (cfx M b_5) (cax M b_5) → va_P D vwCl ([(xa, (b11_1 x0 (nI x1) x2 (nI x3) x4 x5 x6 x7 x8 x9 x10))] ++ va_pl L M_56) H_57 → va_D A ([(xa, (b11_1 x0 (nI x1) x2 (nI x3) x4 x5 x6 x7 x8 x9 x10))] ++ va_pl L M_56) → va_S A s.heap H_57 locs → lv_has ls 9 [(5, .int (nI v5w52)), (4, .ref b_5), (0, .ref xa), (1, .int k1), (2, .int k2), (3, .int k3)] → W p l e R s m ([.ref xa, .int k1, .int k2, .int k3] : List Value).toArray below meth c H_57 locs 0 0 Q (F0 m 71 ls []) := by
              intro fu_51
              induction fu_51 with
              | zero => intro v5w52 gWw52 gCw52 M_56 H_57 locs ls h; exact absurd h (Nat.not_lt_zero _)
              | succ fu_51 ih_50 =>
                intro v5w52 gWw52 gCw52 M_56 H_57 locs ls hfu hM_58 hM_59 hb_60 hx_53 hx_54 hx_55 hW hF hT9 hV hP hD hS hl
                refine lv_iload hx hb dX11_hidden_71 (lv_at hl 0 rfl) ?_
                refine lv_bipush (v := 6) hx hb dX11_hidden_73 (by decide) ?_
                refine lv_icmp_ge (tgt := 118) hx hb dX11_hidden_75 (by decide) (fun c_61 => ?_) (fun c_61 => ?_)
                · have hz := rfl (a := 0)
                  have n_62 : 6 ≤ v5w52 := (iLE (a := 6) (b := v5w52) (by omega) (by omega)).mp c_61
                  refine lv_aload_n hx hb dX11_hidden_118 rfl (lv_at hl 2 rfl) ?_
                  refine va_get (D := D) (ci := 11) (v := .ref x4) (C := RX11) (T := TX11) (N := 11) hx hb hg inG11 hown hK hP 0 rfl rfl 4 (by decide) (hg _ wd_443) (fun _ h9 => h9) rfl dX11_hidden_119 ?_
                  refine lv_iload_n hx hb dX11_hidden_122 rfl (lv_at hl 5 rfl) ?_
                  refine lv_i2l hx hb dX11_hidden_123 rfl ?_
                  refine lv_topl (fun f_63 ef_63 => ?_)
                  have hPc : va_P D vwCl ([] ++ va_pl L M_56) H_57 := hP.part (cx := []) [] rfl
                  have hDc : va_D A ([] ++ va_pl L M_56) := hD.part (cx := []) [] (by decide) rfl
                  have hFc : ∀ q, va_A ([] ++ va_pl L M_56) H_57.size q → A q := pg_free hDc hS hA
                  refine va_calll (va_runV (As := [.long f_63]) (rest := []) ⟨hx, hb, hml, hown, hg⟩ (e_cut l D cy K L M_56 H_57.size x4 f_63 v40_0 v40_1 v40_2 v40_3 v40_4 gCw52 hW i4 hM_58 h40_0 h40_1 h40_2 h40_3 h40_4 hb_60) (cwV 1 hg (gV wd_445 wd_162 wd_163 wd_148 wd_164) rfl rfl rfl (by decide +kernel) ⟨(Nat.le_trans (Nat.le_of_ble_eq_true rfl) hRf), (Nat.le_trans (Nat.le_of_ble_eq_true rfl) hRl)⟩) ⟨PG.blind, pg_recv hK hP i4.1 hM_58 rfl, fun U hU hW => ⟨rfl, PG.at hPc hK hDc hN hU hW⟩⟩ rfl rfl hl.1 rfl (lv_room (Nat.le_of_ble_eq_true rfl)) dX11_hidden_124 ⟨(Nat.le_trans (Nat.le_of_ble_eq_true rfl) hRc), (Nat.le_trans (Nat.le_of_ble_eq_true rfl) hRs)⟩) hS (fun q _ h => hFc q h) hFc (fun r_65 M_66 t H_64 locs ht hvm hw hB hz1 hk1 hS => ?_)
                  have hWb := hW
                  obtain ⟨hW, hF2, hp_67⟩ := hw
                  obtain ⟨hP1, hD1⟩ := hB
                  rw [ht] at hP1
                  obtain ⟨hP, hD⟩ := va_joinP (X := [(xa, (b11_1 x0 (nI x1) x2 (nI x3) x4 x5 x6 x7 x8 x9 x10))]) (cx := []) (wr := [(xa, (b11_1 x0 (nI x1) x2 (nI x3) x4 x5 x6 x7 x8 x9 x10))]) (rx := []) (pl := va_pl L M_56) (pl1 := va_pl L M_66) hP hD [] [0] rfl rfl (by decide) (by decide) hk1 hFc hP1 hD1
                  have hP : va_P D vwCl ([(xa, (b11_1 x0 (nI x1) x2 (nI x3) x4 x5 x6 x7 x8 x9 x10))] ++ va_pl L M_66) H_64 := hP
                  have hD : va_D A ([(xa, (b11_1 x0 (nI x1) x2 (nI x3) x4 x5 x6 x7 x8 x9 x10))] ++ va_pl L M_66) := hD
                  have hM_68 : M_66 x4 = (b7_8 v40_0 v40_1 v40_2 v40_3 v40_4 (nI gCw52)) := (hF2.at i4 (by decide)).trans hM_58
                  have hM_69 : M_66 v40_1 = .inl (cy 15, 100, .inr (.inl (gWw52))) := (hF2.at h40_1 (by decide)).trans hM_59
                  have hF : fr K L [7, 9, 64, 68, 69, 70] M M_66 := hF.tr hF2 (by decide)
                  have hT9 : fT 9 K L [10] M M_66 := hT9.frr hF2 (by decide)
                  have hV : VC Bo K L M M_66 b_5 (cfx M b_5) (cax M b_5) := hV.same hWb hb_10 (SAME.fr (fr.cv hF2 (by decide)) (fr.cv hF2 (by decide)) (fr.cv hF2 (by decide)) (fr.cv hF2 (by decide)) (fr.cv hF2 (by decide)) (fr.cv hF2 (by decide)) (fr.cv hF2 (by decide)) hF2 (by decide))
                  obtain ⟨vr_70, hr_72, c_71⟩ := hp_67
                  have hq := Eq.symm hr_72
                  subst hq
                  have hcut : (¬ gts (SX k1.toNatClampNeg) (SY k1.toNatClampNeg) k2.toInt kr 6 ∧ vr_70 = 0) ∨ (gts (SX k1.toNatClampNeg) (SY k1.toNatClampNeg) k2.toInt kr 6 ∧ vr_70 = k3.toInt64) := by have h8 := hx_55; rw [show v5w52 = 6 by omega] at h8; have h9 := c_71; rw [LFc_of hM_59, ef_63] at h9; exact h8.cut h9
                  refine lv_lstore (lv' := [(5, .long vr_70), (4, .ref b_5), (0, .ref xa), (1, .int k1), (2, .int k2), (3, .int k3)]) hx hb dX11_hidden_127 hl (by decide) rfl (fun ls hl => ?_)
                  refine lv_iconst (v := 0) hx hb dX11_hidden_129 (by decide) ?_
                  refine lv_istore (lv' := [(7, .int 0), (5, .long vr_70), (4, .ref b_5), (0, .ref xa), (1, .int k1), (2, .int k2), (3, .int k3)]) hx hb dX11_hidden_130 hl (by decide) rfl (fun ls hl => ?_)
                  have key_73 : ∀ (fu_75 : Nat) (v7w76 : Nat) (M_78 : Hp) (H_79 : Heap) (locs : List Loc) (ls : Array Slot), 100 - v7w76 < fu_75 → v7w76 ≤ 100 → WOK cy K L M_78 → fr K L [7, 9, 64, 68, 69, 70] M M_78 → fT 9 K L [10] M M_78 → VC Bo K L M M_78 b_5 (cfx M b_5) (cax M b_5) → va_P D vwCl ([(xa, (b11_1 x0 (nI x1) x2 (nI x3) x4 x5 x6 x7 x8 x9 x10))] ++ va_pl L M_78) H_79 → va_D A ([(xa, (b11_1 x0 (nI x1) x2 (nI x3) x4 x5 x6 x7 x8 x9 x10))] ++ va_pl L M_78) → va_S A s.heap H_79 locs → lv_has ls 9 [(7, .int (nI v7w76)), (5, .long vr_70), (4, .ref b_5), (0, .ref xa), (1, .int k1), (2, .int k2), (3, .int k3)] → W p l e R s m ([.ref xa, .int k1, .int k2, .int k3] : List Value).toArray below meth c H_79 locs 0 0 Q (F0 m 132 ls []) := by
                    intro fu_75
                    induction fu_75 with
                    | zero => intro v7w76 M_78 H_79 locs ls h; exact absurd h (Nat.not_lt_zero _)
                    | succ fu_75 ih_74 =>
                      intro v7w76 M_78 H_79 locs ls hfu hx_77 hW hF hT9 hV hP hD hS hl
                      refine lv_iload hx hb dX11_hidden_132 (lv_at hl 0 rfl) ?_
                      refine lv_aload_n hx hb dX11_hidden_134 rfl (lv_at hl 3 rfl) ?_
                      refine va_get (D := D) (ci := 11) (v := .ref x4) (C := RX11) (T := TX11) (N := 11) hx hb hg inG11 hown hK hP 0 rfl rfl 4 (by decide) (hg _ wd_443) (fun _ h9 => h9) rfl dX11_hidden_135 ?_
                      obtain ⟨v80_0, v80_1, v80_2, v80_3, v80_4, v80_5, hM80, h80_0, h80_1, h80_2, h80_3, h80_4, h80_5⟩ := hW.open_7 i4
                      refine pg_get (D := D) (ci := 7) (v := .int (nI v80_5)) (C := RX7) (T := TX7) (N := 6) hx hb hg inG7 hown hK hP i4.1 hM80 rfl 5 (by decide) (hg _ wd_446) (fun _ h9 => h9) rfl dX11_hidden_138 ?_
                      refine lv_icmp_ge (tgt := 187) hx hb dX11_hidden_141 (by decide) (fun c_81 => ?_) (fun c_81 => ?_)
                      · have hz := rfl (a := 0)
                        have n_82 : v80_5 ≤ v7w76 := (iLE (a := v80_5) (b := v7w76) (by omega) (by omega)).mp c_81
                        refine lv_aload_n hx hb dX11_hidden_187 rfl (lv_at hl 3 rfl) ?_
                        refine lv_lload hx hb dX11_hidden_188 (lv_at hl 1 rfl) ?_
                        refine lv_l2i hx hb dX11_hidden_190 rfl ?_
                        refine lv_topi (fun f_83 ef_83 => ?_)
                        have hPc := hP.sub (ws' := [(xa, (b11_1 x0 (nI x1) x2 (nI x3) x4 x5 x6 x7 x8 x9 x10))]) [0] rfl
                        have hDc := hD.sub (ws' := [(xa, (b11_1 x0 (nI x1) x2 (nI x3) x4 x5 x6 x7 x8 x9 x10))]) [0] (by decide) rfl
                        have hKc := hK.sub (tys' := []) [] rfl
                        have hFc := va_free (wc := [(xa, (b11_1 x0 (nI x1) x2 (nI x3) x4 x5 x6 x7 x8 x9 x10))]) hD hS hA [0] rfl
                        refine va_calli (va_runV (As := [.int f_83]) (rest := []) ⟨hx, hb, hml, hown, hg⟩ (k_accept l D H_79.size xa x0 (nI x1) x2 (nI x3) x4 x5 x6 x7 x8 x9 x10 f_83) (cwV 1 hg (gV wd_356 wd_357 wd_358 wd_3 wd_359) rfl rfl rfl (by decide +kernel) ⟨(Nat.le_trans (Nat.le_of_ble_eq_true rfl) hRf), (Nat.le_trans (Nat.le_of_ble_eq_true rfl) hRl)⟩) ⟨Pr.blind, va_recv hK hP (ci := 11) (q0 := 0) rfl rfl, fun U hU hW => ⟨rfl, Pr.at hPc hKc hDc hN hU hW⟩⟩ rfl rfl hl.1 rfl (lv_room (Nat.le_of_ble_eq_true rfl)) dX11_hidden_191 ⟨(Nat.le_trans (Nat.le_of_ble_eq_true rfl) hRc), (Nat.le_trans (Nat.le_of_ble_eq_true rfl) hRs)⟩) hS (fun q _ h => hFc q h) hFc (fun r_85 M_86 t H_84 locs ht hvm hw hB hz1 hk1 hS => ?_)
                        have hp_87 := hw
                        obtain ⟨hP1, hK1, hD1⟩ := hB
                        rw [ht] at hP1
                        obtain ⟨hP, hD⟩ := va_joinQ (X := [(xa, (b11_1 x0 (nI x1) x2 (nI x3) x4 x5 x6 x7 x8 x9 x10))]) (cx := [(xa, (b11_1 x0 (nI x1) x2 (nI x3) x4 x5 x6 x7 x8 x9 x10))]) (wr := []) (w1 := [(xa, (b11_1 x0 (nI x1) x2 (nI x3) x4 x5 x6 x7 x8 0 (-1)))]) (pl := va_pl L M_78) hP hD [0] [] rfl rfl (by decide) (by decide) hk1 hFc hP1 hD1
                        have hP : va_P D vwCl ([(xa, (b11_1 x0 (nI x1) x2 (nI x3) x4 x5 x6 x7 x8 0 (-1)))] ++ va_pl L M_78) H_84 := hP
                        have hD : va_D A ([(xa, (b11_1 x0 (nI x1) x2 (nI x3) x4 x5 x6 x7 x8 0 (-1)))] ++ va_pl L M_78) := hD
                        have hq := Eq.symm hp_87
                        subst hq
                        have hI_88 : (6 : Int) ≤ ((v5w52 : Nat) : Int) := ileI rfl (nI_toInt (by omega)) c_61
                        have hI_89 : ((v80_5 : Nat) : Int) ≤ ((v7w76 : Nat) : Int) := ileI (nI_toInt (by omega)) (nI_toInt (by omega)) c_81
                        have hyes : okHi x1 SX k1 k2 k3 := by unfold okHi okH; refine ⟨⟨?_, ?_⟩, ?_, ?_, ?_, ?_, ?_⟩ <;> first | omega | assumption
                        rw [hQ]
                        exact W.iret (v := f_83) hx hb hr (fun t ht hW9 => ⟨⟨f_83, M_78, rfl, ⟨hW, hF, hT9, (CX.same hC hW0 i0 b1 (SAME.fr (fr.cv hF (by decide)) (fT.cv (W9 hW0) hT9 (by decide)) (fr.cv hF (by decide)) (fr.cv hF (by decide)) (fr.cv hF (by decide)) (fr.cv hF (by decide)) (fr.cv hF (by decide)) hF (by decide)) (by rw [hF.at i0 (by decide)])), (by unfold anHi; rw [if_pos hyes]; exact hi_an hkr hcut ef_83)⟩, ⟨0, by rw [ht]; exact hP, hD⟩⟩, hS.F ht⟩) hS.2.2 dX11_hidden_194
                      · have hz := rfl (a := 0)
                        have n_90 : ¬ (v80_5 ≤ v7w76) := fun q => c_81 ((iLE (a := v80_5) (b := v7w76) (by omega) (by omega)).mpr q)
                        refine lv_aload_n hx hb dX11_hidden_144 rfl (lv_at hl 3 rfl) ?_
                        refine va_get (D := D) (ci := 11) (v := .ref x4) (C := RX11) (T := TX11) (N := 11) hx hb hg inG11 hown hK hP 0 rfl rfl 4 (by decide) (hg _ wd_443) (fun _ h9 => h9) rfl dX11_hidden_145 ?_
                        refine pg_get (D := D) (ci := 7) (v := .ref v80_0) (C := RX7) (T := TX7) (N := 6) hx hb hg inG7 hown hK hP i4.1 hM80 rfl 0 (by decide) (hg _ wd_447) (fun _ h9 => h9) rfl dX11_hidden_148 ?_
                        refine lv_iload hx hb dX11_hidden_151 (lv_at hl 0 rfl) ?_
                        obtain ⟨f91, hM91, hf91⟩ := hW.open_64 h80_0
                        have hi_92 : vp_in (nI v7w76) 100 := (inbN v7w76 100 (by omega) (by omega))
                        refine pg_aldq hx hb hK hP h80_0.1 8 hM91 rfl hi_92 dX11_hidden_153 ?_
                        obtain ⟨q_93, ho_94⟩ : ∃ q : Option Nat, q = f91 ((nI v7w76) : Int32).toNatClampNeg := ⟨_, rfl⟩
                        rw [← ho_94]
                        have hq_95 : iskN K L q_93 9 0 := by rw [ho_94]; exact hf91 _ (vp_lt hi_92)
                        rcases q_93 with _ | bq_93
                        · have hz := rfl (a := 0)
                          refine lv_astoreN (lv' := [(8, .null), (7, .int (nI v7w76)), (5, .long vr_70), (4, .ref b_5), (0, .ref xa), (1, .int k1), (2, .int k2), (3, .int k3)]) hx hb dX11_hidden_154 hl (by decide) rfl (fun ls hl => ?_)
                          refine lv_aloadN hx hb dX11_hidden_156 (lv_at hl 0 rfl) ?_
                          refine lv_ifnullN (tgt := 181) hx hb dX11_hidden_158 (by decide) ?_
                          refine lv_iinc (v := (nI (v7w76 + 1))) (lv' := [(7, .int (nI (v7w76 + 1))), (8, .null), (5, .long vr_70), (4, .ref b_5), (0, .ref xa), (1, .int k1), (2, .int k2), (3, .int k3)]) hx hb dX11_hidden_181 hl (k := 1) rfl (nI_1 v7w76) (by decide) rfl (fun ls hl => ?_)
                          refine lv_goto (tgt := 132) hx hb dX11_hidden_184 (by decide) ?_
                          exact ih_74 (v7w76 + 1) M_78 H_79 _ _ (by omega) (by omega) hW hF hT9 hV hP hD hS (lv_sub hl [0, 2, 3, 4, 5, 6, 7] rfl)
                        · have hb_96 := hq_95 bq_93 rfl
                          refine lv_astore (lv' := [(8, .ref bq_93), (7, .int (nI v7w76)), (5, .long vr_70), (4, .ref b_5), (0, .ref xa), (1, .int k1), (2, .int k2), (3, .int k3)]) hx hb dX11_hidden_154 hl (by decide) rfl (fun ls hl => ?_)
                          refine lv_aload hx hb dX11_hidden_156 (lv_at hl 0 rfl) ?_
                          refine lv_ifnull hx hb dX11_hidden_158 ?_
                          refine lv_aload hx hb dX11_hidden_161 (lv_at hl 0 rfl) ?_
                          refine lv_dup hx hb dX11_hidden_163 rfl ?_
                          obtain ⟨v97_0, v97_1, v97_2, v97_3, v97_4, v97_5, v97_6, v97_7, v97_8, v97_9, v97_10, v97_11, v97_12, v97_13, v97_14, v97_15, hM97, h97_0, h97_1, h97_4, h97_8⟩ := hW.open_9 hb_96
                          refine pg_get (D := D) (ci := 9) (v := .long v97_10) (C := RX9) (T := TX9) (N := 16) hx hb hg inG9 hown hK hP hb_96.1 hM97 rfl 10 (by decide) (hg _ wd_448) (fun _ h9 => h9) rfl dX11_hidden_164 ?_
                          refine lv_aload_n hx hb dX11_hidden_167 rfl (lv_at hl 4 rfl) ?_
                          refine va_get (D := D) (ci := 11) (v := .ref x4) (C := RX11) (T := TX11) (N := 11) hx hb hg inG11 hown hK hP 0 rfl rfl 4 (by decide) (hg _ wd_443) (fun _ h9 => h9) rfl dX11_hidden_168 ?_
                          refine pg_get (D := D) (ci := 7) (v := .ref v80_2) (C := RX7) (T := TX7) (N := 6) hx hb hg inG7 hown hK hP i4.1 hM80 rfl 2 (by decide) (hg _ wd_449) (fun _ h9 => h9) rfl dX11_hidden_171 ?_
                          refine lv_iload hx hb dX11_hidden_174 (lv_at hl 1 rfl) ?_
                          obtain ⟨f98, hM98⟩ := hW.open_69 h80_2
                          refine pg_lald hx hb hK hP h80_2.1 1 hM98 rfl (inbN v7w76 100 (by omega) (by omega)) dX11_hidden_176 ?_
                          refine lv_topl (fun f_99 ef_99 => ?_)
                          refine lv_ladd hx hb dX11_hidden_177 ?_
                          refine lv_topl (fun f_100 ef_100 => ?_)
                          refine pg_put (D := D) (ci := 9) (v := .long f_100) (ty := .long) (C := RX9) (T := TX9) (N := 16) hx hb hg inG9 tyX9 tyX9_ok nmX9 hown hK hP hD hS hb_96.1 hM97 rfl 10 (by decide) (hg _ wd_448) (fun _ h9 => h9) rfl (by decide +kernel) rfl rfl (Nat.le_of_ble_eq_true rfl) dX11_hidden_178 (fun H_101 locs hP hD hS => ?_)
                          obtain ⟨M_102, eM_102⟩ : ∃ M1 : Hp, M1 = va_up M_78 bq_93 ((b9_9 (nI v97_0) v97_1 v97_2 v97_3 v97_4 v97_5 v97_6 v97_7 v97_8 v97_9 f_100 v97_11 v97_12 v97_13 v97_14 v97_15)) := ⟨_, rfl⟩
                          have sM_102 : M_102 = sF M_78 bq_93 10 (.long f_100) := eM_102.trans (sF_of (j := 10) (v := .long f_100) hM97 rfl)
                          have hV : VC Bo K L M M_102 b_5 (cfx M b_5) (cax M b_5) := by rw [sM_102]; exact hV.same hW hb_10 (SAME.sF0 hM97 rfl)
                          have hP : va_P D vwCl ([(xa, (b11_1 x0 (nI x1) x2 (nI x3) x4 x5 x6 x7 x8 x9 x10))] ++ va_pl L M_102) H_101 := by rw [eM_102]; exact hP
                          have hD : va_D A ([(xa, (b11_1 x0 (nI x1) x2 (nI x3) x4 x5 x6 x7 x8 x9 x10))] ++ va_pl L M_102) := by rw [eM_102]; exact hD
                          have hW : WOK cy K L M_102 := by rw [eM_102]; exact hW.up_9 hb_96 ⟨v97_0, v97_1, v97_2, v97_3, v97_4, v97_5, v97_6, v97_7, v97_8, v97_9, f_100, v97_11, v97_12, v97_13, v97_14, v97_15, rfl, h97_0, h97_1, h97_4, h97_8⟩
                          have hF : fr K L [7, 9, 64, 68, 69, 70] M M_102 := by rw [eM_102]; exact hF.up hb_96 (by decide)
                          have hT9 : fT 9 K L [10] M M_102 := by rw [eM_102]; exact hT9.up (i := 10) hM97 rfl (by decide)
                          have hM_103 : M_102 bq_93 = (b9_9 (nI v97_0) v97_1 v97_2 v97_3 v97_4 v97_5 v97_6 v97_7 v97_8 v97_9 f_100 v97_11 v97_12 v97_13 v97_14 v97_15) := by rw [eM_102]; exact va_up_self _ _ _
                          have hM_104 : M_102 x4 = (b7_8 v80_0 v80_1 v80_2 v80_3 v80_4 (nI v80_5)) := by rw [eM_102, va_up_ne _ _ (i4.neT hb_96 (by decide))]; exact hM80
                          have hM_105 : M_102 v80_0 = .inl (cy 22, 100, .inr (.inr (.inr (.inr (f91))))) := by rw [eM_102, va_up_ne _ _ (h80_0.neT hb_96 (by decide))]; exact hM91
                          have hM_106 : M_102 v80_2 = .inl (cy 15, 100, .inr (.inl (f98))) := by rw [eM_102, va_up_ne _ _ (h80_2.neT hb_96 (by decide))]; exact hM98
                          refine lv_iinc (v := (nI (v7w76 + 1))) (lv' := [(7, .int (nI (v7w76 + 1))), (8, .ref bq_93), (5, .long vr_70), (4, .ref b_5), (0, .ref xa), (1, .int k1), (2, .int k2), (3, .int k3)]) hx hb dX11_hidden_181 hl (k := 1) rfl (nI_1 v7w76) (by decide) rfl (fun ls hl => ?_)
                          refine lv_goto (tgt := 132) hx hb dX11_hidden_184 (by decide) ?_
                          exact ih_74 (v7w76 + 1) M_102 H_101 _ _ (by omega) (by omega) hW hF hT9 hV hP hD hS (lv_sub hl [0, 2, 3, 4, 5, 6, 7] rfl)
                  exact key_73 (100 - 0 + 1) 0 M_66 H_64 _ _ (by omega) (by omega) hW hF hT9 hV hP hD hS (lv_sub hl [0, 1, 2, 3, 4, 5, 6] rfl)
                · have hz := rfl (a := 0)
                  have n_107 : ¬ (6 ≤ v5w52) := fun q => c_61 ((iLE (a := 6) (b := v5w52) (by omega) (by omega)).mpr q)
                  refine lv_aload hx hb dX11_hidden_78 (lv_at hl 1 rfl) ?_
                  refine lv_iload hx hb dX11_hidden_80 (lv_at hl 0 rfl) ?_
                  refine lv_iload_n hx hb dX11_hidden_82 rfl (lv_at hl 4 rfl) ?_
                  obtain ⟨v108_0, v108_1, v108_2, v108_3, v108_4, v108_5, v108_6, v108_7, v108_8, v108_9, v108_10, v108_11, v108_12, v108_13, v108_14, v108_15, v108_16, v108_17, v108_18, v108_19, hM108, h108_3, h108_4, h108_5, h108_6, h108_7, h108_8, h108_9, h108_10, h108_11, h108_12, h108_13, h108_16, h108_17, h108_18, h108_19⟩ := hW.open_2 hb_10
                  have hPc : va_P D vwCl ([] ++ va_pl L M_56) H_57 := hP.part (cx := []) [] rfl
                  have hDc : va_D A ([] ++ va_pl L M_56) := hD.part (cx := []) [] (by decide) rfl
                  have hFc : ∀ q, va_A ([] ++ va_pl L M_56) H_57.size q → A q := pg_free hDc hS hA
                  refine va_callq (va_runV (As := [.int (nI v5w52), .int k2]) (rest := []) ⟨hx, hb, hml, hown, hg⟩ (e_tenureIn l D cy K L M_56 H_57.size b_5 (nI v5w52) k2  hW hb_10 (by rw [hV.2.1, hV.2.2.1]; exact hn28)) (cwV 2 hg (gV wd_450 wd_186 wd_187 wd_57 wd_188) rfl rfl rfl (by decide +kernel) ⟨(Nat.le_trans (Nat.le_of_ble_eq_true rfl) hRf), (Nat.le_trans (Nat.le_of_ble_eq_true rfl) hRl)⟩) ⟨PG.blind, pg_recv hK hP hb_10.1 hM108 rfl, fun U hU hW => ⟨rfl, PG.at hPc hK hDc hN hU hW⟩⟩ rfl rfl hl.1 rfl (lv_room (Nat.le_of_ble_eq_true rfl)) dX11_hidden_83 ⟨(Nat.le_trans (Nat.le_of_ble_eq_true rfl) hRc), (Nat.le_trans (Nat.le_of_ble_eq_true rfl) hRs)⟩) hS (fun q _ h => hFc q h) hFc (fun r_110 M_111 t H_109 locs ht hvm hw hB hz1 hk1 hS => ?_)
                  have hp_112 := hw
                  obtain ⟨hP1, hD1⟩ := hB
                  rw [ht] at hP1
                  obtain ⟨hP, hD⟩ := va_joinP (X := [(xa, (b11_1 x0 (nI x1) x2 (nI x3) x4 x5 x6 x7 x8 x9 x10))]) (cx := []) (wr := [(xa, (b11_1 x0 (nI x1) x2 (nI x3) x4 x5 x6 x7 x8 x9 x10))]) (rx := []) (pl := va_pl L M_56) (pl1 := va_pl L M_56) hP hD [] [0] rfl rfl (by decide) (by decide) hk1 hFc hP1 hD1
                  have hP : va_P D vwCl ([(xa, (b11_1 x0 (nI x1) x2 (nI x3) x4 x5 x6 x7 x8 x9 x10))] ++ va_pl L M_56) H_109 := hP
                  have hD : va_D A ([(xa, (b11_1 x0 (nI x1) x2 (nI x3) x4 x5 x6 x7 x8 x9 x10))] ++ va_pl L M_56) := hD
                  obtain ⟨hp_112, hqx⟩ := hp_112
                  rcases r_110 with _ | b_113
                  · have hz := rfl (a := 0)
                    have hno9 : ∀ i : Nat, (i : Int) < SX k1.toNatClampNeg 10 → ¬ tin (SY k1.toNatClampNeg) ((v5w52 : Nat) : Int) k2.toInt i := fun i hi q9 => hqx.2 rfl i (by rw [hV.2.1, hSM.x10]; exact hi) (by rw [hV.2.2.1, nI_toInt (by omega)]; exact (hSM.tinS hi).mpr q9)
                    refine lv_astoreN (lv' := [(6, .null), (5, .int (nI v5w52)), (4, .ref b_5), (0, .ref xa), (1, .int k1), (2, .int k2), (3, .int k3)]) hx hb dX11_hidden_86 hl (by decide) rfl (fun ls hl => ?_)
                    refine lv_aloadN hx hb dX11_hidden_88 (lv_at hl 0 rfl) ?_
                    refine lv_ifnullN (tgt := 112) hx hb dX11_hidden_90 (by decide) ?_
                    refine lv_iinc (v := (nI (v5w52 + 1))) (lv' := [(5, .int (nI (v5w52 + 1))), (6, .null), (4, .ref b_5), (0, .ref xa), (1, .int k1), (2, .int k2), (3, .int k3)]) hx hb dX11_hidden_112 hl (k := 1) rfl (nI_1 v5w52) (by decide) rfl (fun ls hl => ?_)
                    refine lv_goto (tgt := 71) hx hb dX11_hidden_115 (by decide) ?_
                    exact ih_50 (v5w52 + 1) gWw52 gCw52 M_56 H_109 _ _ (by omega) hM_58 hM_59 hb_60 (by omega) (by omega) (HWS.no hx_55 hno9) hW hF hT9 hV hP hD hS (lv_sub hl [0, 2, 3, 4, 5, 6] rfl)
                  · have hb_114 := hp_112 b_113 rfl
                    obtain ⟨i9, hi9, ht9⟩ := hqx.1 _ rfl
                    rw [hV.2.1, hSM.x10] at hi9
                    rw [hV.2.2.1, nI_toInt (by omega)] at ht9
                    have ht9 := (hSM.tinS hi9).mp ht9
                    refine lv_astore (lv' := [(6, .ref b_113), (5, .int (nI v5w52)), (4, .ref b_5), (0, .ref xa), (1, .int k1), (2, .int k2), (3, .int k3)]) hx hb dX11_hidden_86 hl (by decide) rfl (fun ls hl => ?_)
                    refine lv_aload hx hb dX11_hidden_88 (lv_at hl 0 rfl) ?_
                    refine lv_ifnull hx hb dX11_hidden_90 ?_
                    refine lv_aload_n hx hb dX11_hidden_93 rfl (lv_at hl 3 rfl) ?_
                    refine va_get (D := D) (ci := 11) (v := .ref x4) (C := RX11) (T := TX11) (N := 11) hx hb hg inG11 hown hK hP 0 rfl rfl 4 (by decide) (hg _ wd_443) (fun _ h9 => h9) rfl dX11_hidden_94 ?_
                    refine lv_aload hx hb dX11_hidden_97 (lv_at hl 0 rfl) ?_
                    refine lv_aload hx hb dX11_hidden_99 (lv_at hl 2 rfl) ?_
                    refine lv_iload_n hx hb dX11_hidden_101 rfl (lv_at hl 5 rfl) ?_
                    refine lv_iconst (v := 2) hx hb dX11_hidden_102 (by decide) ?_
                    refine lv_iload hx hb dX11_hidden_103 (lv_at hl 1 rfl) ?_
                    have hPc : va_P D vwCl ([] ++ va_pl L M_56) H_109 := hP.part (cx := []) [] rfl
                    have hDc : va_D A ([] ++ va_pl L M_56) := hD.part (cx := []) [] (by decide) rfl
                    have hFc : ∀ q, va_A ([] ++ va_pl L M_56) H_109.size q → A q := pg_free hDc hS hA
                    refine va_calli (va_runV (As := [.int k2, .int 2, .int (nI v5w52)]) (rest := [.ref b_113, .ref x4]) ⟨hx, hb, hml, hown, hg⟩ (e_termOn l D cy K L M_56 H_109.size b_5 k2 2 (nI v5w52)  hW hb_10 (by rw [hV.2.1, hV.2.2.1]; exact hn33)) (cwV 3 hg (gV wd_451 wd_452 wd_453 wd_57 wd_454) rfl rfl rfl (by decide +kernel) ⟨(Nat.le_trans (Nat.le_of_ble_eq_true rfl) hRf), (Nat.le_trans (Nat.le_of_ble_eq_true rfl) hRl)⟩) ⟨PG.blind, pg_recv hK hP hb_10.1 hM108 rfl, fun U hU hW => ⟨rfl, PG.at hPc hK hDc hN hU hW⟩⟩ rfl rfl hl.1 rfl (lv_room (Nat.le_of_ble_eq_true rfl)) dX11_hidden_105 ⟨(Nat.le_trans (Nat.le_of_ble_eq_true rfl) hRc), (Nat.le_trans (Nat.le_of_ble_eq_true rfl) hRs)⟩) hS (fun q _ h => hFc q h) hFc (fun r_116 M_117 t H_115 locs ht hvm hw hB hz1 hk1 hS => ?_)
                    have hp_118 := hw
                    obtain ⟨hP1, hD1⟩ := hB
                    rw [ht] at hP1
                    obtain ⟨hP, hD⟩ := va_joinP (X := [(xa, (b11_1 x0 (nI x1) x2 (nI x3) x4 x5 x6 x7 x8 x9 x10))]) (cx := []) (wr := [(xa, (b11_1 x0 (nI x1) x2 (nI x3) x4 x5 x6 x7 x8 x9 x10))]) (rx := []) (pl := va_pl L M_56) (pl1 := va_pl L M_56) hP hD [] [0] rfl rfl (by decide) (by decide) hk1 hFc hP1 hD1
                    have hP : va_P D vwCl ([(xa, (b11_1 x0 (nI x1) x2 (nI x3) x4 x5 x6 x7 x8 x9 x10))] ++ va_pl L M_56) H_115 := hP
                    have hD : va_D A ([(xa, (b11_1 x0 (nI x1) x2 (nI x3) x4 x5 x6 x7 x8 x9 x10))] ++ va_pl L M_56) := hD
                    obtain ⟨vr_119, hr_121, c_120⟩ := hp_118
                    have hq := Eq.symm hr_121
                    subst hq
                    have hw9 : vr_119 = SY k1.toNatClampNeg 36 (24 * kr + (6 * 2 + v5w52)) := by rw [c_120, hV.2.1, hV.2.2.1, hSM.x11]; exact ton2 hcg9 hkr (by omega)
                    refine lv_i2l hx hb dX11_hidden_108 rfl ?_
                    refine lv_topl (fun f_122 ef_122 => ?_)
                    have hw8 : (f_122 : Int64).toInt = (SY k1.toNatClampNeg 36 (24 * kr + (6 * 2 + v5w52))).toInt := by rw [ef_122, Int32.toInt_toInt64, hw9]
                    have hb8 : 0 ≤ (SY k1.toNatClampNeg 36 (24 * kr + (6 * 2 + v5w52))).toInt ∧ (SY k1.toNatClampNeg 36 (24 * kr + (6 * 2 + v5w52))).toInt ≤ 1000000000 := ⟨(htn9 _ (by omega)).1, (htn9 _ (by omega)).2.1⟩
                    have hPc : va_P D vwCl ([] ++ va_pl L M_56) H_115 := hP.part (cx := []) [] rfl
                    have hDc : va_D A ([] ++ va_pl L M_56) := hD.part (cx := []) [] (by decide) rfl
                    have hFc : ∀ q, va_A ([] ++ va_pl L M_56) H_115.size q → A q := pg_free hDc hS hA
                    refine va_callv (va_runV (As := [.ref b_113, .long f_122]) (rest := []) ⟨hx, hb, hml, hown, hg⟩ (e_add l D cy K L M_56 H_115.size x4 b_113 f_122 v40_0 v40_1 v40_2 v40_3 v40_4 gCw52 hW i4 hb_114 (by omega) hM_58 h40_0 h40_1 h40_2 h40_3 h40_4 hb_60) (cwV 2 hg (gV wd_455 wd_214 wd_215 wd_148 wd_216) rfl rfl rfl (by decide +kernel) ⟨(Nat.le_trans (Nat.le_of_ble_eq_true rfl) hRf), (Nat.le_trans (Nat.le_of_ble_eq_true rfl) hRl)⟩) ⟨PG.blind, pg_recv hK hP i4.1 hM_58 rfl, fun U hU hW => ⟨rfl, PG.at hPc hK hDc hN hU hW⟩⟩ rfl rfl hl.1 rfl (lv_room (Nat.le_of_ble_eq_true rfl)) dX11_hidden_109 ⟨(Nat.le_trans (Nat.le_of_ble_eq_true rfl) hRc), (Nat.le_trans (Nat.le_of_ble_eq_true rfl) hRs)⟩) hS (fun q _ h => hFc q h) hFc (fun M_125 t H_123 locs ht hvm hw hB hz1 hk1 hS => ?_)
                    have hWb := hW
                    obtain ⟨hW, hF2, hVP, hM_127, hp_126⟩ := hw
                    obtain ⟨hP1, hD1⟩ := hB
                    rw [ht] at hP1
                    obtain ⟨hP, hD⟩ := va_joinP (X := [(xa, (b11_1 x0 (nI x1) x2 (nI x3) x4 x5 x6 x7 x8 x9 x10))]) (cx := []) (wr := [(xa, (b11_1 x0 (nI x1) x2 (nI x3) x4 x5 x6 x7 x8 x9 x10))]) (rx := []) (pl := va_pl L M_56) (pl1 := va_pl L M_125) hP hD [] [0] rfl rfl (by decide) (by decide) hk1 hFc hP1 hD1
                    have hP : va_P D vwCl ([(xa, (b11_1 x0 (nI x1) x2 (nI x3) x4 x5 x6 x7 x8 x9 x10))] ++ va_pl L M_125) H_123 := hP
                    have hD : va_D A ([(xa, (b11_1 x0 (nI x1) x2 (nI x3) x4 x5 x6 x7 x8 x9 x10))] ++ va_pl L M_125) := hD
                    have hM_128 : M_125 b_5 = (b2_2 v108_0 v108_1 v108_2 v108_3 (nI v108_4) (nI v108_5) v108_6 v108_7 v108_8 (nI v108_9) v108_10 (nI v108_11) v108_12 v108_13 v108_14 v108_15 v108_16 v108_17 v108_18 v108_19) := (hF2.at hb_10 (by decide)).trans hM108
                    have hb_129 : (gCw52 + 1) ≤ 100 := by omega
                    have hF : fr K L [7, 9, 64, 68, 69, 70] M M_125 := hF.tr hF2 (by decide)
                    have hT9 : fT 9 K L [10] M M_125 := hT9.frr hF2 (by decide)
                    have hV : VC Bo K L M M_125 b_5 (cfx M b_5) (cax M b_5) := hV.same hWb hb_10 (SAME.fr (fr.cv hF2 (by decide)) (fr.cv hF2 (by decide)) (fr.cv hF2 (by decide)) (fr.cv hF2 (by decide)) (fr.cv hF2 (by decide)) (fr.cv hF2 (by decide)) (fr.cv hF2 (by decide)) hF2 (by decide))
                    obtain ⟨f130, hM130⟩ := hW.open_68 h40_1
                    have hva9 : f130 = vp_updL gWw52 gCw52 f_122 := by have h9 := hVP; rw [LFc_of hM130, LFc_of hM_59] at h9; exact h9
                    refine lv_iinc (v := (nI (v5w52 + 1))) (lv' := [(5, .int (nI (v5w52 + 1))), (6, .ref b_113), (4, .ref b_5), (0, .ref xa), (1, .int k1), (2, .int k2), (3, .int k3)]) hx hb dX11_hidden_112 hl (k := 1) rfl (nI_1 v5w52) (by decide) rfl (fun ls hl => ?_)
                    refine lv_goto (tgt := 71) hx hb dX11_hidden_115 (by decide) ?_
                    exact ih_50 (v5w52 + 1) f130 (gCw52 + 1) M_125 H_123 _ _ (by omega) hM_127 hM130 hb_129 (by omega) (by omega) (by rw [hva9]; exact HWS.add hx_55 hi9 ht9 hw8 hb8 (by omega)) hW hF hT9 hV hP hD hS (lv_sub hl [0, 2, 3, 4, 5, 6] rfl)
            exact key_49 (6 - 0 + 1) 0 f48 0 M_43 H_41 _ _ (by omega) hM_45 hM48 hb_47 (by omega) (by omega) HWS.fst hW hF hT9 hV hP hD hS (lv_sub hl [0, 1, 2, 3, 4, 5] rfl)
          · have hz := rfl (a := 0)
            refine lv_aload_n hx hb dX11_hidden_55 rfl (lv_at hl 1 rfl) ?_
            refine lv_iconst (v := 3) hx hb dX11_hidden_56 (by decide) ?_
            have hPc := hP.sub (ws' := [(xa, (b11_1 x0 (nI x1) x2 (nI x3) x4 x5 x6 x7 x8 x9 x10))]) [0] rfl
            have hDc := hD.sub (ws' := [(xa, (b11_1 x0 (nI x1) x2 (nI x3) x4 x5 x6 x7 x8 x9 x10))]) [0] (by decide) rfl
            have hKc := hK.sub (tys' := []) [] rfl
            have hFc := va_free (wc := [(xa, (b11_1 x0 (nI x1) x2 (nI x3) x4 x5 x6 x7 x8 x9 x10))]) hD hS hA [0] rfl
            refine va_calli (va_runV (As := [.int 3]) (rest := []) ⟨hx, hb, hml, hown, hg⟩ (k_refuse l D H_22.size xa x0 (nI x1) x2 (nI x3) x4 x5 x6 x7 x8 x9 x10 3) (cwV 1 hg (gV wd_344 wd_345 wd_346 wd_3 wd_347) rfl rfl rfl (by decide +kernel) ⟨(Nat.le_trans (Nat.le_of_ble_eq_true rfl) hRf), (Nat.le_trans (Nat.le_of_ble_eq_true rfl) hRl)⟩) ⟨Pr.blind, va_recv hK hP (ci := 11) (q0 := 0) rfl rfl, fun U hU hW => ⟨rfl, Pr.at hPc hKc hDc hN hU hW⟩⟩ rfl rfl hl.1 rfl (lv_room (Nat.le_of_ble_eq_true rfl)) dX11_hidden_57 ⟨(Nat.le_trans (Nat.le_of_ble_eq_true rfl) hRc), (Nat.le_trans (Nat.le_of_ble_eq_true rfl) hRs)⟩) hS (fun q _ h => hFc q h) hFc (fun r_132 M_133 t H_131 locs ht hvm hw hB hz1 hk1 hS => ?_)
            have hp_134 := hw
            obtain ⟨hP1, hK1, hD1⟩ := hB
            rw [ht] at hP1
            obtain ⟨hP, hD⟩ := va_joinQ (X := [(xa, (b11_1 x0 (nI x1) x2 (nI x3) x4 x5 x6 x7 x8 x9 x10))]) (cx := [(xa, (b11_1 x0 (nI x1) x2 (nI x3) x4 x5 x6 x7 x8 x9 x10))]) (wr := []) (w1 := [(xa, (b11_1 x0 (nI x1) x2 (nI x3) x4 x5 x6 x7 x8 3 (-1)))]) (pl := va_pl L M) hP hD [0] [] rfl rfl (by decide) (by decide) hk1 hFc hP1 hD1
            have hP : va_P D vwCl ([(xa, (b11_1 x0 (nI x1) x2 (nI x3) x4 x5 x6 x7 x8 3 (-1)))] ++ va_pl L M) H_131 := hP
            have hD : va_D A ([(xa, (b11_1 x0 (nI x1) x2 (nI x3) x4 x5 x6 x7 x8 3 (-1)))] ++ va_pl L M) := hD
            have hq := Eq.symm hp_134
            subst hq
            have hI_135 : ((v11_11 : Nat) : Int) ≠ (0 : Int) := ineI (nI_toInt (by omega)) rfl c_20
            have hI_136 : (v11_1 : Int32).toInt ≤ (k2 : Int32).toInt := inltI rfl rfl c_29
            have hI_137 : (999 : Int) < (k2 : Int32).toInt := inleI rfl rfl c_36
            have hno : ¬ okHi x1 SX k1 k2 k3 := fun q9 => by unfold okHi okH at q9; first | omega | (obtain ⟨⟨_, _⟩, _, _, _, _, _⟩ := q9; first | omega | contradiction)
            rw [hQ]
            exact W.iret (v := (-1)) hx hb hr (fun t ht hW9 => ⟨⟨(-1), M, rfl, ⟨hW, hF, hT9, hC.mono, (by unfold anHi; rw [if_neg hno])⟩, ⟨3, by rw [ht]; exact hP, hD⟩⟩, hS.F ht⟩) hS.2.2 dX11_hidden_60
      · have hz := rfl (a := 0)
        refine lv_if_ne (tgt := 39) hx hb dX11_hidden_30 (by decide) (fun c_138 => absurd c_138 (by decide)) (fun _ => ?_)
        refine lv_aload_n hx hb dX11_hidden_33 rfl (lv_at hl 1 rfl) ?_
        refine lv_iconst (v := 2) hx hb dX11_hidden_34 (by decide) ?_
        have hPc := hP.sub (ws' := [(xa, (b11_1 x0 (nI x1) x2 (nI x3) x4 x5 x6 x7 x8 x9 x10))]) [0] rfl
        have hDc := hD.sub (ws' := [(xa, (b11_1 x0 (nI x1) x2 (nI x3) x4 x5 x6 x7 x8 x9 x10))]) [0] (by decide) rfl
        have hKc := hK.sub (tys' := []) [] rfl
        have hFc := va_free (wc := [(xa, (b11_1 x0 (nI x1) x2 (nI x3) x4 x5 x6 x7 x8 x9 x10))]) hD hS hA [0] rfl
        refine va_calli (va_runV (As := [.int 2]) (rest := []) ⟨hx, hb, hml, hown, hg⟩ (k_refuse l D H_22.size xa x0 (nI x1) x2 (nI x3) x4 x5 x6 x7 x8 x9 x10 2) (cwV 1 hg (gV wd_344 wd_345 wd_346 wd_3 wd_347) rfl rfl rfl (by decide +kernel) ⟨(Nat.le_trans (Nat.le_of_ble_eq_true rfl) hRf), (Nat.le_trans (Nat.le_of_ble_eq_true rfl) hRl)⟩) ⟨Pr.blind, va_recv hK hP (ci := 11) (q0 := 0) rfl rfl, fun U hU hW => ⟨rfl, Pr.at hPc hKc hDc hN hU hW⟩⟩ rfl rfl hl.1 rfl (lv_room (Nat.le_of_ble_eq_true rfl)) dX11_hidden_35 ⟨(Nat.le_trans (Nat.le_of_ble_eq_true rfl) hRc), (Nat.le_trans (Nat.le_of_ble_eq_true rfl) hRs)⟩) hS (fun q _ h => hFc q h) hFc (fun r_140 M_141 t H_139 locs ht hvm hw hB hz1 hk1 hS => ?_)
        have hp_142 := hw
        obtain ⟨hP1, hK1, hD1⟩ := hB
        rw [ht] at hP1
        obtain ⟨hP, hD⟩ := va_joinQ (X := [(xa, (b11_1 x0 (nI x1) x2 (nI x3) x4 x5 x6 x7 x8 x9 x10))]) (cx := [(xa, (b11_1 x0 (nI x1) x2 (nI x3) x4 x5 x6 x7 x8 x9 x10))]) (wr := []) (w1 := [(xa, (b11_1 x0 (nI x1) x2 (nI x3) x4 x5 x6 x7 x8 2 (-1)))]) (pl := va_pl L M) hP hD [0] [] rfl rfl (by decide) (by decide) hk1 hFc hP1 hD1
        have hP : va_P D vwCl ([(xa, (b11_1 x0 (nI x1) x2 (nI x3) x4 x5 x6 x7 x8 2 (-1)))] ++ va_pl L M) H_139 := hP
        have hD : va_D A ([(xa, (b11_1 x0 (nI x1) x2 (nI x3) x4 x5 x6 x7 x8 2 (-1)))] ++ va_pl L M) := hD
        have hq := Eq.symm hp_142
        subst hq
        have hI_143 : ((v11_11 : Nat) : Int) ≠ (0 : Int) := ineI (nI_toInt (by omega)) rfl c_20
        have hno : ¬ okHi x1 SX k1 k2 k3 := fun q9 => by unfold okHi okH at q9; first | omega | (obtain ⟨⟨_, _⟩, _, _, _, _, _⟩ := q9; first | omega | contradiction)
        rw [hQ]
        exact W.iret (v := (-1)) hx hb hr (fun t ht hW9 => ⟨⟨(-1), M, rfl, ⟨hW, hF, hT9, hC.mono, (by unfold anHi; rw [if_neg hno])⟩, ⟨2, by rw [ht]; exact hP, hD⟩⟩, hS.F ht⟩) hS.2.2 dX11_hidden_38
    · have hz := rfl (a := 0)
      have n_144 : v11_11 = 0 := (iEQ (a := v11_11) (b := 0) (by omega) (by omega)).mp c_20
      refine lv_aload_n hx hb dX11_hidden_20 rfl (lv_at hl 1 rfl) ?_
      refine lv_iconst (v := 1) hx hb dX11_hidden_21 (by decide) ?_
      have hPc := hP.sub (ws' := [(xa, (b11_1 x0 (nI x1) x2 (nI x3) x4 x5 x6 x7 x8 x9 x10))]) [0] rfl
      have hDc := hD.sub (ws' := [(xa, (b11_1 x0 (nI x1) x2 (nI x3) x4 x5 x6 x7 x8 x9 x10))]) [0] (by decide) rfl
      have hKc := hK.sub (tys' := []) [] rfl
      have hFc := va_free (wc := [(xa, (b11_1 x0 (nI x1) x2 (nI x3) x4 x5 x6 x7 x8 x9 x10))]) hD hS hA [0] rfl
      refine va_calli (va_runV (As := [.int 1]) (rest := []) ⟨hx, hb, hml, hown, hg⟩ (k_refuse l D H_1.size xa x0 (nI x1) x2 (nI x3) x4 x5 x6 x7 x8 x9 x10 1) (cwV 1 hg (gV wd_344 wd_345 wd_346 wd_3 wd_347) rfl rfl rfl (by decide +kernel) ⟨(Nat.le_trans (Nat.le_of_ble_eq_true rfl) hRf), (Nat.le_trans (Nat.le_of_ble_eq_true rfl) hRl)⟩) ⟨Pr.blind, va_recv hK hP (ci := 11) (q0 := 0) rfl rfl, fun U hU hW => ⟨rfl, Pr.at hPc hKc hDc hN hU hW⟩⟩ rfl rfl hl.1 rfl (lv_room (Nat.le_of_ble_eq_true rfl)) dX11_hidden_22 ⟨(Nat.le_trans (Nat.le_of_ble_eq_true rfl) hRc), (Nat.le_trans (Nat.le_of_ble_eq_true rfl) hRs)⟩) hS (fun q _ h => hFc q h) hFc (fun r_146 M_147 t H_145 locs ht hvm hw hB hz1 hk1 hS => ?_)
      have hp_148 := hw
      obtain ⟨hP1, hK1, hD1⟩ := hB
      rw [ht] at hP1
      obtain ⟨hP, hD⟩ := va_joinQ (X := [(xa, (b11_1 x0 (nI x1) x2 (nI x3) x4 x5 x6 x7 x8 x9 x10))]) (cx := [(xa, (b11_1 x0 (nI x1) x2 (nI x3) x4 x5 x6 x7 x8 x9 x10))]) (wr := []) (w1 := [(xa, (b11_1 x0 (nI x1) x2 (nI x3) x4 x5 x6 x7 x8 1 (-1)))]) (pl := va_pl L M) hP hD [0] [] rfl rfl (by decide) (by decide) hk1 hFc hP1 hD1
      have hP : va_P D vwCl ([(xa, (b11_1 x0 (nI x1) x2 (nI x3) x4 x5 x6 x7 x8 1 (-1)))] ++ va_pl L M) H_145 := hP
      have hD : va_D A ([(xa, (b11_1 x0 (nI x1) x2 (nI x3) x4 x5 x6 x7 x8 1 (-1)))] ++ va_pl L M) := hD
      have hq := Eq.symm hp_148
      subst hq
      have hI_149 : ((v11_11 : Nat) : Int) = (0 : Int) := ieqI (nI_toInt (by omega)) rfl c_20
      have hno : ¬ okHi x1 SX k1 k2 k3 := fun q9 => by unfold okHi okH at q9; first | omega | (obtain ⟨⟨_, _⟩, _, _, _, _, _⟩ := q9; first | omega | contradiction)
      rw [hQ]
      exact W.iret (v := (-1)) hx hb hr (fun t ht hW9 => ⟨⟨(-1), M, rfl, ⟨hW, hF, hT9, hC.mono, (by unfold anHi; rw [if_neg hno])⟩, ⟨1, by rw [ht]; exact hP, hD⟩⟩, hS.F ht⟩) hS.2.2 dX11_hidden_25
set_option maxHeartbeats 4000000 in
set_option maxRecDepth 100000 in
theorem z_ruleOn (l : Launch) (D : va_G) (cy : Nat → ClassId) (K : Kp) (L : List Nat) (M : Hp) (sz : Nat) (oa : Nat) (k1 : Int32) (hW : WOM cy K L M) (ia : isk K L oa 12 0) (hRL : RLD cy K L oa k1 M) : Met l yX12_ruleOn (wsM yX12_ruleOn cX12_ruleOn 3 (some .int)) ({ frames := 0, cells := 0, slots := 0, locals := 0 }) (va_Pc [.ref oa, .int k1] (PG D cy [] L M sz)) (va_Qi (fun (r : Int32) (_ : Unit) => (∃ (j : Nat), r = (nI j) ∧ j < 16 ∧ (RLN (ax M oa) (fx M oa 11).toNat k1.toInt j))) (fun _ t => PQ D [] L M (va_A ([] ++ va_pl L M) sz) t) (va_A ([] ++ va_pl L M) sz)) 0 0 (va_A ([] ++ va_pl L M) sz) := by
  refine Met.ofW (cc := cX12_ruleOn) (maxL := 3) (ret := (some .int)) (by decide) rfl ?_
  intro p e s m args below meth c s₁ B hml hv
  obtain ⟨rfl, hsz, hP, hK, hD0, hN⟩ := hv
  have hx := B.exec
  have hb := B.bytes
  have hr := B.returns
  have hts := atoms_spec (ws := (wsM yX12_ruleOn cX12_ruleOn 3 (some .int))) B.pre
  have hg : ∀ w ∈ lw_good, w.before _ s = true := fun w h => hts w (List.mem_cons_of_mem _ h)
  have hown : s.vm.findClass RX12 = some m.cls := findClass_of_methodNamed B.named
  have hlocks := B.notSynchronized
  subst hsz
  have hD := hD0.self (sz := s.heap.size)
  generalize hAe : va_A ([] ++ va_pl L M) s.heap.size = A at hD ⊢
  have hA : ∀ q : Nat, s.heap.size ≤ q → A q := fun q h => by rw [← hAe]; exact Or.inr h
  have hS : va_S A s.heap s.heap [] := va_S.rf
  have hl := lv_entry ([.ref oa, .int k1]) (n := 3) (Nat.le_of_ble_eq_true rfl)
  rw [lg_entry_eq]
  generalize (lg_sl ([.ref oa, .int k1]) ++ List.replicate (3 - (lg_sl ([.ref oa, .int k1])).length) Slot.unset).toArray = ls at hl ⊢
  refine W.nameQ (fun Q hQ => ?_)
  refine W.nameR (fun R hR => ?_)
  have hRf : 0 ≤ R.frames := by rw [hR]; exact Nat.le_of_ble_eq_true rfl
  have hRl : 0 ≤ R.locals := by rw [hR]; exact Nat.le_of_ble_eq_true rfl
  have hRc : 0 ≤ R.cells := by rw [hR]; exact Nat.le_of_ble_eq_true rfl
  have hRs : 0 ≤ R.slots := by rw [hR]; exact Nat.le_of_ble_eq_true rfl
  have hl : lv_has ls 3 [(0, .ref oa), (1, .int k1)] := hl
  obtain ⟨fs, n11, r34, f34, hMa, hv11, hn1, hn16, hv34, i34, hM34, hf0⟩ := hRL
  obtain ⟨fs', hM', hlen, hfl⟩ := hW.open_12 ia
  have q9 := (Prod.mk.inj (Sum.inr.inj (hM'.symm.trans hMa))).2
  rw [q9] at hlen hfl
  have hx11 : fx M oa 11 = ((n11 : Nat) : Int) := (fx_of hMa rfl hv11).trans (nI_toInt (by omega))
  have hy34 : ax M oa 34 = f34 := ax_of hMa (by decide) hv34 hM34
  refine lv_aload_n hx hb dX12_ruleOn_0 rfl (lv_at hl 0 rfl) ?_
  refine pg_get (D := D) (ci := 12) (v := .int (nI n11)) (C := RX12) (T := TX12) (N := 51) hx hb hg inG12 hown hK hP ia.1 hMa rfl 11 (by decide) (hg _ wd_707) (fun _ h9 => h9) hv11 dX12_ruleOn_1 ?_
  refine lv_iconst (v := 1) hx hb dX12_ruleOn_4 (by decide) ?_
  refine lv_isub hx hb dX12_ruleOn_5 ?_
  refine lv_topi (fun f_1 ef_1 => ?_)
  obtain rfl : f_1 = (nI (n11 - 1)) := ef_1.trans (nI_prd (by omega))
  refine lv_istore_n (lv' := [(2, .int (nI (n11 - 1))), (0, .ref oa), (1, .int k1)]) hx hb dX12_ruleOn_6 rfl hl (by decide) rfl (fun ls hl => ?_)
  have key_2 : ∀ (fu_4 : Nat) (v2w5 : Nat) (H_8 : Heap) (locs : List Loc) (ls : Array Slot), v2w5 < fu_4 → v2w5 < n11 → (∀ j : Nat, v2w5 < j → j < n11 → k1.toInt < (f34 j).toInt) → WOM cy K L M → va_P D vwCl ([] ++ va_pl L M) H_8 → va_D A ([] ++ va_pl L M) → va_S A s.heap H_8 locs → lv_has ls 3 [(2, .int (nI v2w5)), (0, .ref oa), (1, .int k1)] → W p l e R s m ([.ref oa, .int k1] : List Value).toArray below meth c H_8 locs 0 0 Q (F0 m 7 ls []) := by
    intro fu_4
    induction fu_4 with
    | zero => intro v2w5 H_8 locs ls h; exact absurd h (Nat.not_lt_zero _)
    | succ fu_4 ih_3 =>
      intro v2w5 H_8 locs ls hfu hx_6 hx_7 hW hP hD hS hl
      refine lv_iload_n hx hb dX12_ruleOn_7 rfl (lv_at hl 0 rfl) ?_
      refine lv_if_lt (tgt := 27) hx hb dX12_ruleOn_8 (by decide) (fun c_9 => absurd c_9 (nI_pos (by omega))) (fun _ => ?_)
      refine lv_aload_n hx hb dX12_ruleOn_11 rfl (lv_at hl 1 rfl) ?_
      refine pg_get (D := D) (ci := 12) (v := .ref r34) (C := RX12) (T := TX12) (N := 51) hx hb hg inG12 hown hK hP ia.1 hMa rfl 34 (by decide) (hg _ wd_708) (fun _ h9 => h9) hv34 dX12_ruleOn_12 ?_
      refine lv_iload_n hx hb dX12_ruleOn_15 rfl (lv_at hl 0 rfl) ?_
      refine pg_iald hx hb hK hP i34.1 0 hM34 rfl (inbN v2w5 16 (by omega) (by omega)) dX12_ruleOn_16 ?_
      refine lv_topi (fun f_10 ef_10 => ?_)
      refine lv_iload_n hx hb dX12_ruleOn_17 rfl (lv_at hl 2 rfl) ?_
      refine lv_icmp_le (tgt := 27) hx hb dX12_ruleOn_18 (by decide) (fun c_11 => ?_) (fun c_11 => ?_)
      · have hz := rfl (a := 0)
        refine lv_iload_n hx hb dX12_ruleOn_27 rfl (lv_at hl 0 rfl) ?_
        rw [hQ]
        exact W.iret (v := (nI v2w5)) hx hb hr (fun t ht hW9 => ⟨⟨(nI v2w5), (), rfl, ⟨v2w5, rfl, (by omega), ⟨by rw [hx11]; omega, (by rw [hy34]; have h9 := Int32.le_iff_toInt_le.mp c_11; rw [ef_10, nI_cl (by omega)] at h9; exact h9), fun j h1 h2 => by rw [hy34]; exact hx_7 j h1 (by rw [hx11] at h2; omega)⟩⟩, ⟨by rw [ht]; exact hP, hD⟩⟩, hS.F ht⟩) hS.2.2 dX12_ruleOn_28
      · have hz := rfl (a := 0)
        rcases Nat.eq_zero_or_pos v2w5 with hz0 | hz1
        · exact absurd (show f_10 ≤ k1 by rw [ef_10, hz0]; exact hf0) c_11
        · refine lv_iinc (v := (nI (v2w5 - 1))) (lv' := [(2, .int (nI (v2w5 - 1))), (0, .ref oa), (1, .int k1)]) hx hb dX12_ruleOn_21 hl (k := 0) rfl (sb_m1 hz1) (by decide) rfl (fun ls hl => ?_)
          refine lv_goto (tgt := 7) hx hb dX12_ruleOn_24 (by decide) ?_
          exact ih_3 (v2w5 - 1) H_8 _ _ (by omega) (by omega) (fun j h1 h2 => by by_cases z9 : ¬ j = v2w5; exact hx_7 j (by omega) h2; rw [Classical.not_not.mp z9]; have h9 := Int32.lt_iff_toInt_lt.mp (Int32.not_le.mp c_11); rw [ef_10, nI_cl (by omega)] at h9; exact h9) hW hP hD hS (lv_sub hl [0, 1, 2] rfl)
  exact key_2 ((n11 - 1) + 1) (n11 - 1) s.heap _ _ (by omega) (by omega) (fun j h1 h2 => by omega) hW hP hD hS (lv_sub hl [0, 1, 2] rfl)
set_option maxHeartbeats 4000000 in
set_option maxRecDepth 100000 in
theorem z_present (l : Launch) (D : va_G) (cy : Nat → ClassId) (K : Kp) (L : List Nat) (M : Hp) (sz : Nat) (za : Nat) (z0 : Int32) (z1 : Nat) (z2 : Nat) (z3 : Nat) (z4 : Int32) (z5 : Int32) (z6 : Nat) (z7 : Nat) (z8 : Nat) (z9 : Nat) (z10 : Nat) (z11 : Nat) (z12 : Nat) (z13 : Nat) (z14 : Nat) (z15 : Nat) (z16 : Nat) (z17 : Nat) (z18 : Int32) (z19 : Nat) (k1 : Nat) (k2 : Int32) (hW : WOM cy K L M) (i1 : isk K L z1 23 8) (b2 : z2 ≤ 8) (b3 : z3 ≤ 40) (i6 : isk K L z6 47 40) (i7 : isk K L z7 48 40) (i8 : isk K L z8 49 8) (i9 : isk K L z9 50 8) (b10 : z10 ≤ 8) (i11 : isk K L z11 32 24) (i12 : isk K L z12 14 24) (i13 : isk K L z13 97 24) (i14 : isk K L z14 98 24) (i15 : isk K L z15 99 24) (b16 : z16 ≤ 24) (i17 : isk K L z17 14 24) (i19 : isk K L z19 15 25) (ik1 : isk K L k1 12 0) : Met l yX13_present (wsM yX13_present cX13_present 5 none) ({ frames := 1, cells := 0, slots := 0, locals := 22 }) (va_Pc [.ref za, .ref k1, .int k2] (PG D cy [(za, (b13_0 z0 z1 (nI z2) (nI z3) z4 z5 z6 z7 z8 z9 (nI z10) z11 z12 z13 z14 z15 (nI z16) z17 z18 z19))] L M sz)) (va_Qv (fun (M9 : Hp) => WOM cy K L M9 ∧ fr K L [32] M M9 ∧ (True)) (fun M9 t => ∃ (w16 : Nat), w16 ≤ 24 ∧ PRS (fx M k1) (ax M k1) k2.toInt (IFc (M9 z11)) w16 6 0 ∧ PQ D [(za, (b13_0 z0 z1 (nI z2) (nI z3) z4 z5 z6 z7 z8 z9 (nI z10) z11 z12 z13 z14 z15 (nI w16) z17 z18 z19))] L M9 (va_A ([(za, (b13_0 z0 z1 (nI z2) (nI z3) z4 z5 z6 z7 z8 z9 (nI z10) z11 z12 z13 z14 z15 (nI z16) z17 z18 z19))] ++ va_pl L M) sz) t) (va_A ([(za, (b13_0 z0 z1 (nI z2) (nI z3) z4 z5 z6 z7 z8 z9 (nI z10) z11 z12 z13 z14 z15 (nI z16) z17 z18 z19))] ++ va_pl L M) sz)) 0 0 (va_A ([(za, (b13_0 z0 z1 (nI z2) (nI z3) z4 z5 z6 z7 z8 z9 (nI z10) z11 z12 z13 z14 z15 (nI z16) z17 z18 z19))] ++ va_pl L M) sz) := by
  refine Met.ofW (cc := cX13_present) (maxL := 5) (ret := none) (by decide) rfl ?_
  intro p e s m args below meth c s₁ B hml hv
  obtain ⟨rfl, hsz, hP, hK, hD0, hN⟩ := hv
  have hx := B.exec
  have hb := B.bytes
  have hr := B.returns
  have hts := atoms_spec (ws := (wsM yX13_present cX13_present 5 none)) B.pre
  have hg : ∀ w ∈ lw_good, w.before _ s = true := fun w h => hts w (List.mem_cons_of_mem _ h)
  have hown : s.vm.findClass RX13 = some m.cls := findClass_of_methodNamed B.named
  have hlocks := B.notSynchronized
  subst hsz
  have hD := hD0.self (sz := s.heap.size)
  generalize hAe : va_A ([(za, (b13_0 z0 z1 (nI z2) (nI z3) z4 z5 z6 z7 z8 z9 (nI z10) z11 z12 z13 z14 z15 (nI z16) z17 z18 z19))] ++ va_pl L M) s.heap.size = A at hD ⊢
  have hA : ∀ q : Nat, s.heap.size ≤ q → A q := fun q h => by rw [← hAe]; exact Or.inr h
  have hS : va_S A s.heap s.heap [] := va_S.rf
  have hl := lv_entry ([.ref za, .ref k1, .int k2]) (n := 5) (Nat.le_of_ble_eq_true rfl)
  rw [lg_entry_eq]
  generalize (lg_sl ([.ref za, .ref k1, .int k2]) ++ List.replicate (5 - (lg_sl ([.ref za, .ref k1, .int k2])).length) Slot.unset).toArray = ls at hl ⊢
  refine W.nameQ (fun Q hQ => ?_)
  refine W.nameR (fun R hR => ?_)
  have hRf : 1 ≤ R.frames := by rw [hR]; exact Nat.le_of_ble_eq_true rfl
  have hRl : 22 ≤ R.locals := by rw [hR]; exact Nat.le_of_ble_eq_true rfl
  have hRc : 0 ≤ R.cells := by rw [hR]; exact Nat.le_of_ble_eq_true rfl
  have hRs : 0 ≤ R.slots := by rw [hR]; exact Nat.le_of_ble_eq_true rfl
  have hF : fr K L [32] M M := fr.rf
  have hl : lv_has ls 5 [(0, .ref za), (1, .ref k1), (2, .int k2)] := hl
  have hW0 := hW
  obtain ⟨fs1, hM1, hn1, hl1⟩ := hW.open_12 ik1
  obtain ⟨v2, hv2, hc2⟩ : ∃ v : Nat, fs1[10]? = some (.int (nI v) : Value) ∧ v ≤ 24 := hl1 10 (by decide)
  have hf10 : fx M k1 10 = ((v2 : Nat) : Int) := (fx_of hM1 rfl hv2).trans (nI_toInt (by omega))
  refine lv_aload_n hx hb dX13_present_0 rfl (lv_at hl 0 rfl) ?_
  refine lv_iconst (v := 0) hx hb dX13_present_1 (by decide) ?_
  refine va_put (D := D) (ci := 13) (v := .int 0) (ty := .int) (C := RX13) (T := TX13) (N := 20) hx hb hg inG13 tyX13 tyX13_ok nmX13 hown hK hP hD hS 0 rfl rfl 16 (by decide) (hg _ wd_769) (fun _ h9 => h9) rfl (by decide +kernel) rfl rfl (Nat.le_of_ble_eq_true rfl) dX13_present_2 (fun H_3 locs hP hD hS => ?_)
  have hP : va_P D vwCl ([(za, (b13_0 z0 z1 (nI z2) (nI z3) z4 z5 z6 z7 z8 z9 (nI z10) z11 z12 z13 z14 z15 0 z17 z18 z19))] ++ va_pl L M) H_3 := hP
  have hD : va_D A ([(za, (b13_0 z0 z1 (nI z2) (nI z3) z4 z5 z6 z7 z8 z9 (nI z10) z11 z12 z13 z14 z15 0 z17 z18 z19))] ++ va_pl L M) := hD
  refine lv_iconst (v := 0) hx hb dX13_present_5 (by decide) ?_
  refine lv_istore_n (lv' := [(3, .int 0), (0, .ref za), (1, .ref k1), (2, .int k2)]) hx hb dX13_present_6 rfl hl (by decide) rfl (fun ls hl => ?_)
  obtain ⟨v4, hv4, hc4⟩ : ∃ v : Nat, fs1[20]? = some (.ref v : Value) ∧ isk K L v 31 24 := hl1 20 (by decide)
  obtain ⟨f5, hM5, hf5⟩ := hW.open_31 hc4
  obtain ⟨f6, hM6, hf6⟩ := hW.open_32 i11
  have key_7 : ∀ (fu_9 : Nat) (v3w10 : Nat) (zgw10 : Nat) (gFw10 : Nat → Int32) (M_15 : Hp) (H_16 : Heap) (locs : List Loc) (ls : Array Slot), 6 - v3w10 < fu_9 → M_15 k1 = .inr (12, fs1) → M_15 v4 = .inl (cy 14, 24, .inl (f5)) → M_15 z11 = .inl (cy 14, 24, .inl (gFw10)) → (∀ j, j < 24 → ∃ c : Nat, c < 24 ∧ (gFw10 j) = nI c) → v3w10 ≤ 6 → zgw10 ≤ cntW f5 v3w10 0 → zgw10 ≤ 24 → PRS (fx M k1) (ax M k1) k2.toInt gFw10 zgw10 v3w10 0 → WOM cy K L M_15 → fr K L [32] M M_15 → va_P D vwCl ([(za, (b13_0 z0 z1 (nI z2) (nI z3) z4 z5 z6 z7 z8 z9 (nI z10) z11 z12 z13 z14 z15 (nI zgw10) z17 z18 z19))] ++ va_pl L M_15) H_16 → va_D A ([(za, (b13_0 z0 z1 (nI z2) (nI z3) z4 z5 z6 z7 z8 z9 (nI z10) z11 z12 z13 z14 z15 (nI zgw10) z17 z18 z19))] ++ va_pl L M_15) → va_S A s.heap H_16 locs → lv_has ls 5 [(3, .int (nI v3w10)), (0, .ref za), (1, .ref k1), (2, .int k2)] → W p l e R s m ([.ref za, .ref k1, .int k2] : List Value).toArray below meth c H_16 locs 0 0 Q (F0 m 7 ls []) := by
    intro fu_9
    induction fu_9 with
    | zero => intro v3w10 zgw10 gFw10 M_15 H_16 locs ls h; exact absurd h (Nat.not_lt_zero _)
    | succ fu_9 ih_8 =>
      intro v3w10 zgw10 gFw10 M_15 H_16 locs ls hfu hM_17 hM_18 hM_19 hf_20 hx_11 hx_12 hx_13 hx_14 hW hF hP hD hS hl
      refine lv_iload_n hx hb dX13_present_7 rfl (lv_at hl 0 rfl) ?_
      refine lv_bipush (v := 6) hx hb dX13_present_8 (by decide) ?_
      refine lv_icmp_ge (tgt := 82) hx hb dX13_present_10 (by decide) (fun c_21 => ?_) (fun c_21 => ?_)
      · have hz := rfl (a := 0)
        have n_22 : 6 ≤ v3w10 := (iLE (a := 6) (b := v3w10) (by omega) (by omega)).mp c_21
        rw [hQ]
        exact W.vret hx hb hr (fun t ht hW9 => ⟨⟨M_15, rfl, ⟨hW, hF, trivial⟩, ⟨zgw10, (by omega), (by rw [IFc_of hM_19]; have h9 := hx_14; rw [show v3w10 = 6 by omega] at h9; exact h9), by rw [ht]; exact hP, hD⟩⟩, hS.F ht⟩) hS.2.2 dX13_present_82
      · have hz := rfl (a := 0)
        have n_23 : ¬ (6 ≤ v3w10) := fun q => c_21 ((iLE (a := 6) (b := v3w10) (by omega) (by omega)).mpr q)
        refine lv_iconst (v := 0) hx hb dX13_present_13 (by decide) ?_
        refine lv_istore (lv' := [(4, .int 0), (3, .int (nI v3w10)), (0, .ref za), (1, .ref k1), (2, .int k2)]) hx hb dX13_present_14 hl (by decide) rfl (fun ls hl => ?_)
        have key_24 : ∀ (fu_26 : Nat) (v4w27 : Nat) (zgw27 : Nat) (gFw27 : Nat → Int32) (M_32 : Hp) (H_33 : Heap) (locs : List Loc) (ls : Array Slot), 24 - v4w27 < fu_26 → M_32 k1 = .inr (12, fs1) → M_32 v4 = .inl (cy 14, 24, .inl (f5)) → M_32 z11 = .inl (cy 14, 24, .inl (gFw27)) → (∀ j, j < 24 → ∃ c : Nat, c < 24 ∧ (gFw27 j) = nI c) → v4w27 ≤ 24 → zgw27 ≤ cntW f5 v3w10 v4w27 → zgw27 ≤ 24 → PRS (fx M k1) (ax M k1) k2.toInt gFw27 zgw27 v3w10 v4w27 → WOM cy K L M_32 → fr K L [32] M M_32 → va_P D vwCl ([(za, (b13_0 z0 z1 (nI z2) (nI z3) z4 z5 z6 z7 z8 z9 (nI z10) z11 z12 z13 z14 z15 (nI zgw27) z17 z18 z19))] ++ va_pl L M_32) H_33 → va_D A ([(za, (b13_0 z0 z1 (nI z2) (nI z3) z4 z5 z6 z7 z8 z9 (nI z10) z11 z12 z13 z14 z15 (nI zgw27) z17 z18 z19))] ++ va_pl L M_32) → va_S A s.heap H_33 locs → lv_has ls 5 [(4, .int (nI v4w27)), (3, .int (nI v3w10)), (0, .ref za), (1, .ref k1), (2, .int k2)] → W p l e R s m ([.ref za, .ref k1, .int k2] : List Value).toArray below meth c H_33 locs 0 0 Q (F0 m 16 ls []) := by
          intro fu_26
          induction fu_26 with
          | zero => intro v4w27 zgw27 gFw27 M_32 H_33 locs ls h; exact absurd h (Nat.not_lt_zero _)
          | succ fu_26 ih_25 =>
            intro v4w27 zgw27 gFw27 M_32 H_33 locs ls hfu hM_34 hM_35 hM_36 hf_37 hx_28 hx_29 hx_30 hx_31 hW hF hP hD hS hl
            refine lv_iload hx hb dX13_present_16 (lv_at hl 0 rfl) ?_
            refine lv_aload_n hx hb dX13_present_18 rfl (lv_at hl 3 rfl) ?_
            refine pg_getN (D := D) (ci := 12) (v := .int (nI v2)) (C := RX12) (T := TX12) (N := 51) hx hb hg inG12 hown hK hP ik1.1 hM_34 rfl 10 (by decide) (hN.use (Cond.fieldLinkNest RX13 68 RX12 "tenures" "I" RX13) 19 rfl rfl) (fun _ h9 => h9) hv2 dX13_present_19 ?_
            refine lv_icmp_ge (tgt := 76) hx hb dX13_present_22 (by decide) (fun c_38 => ?_) (fun c_38 => ?_)
            · have hz := rfl (a := 0)
              have n_39 : v2 ≤ v4w27 := (iLE (a := v2) (b := v4w27) (by omega) (by omega)).mp c_38
              refine lv_iinc (v := (nI (v3w10 + 1))) (lv' := [(3, .int (nI (v3w10 + 1))), (4, .int (nI v4w27)), (0, .ref za), (1, .ref k1), (2, .int k2)]) hx hb dX13_present_76 hl (k := 1) rfl (nI_1 v3w10) (by decide) rfl (fun ls hl => ?_)
              refine lv_goto (tgt := 7) hx hb dX13_present_79 (by decide) ?_
              exact ih_8 (v3w10 + 1) zgw27 gFw27 M_32 H_33 _ _ (by omega) hM_34 hM_35 hM_36 hf_37 (by omega) (by first | exact Nat.zero_le _ | assumption | exact cnt_le (by assumption) | exact cnt_step (by assumption) (by assumption) (by assumption) (by omega) (by omega) | exact cnt_out (by assumption)) (by first | omega | (exact Nat.le_trans (by assumption) (cnt_top _ _ _))) (PRS.out hx_31 (by omega)) hW hF hP hD hS (lv_sub hl [0, 2, 3, 4] rfl)
            · have hz := rfl (a := 0)
              have n_40 : ¬ (v2 ≤ v4w27) := fun q => c_38 ((iLE (a := v2) (b := v4w27) (by omega) (by omega)).mpr q)
              refine lv_aload_n hx hb dX13_present_25 rfl (lv_at hl 3 rfl) ?_
              refine pg_getN (D := D) (ci := 12) (v := .ref v4) (C := RX12) (T := TX12) (N := 51) hx hb hg inG12 hown hK hP ik1.1 hM_34 rfl 20 (by decide) (hN.use (Cond.fieldLinkNest RX13 110 RX12 "where" "[I" RX13) 29 rfl rfl) (fun _ h9 => h9) hv4 dX13_present_26 ?_
              refine lv_iload hx hb dX13_present_29 (lv_at hl 0 rfl) ?_
              have hi_41 : vp_in (nI v4w27) 24 := (inbN v4w27 24 (by omega) (by omega))
              refine pg_iald hx hb hK hP hc4.1 0 hM_35 rfl hi_41 dX13_present_31 ?_
              have hp_42 := hf5 _ (vp_lt hi_41)
              obtain ⟨c_43, hc_44, ec_45⟩ := hp_42
              rw [ec_45]
              have hsn := seen hW0 hW hF ((fG.rf (js := [])).frR hF (by decide)) (by decide) (by decide) ik1
              have h20 : (ax M k1 20 v4w27).toInt = ((c_43 : Nat) : Int) := by have h9 := ec_45; rw [nI_cl (by omega)] at h9; rw [← hsn.2.1, ax_of hM_34 (by decide) hv4 hM_35, h9]; exact nI_toInt (by omega)
              refine lv_iload_n hx hb dX13_present_32 rfl (lv_at hl 1 rfl) ?_
              refine lv_icmp_ne (tgt := 70) hx hb dX13_present_33 (by decide) (fun c_46 => ?_) (fun c_46 => ?_)
              · have hz := rfl (a := 0)
                have n_47 : ¬ (c_43 = v3w10) := fun q => c_46 ((iEQ (a := c_43) (b := v3w10) (by omega) (by omega)).mpr q)
                refine lv_iinc (v := (nI (v4w27 + 1))) (lv' := [(4, .int (nI (v4w27 + 1))), (3, .int (nI v3w10)), (0, .ref za), (1, .ref k1), (2, .int k2)]) hx hb dX13_present_70 hl (k := 0) rfl (nI_1 v4w27) (by decide) rfl (fun ls hl => ?_)
                refine lv_goto (tgt := 16) hx hb dX13_present_73 (by decide) ?_
                exact ih_25 (v4w27 + 1) zgw27 gFw27 M_32 H_33 _ _ (by omega) hM_34 hM_35 hM_36 hf_37 (by omega) (by first | exact Nat.zero_le _ | assumption | exact cnt_le (by assumption) | exact cnt_step (by assumption) (by assumption) (by assumption) (by omega) (by omega) | exact cnt_out (by assumption)) (by omega) (PRS.no hx_31 (fun q9 => by unfold tin at q9; omega)) hW hF hP hD hS (lv_sub hl [0, 1, 2, 3, 4] rfl)
              · have hz := rfl (a := 0)
                have n_48 : c_43 = v3w10 := (iEQ (a := c_43) (b := v3w10) (by omega) (by omega)).mp c_46
                refine lv_aload_n hx hb dX13_present_36 rfl (lv_at hl 3 rfl) ?_
                refine lv_iload hx hb dX13_present_37 (lv_at hl 0 rfl) ?_
                refine lv_iload_n hx hb dX13_present_39 rfl (lv_at hl 4 rfl) ?_
                have hPc : va_P D vwCl ([] ++ va_pl L M_32) H_33 := hP.part (cx := []) [] rfl
                have hDc : va_D A ([] ++ va_pl L M_32) := hD.part (cx := []) [] (by decide) rfl
                have hFc : ∀ q, va_A ([] ++ va_pl L M_32) H_33.size q → A q := pg_free hDc hS hA
                refine va_calli (va_runV (As := [.int (nI v4w27), .int k2]) (rest := []) ⟨hx, hb, hml, hown, hg⟩ (f_isIn l D cy K L M_32 H_33.size k1 v4w27 k2  hW ik1 (by omega)) (cwV 2 hg (gV wd_748 wd_749 wd_750 wd_737 wd_751) rfl rfl rfl (by decide +kernel) ⟨(Nat.le_trans (Nat.le_of_ble_eq_true rfl) hRf), (Nat.le_trans (Nat.le_of_ble_eq_true rfl) hRl)⟩) ⟨PG.blind, pg_recv hK hP ik1.1 hM_34 rfl, fun U hU hW => ⟨rfl, PG.at hPc hK hDc hN hU hW⟩⟩ rfl rfl hl.1 rfl (lv_room (Nat.le_of_ble_eq_true rfl)) dX13_present_40 ⟨(Nat.le_trans (Nat.le_of_ble_eq_true rfl) hRc), (Nat.le_trans (Nat.le_of_ble_eq_true rfl) hRs)⟩) hS (fun q _ h => hFc q h) hFc (fun r_50 M_51 t H_49 locs ht hvm hw hB hz1 hk1 hS => ?_)
                have hp_52 := hw
                obtain ⟨hP1, hD1⟩ := hB
                rw [ht] at hP1
                obtain ⟨hP, hD⟩ := va_joinP (X := [(za, (b13_0 z0 z1 (nI z2) (nI z3) z4 z5 z6 z7 z8 z9 (nI z10) z11 z12 z13 z14 z15 (nI zgw27) z17 z18 z19))]) (cx := []) (wr := [(za, (b13_0 z0 z1 (nI z2) (nI z3) z4 z5 z6 z7 z8 z9 (nI z10) z11 z12 z13 z14 z15 (nI zgw27) z17 z18 z19))]) (rx := []) (pl := va_pl L M_32) (pl1 := va_pl L M_32) hP hD [] [0] rfl rfl (by decide) (by decide) hk1 hFc hP1 hD1
                have hP : va_P D vwCl ([(za, (b13_0 z0 z1 (nI z2) (nI z3) z4 z5 z6 z7 z8 z9 (nI z10) z11 z12 z13 z14 z15 (nI zgw27) z17 z18 z19))] ++ va_pl L M_32) H_49 := hP
                have hD : va_D A ([(za, (b13_0 z0 z1 (nI z2) (nI z3) z4 z5 z6 z7 z8 z9 (nI z10) z11 z12 z13 z14 z15 (nI zgw27) z17 z18 z19))] ++ va_pl L M_32) := hD
                rcases hp_52 with ⟨rfl, c_53⟩ | ⟨rfl, c_54⟩
                · have hz := rfl (a := 0)
                  have hin9 := c_53
                  rw [hsn.2.1] at hin9
                  refine lv_if_ne (tgt := 49) hx hb dX13_present_43 (by decide) (fun _ => ?_) (fun c_55 => absurd c_55 (by decide))
                  refine lv_aload_n hx hb dX13_present_49 rfl (lv_at hl 2 rfl) ?_
                  refine va_get (D := D) (ci := 13) (v := .ref z11) (C := RX13) (T := TX13) (N := 20) hx hb hg inG13 hown hK hP 0 rfl rfl 11 (by decide) (hg _ wd_764) (fun _ h9 => h9) rfl dX13_present_50 ?_
                  refine lv_aload_n hx hb dX13_present_53 rfl (lv_at hl 2 rfl) ?_
                  refine va_get (D := D) (ci := 13) (v := .int (nI zgw27)) (C := RX13) (T := TX13) (N := 20) hx hb hg inG13 hown hK hP 0 rfl rfl 16 (by decide) (hg _ wd_769) (fun _ h9 => h9) rfl dX13_present_54 ?_
                  refine lv_iload hx hb dX13_present_57 (lv_at hl 0 rfl) ?_
                  have hzlt : zgw27 < 24 := cnt_lt (by assumption) (by assumption) (by assumption) (by omega) (by omega)
                  refine pg_iast hx hb hK hP hD hS i11.1 0 hM_36 rfl (inbN zgw27 24 (by omega) (by omega)) dX13_present_59 (fun H_56 locs hP hD hS => ?_)
                  obtain ⟨M_57, eM_57⟩ : ∃ M1 : Hp, M1 = va_up M_32 z11 (.inl (cy 14, 24, .inl (upd gFw27 ((nI zgw27) : Int32).toNatClampNeg (nI v4w27)))) := ⟨_, rfl⟩
                  have hP : va_P D vwCl ([(za, (b13_0 z0 z1 (nI z2) (nI z3) z4 z5 z6 z7 z8 z9 (nI z10) z11 z12 z13 z14 z15 (nI zgw27) z17 z18 z19))] ++ va_pl L M_57) H_56 := by rw [eM_57]; exact hP
                  have hD : va_D A ([(za, (b13_0 z0 z1 (nI z2) (nI z3) z4 z5 z6 z7 z8 z9 (nI z10) z11 z12 z13 z14 z15 (nI zgw27) z17 z18 z19))] ++ va_pl L M_57) := by rw [eM_57]; exact hD
                  have hW : WOM cy K L M_57 := by rw [eM_57]; exact hW.up_32 i11 ⟨_, rfl, (updP (P := fun z => ∃ c : Nat, c < 24 ∧ z = nI c) hf_37 ⟨v4w27, by omega, rfl⟩)⟩
                  have hF : fr K L [32] M M_57 := by rw [eM_57]; exact hF.up i11 (by decide)
                  have hM_58 : M_57 z11 = .inl (cy 14, 24, .inl (upd gFw27 ((nI zgw27) : Int32).toNatClampNeg (nI v4w27))) := by rw [eM_57]; exact va_up_self _ _ _
                  have hM_59 : M_57 k1 = .inr (12, fs1) := by rw [eM_57, va_up_ne _ _ (ik1.neT i11 (by decide))]; exact hM_34
                  have hM_60 : M_57 v4 = .inl (cy 14, 24, .inl (f5)) := by rw [eM_57, va_up_ne _ _ (hc4.neT i11 (by decide))]; exact hM_35
                  have hf_62 : ∀ j, j < 24 → ∃ c : Nat, c < 24 ∧ (upd gFw27 ((nI zgw27) : Int32).toNatClampNeg (nI v4w27)) j = nI c := (updP (P := fun z => ∃ c : Nat, c < 24 ∧ z = nI c) hf_37 ⟨v4w27, by omega, rfl⟩)
                  obtain ⟨f_61, ef_61⟩ : ∃ f : Nat → Int32, f = upd gFw27 ((nI zgw27) : Int32).toNatClampNeg (nI v4w27) := ⟨_, rfl⟩
                  rw [← ef_61] at hM_58 hf_62
                  refine lv_aload_n hx hb dX13_present_60 rfl (lv_at hl 2 rfl) ?_
                  refine lv_dup hx hb dX13_present_61 rfl ?_
                  refine va_get (D := D) (ci := 13) (v := .int (nI zgw27)) (C := RX13) (T := TX13) (N := 20) hx hb hg inG13 hown hK hP 0 rfl rfl 16 (by decide) (hg _ wd_769) (fun _ h9 => h9) rfl dX13_present_62 ?_
                  refine lv_iconst (v := 1) hx hb dX13_present_65 (by decide) ?_
                  refine lv_iadd hx hb dX13_present_66 ?_
                  refine lv_topi (fun f_63 ef_63 => ?_)
                  obtain rfl : f_63 = (nI (zgw27 + 1)) := ef_63.trans (nI_add zgw27 1)
                  refine va_put (D := D) (ci := 13) (v := .int (nI (zgw27 + 1))) (ty := .int) (C := RX13) (T := TX13) (N := 20) hx hb hg inG13 tyX13 tyX13_ok nmX13 hown hK hP hD hS 0 rfl rfl 16 (by decide) (hg _ wd_769) (fun _ h9 => h9) rfl (by decide +kernel) rfl rfl (Nat.le_of_ble_eq_true rfl) dX13_present_67 (fun H_64 locs hP hD hS => ?_)
                  have hP : va_P D vwCl ([(za, (b13_0 z0 z1 (nI z2) (nI z3) z4 z5 z6 z7 z8 z9 (nI z10) z11 z12 z13 z14 z15 (nI (zgw27 + 1)) z17 z18 z19))] ++ va_pl L M_57) H_64 := hP
                  have hD : va_D A ([(za, (b13_0 z0 z1 (nI z2) (nI z3) z4 z5 z6 z7 z8 z9 (nI z10) z11 z12 z13 z14 z15 (nI (zgw27 + 1)) z17 z18 z19))] ++ va_pl L M_57) := hD
                  refine lv_iinc (v := (nI (v4w27 + 1))) (lv' := [(4, .int (nI (v4w27 + 1))), (3, .int (nI v3w10)), (0, .ref za), (1, .ref k1), (2, .int k2)]) hx hb dX13_present_70 hl (k := 0) rfl (nI_1 v4w27) (by decide) rfl (fun ls hl => ?_)
                  refine lv_goto (tgt := 16) hx hb dX13_present_73 (by decide) ?_
                  exact ih_25 (v4w27 + 1) (zgw27 + 1) f_61 M_57 H_64 _ _ (by omega) hM_59 hM_60 hM_58 hf_62 (by omega) (by first | exact Nat.zero_le _ | assumption | exact cnt_le (by assumption) | exact cnt_step (by assumption) (by assumption) (by assumption) (by omega) (by omega) | exact cnt_out (by assumption)) (by omega) (PRS.yes hx_31 (by rw [ef_61, nI_cl (by omega)]) (by omega) (by omega) (by unfold tin; omega)) hW hF hP hD hS (lv_sub hl [0, 1, 2, 3, 4] rfl)
                · have hz := rfl (a := 0)
                  have hin9 := c_54
                  rw [hsn.2.1] at hin9
                  refine lv_if_ne (tgt := 49) hx hb dX13_present_43 (by decide) (fun c_65 => absurd c_65 (by decide)) (fun _ => ?_)
                  refine lv_goto (tgt := 70) hx hb dX13_present_46 (by decide) ?_
                  refine lv_iinc (v := (nI (v4w27 + 1))) (lv' := [(4, .int (nI (v4w27 + 1))), (3, .int (nI v3w10)), (0, .ref za), (1, .ref k1), (2, .int k2)]) hx hb dX13_present_70 hl (k := 0) rfl (nI_1 v4w27) (by decide) rfl (fun ls hl => ?_)
                  refine lv_goto (tgt := 16) hx hb dX13_present_73 (by decide) ?_
                  exact ih_25 (v4w27 + 1) zgw27 gFw27 M_32 H_49 _ _ (by omega) hM_34 hM_35 hM_36 hf_37 (by omega) (by first | exact Nat.zero_le _ | assumption | exact cnt_le (by assumption) | exact cnt_step (by assumption) (by assumption) (by assumption) (by omega) (by omega) | exact cnt_out (by assumption)) (by omega) (PRS.no hx_31 (fun q9 => by unfold tin at q9; omega)) hW hF hP hD hS (lv_sub hl [0, 1, 2, 3, 4] rfl)
        exact key_24 (24 - 0 + 1) 0 zgw10 gFw10 M_15 H_16 _ _ (by omega) hM_17 hM_18 hM_19 hf_20 (by omega) (by first | exact Nat.zero_le _ | assumption | exact cnt_le (by assumption) | exact cnt_step (by assumption) (by assumption) (by assumption) (by omega) (by omega) | exact cnt_out (by assumption)) (by omega) hx_14 hW hF hP hD hS (lv_sub hl [0, 1, 2, 3, 4] rfl)
  exact key_7 (6 - 0 + 1) 0 0 f6 M H_3 _ _ (by omega) hM1 hM5 hM6 hf6 (by omega) (by first | exact Nat.zero_le _ | assumption | exact cnt_le (by assumption) | exact cnt_step (by assumption) (by assumption) (by assumption) (by omega) (by omega) | exact cnt_out (by assumption)) (by first | omega | (exact Nat.le_trans (by assumption) (cnt_top _ _ _))) PRS.fst hW hF hP hD hS (lv_sub hl [0, 1, 2, 3] rfl)
set_option maxHeartbeats 4000000 in
set_option maxRecDepth 100000 in
theorem f_termx (l : Launch) (D : va_G) (cy : Nat → ClassId) (K : Kp) (L : List Nat) (M : Hp) (sz : Nat) (oa : Nat) (k1 : Nat) (k2 : Nat) (k3 : Nat) (hW : WOM cy K L M) (ia : isk K L oa 12 0) (nk1 : k1 < 16) (nk2 : k2 < 4) (nk3 : k3 < 6) : Met l yX12_term (wsM yX12_term cX12_term 4 (some .int)) ({ frames := 0, cells := 0, slots := 0, locals := 0 }) (va_Pc [.ref oa, .int (nI k1), .int (nI k2), .int (nI k3)] (PG D cy [] L M sz)) (va_Qi (fun (r : Int32) (_ : Unit) => (∃ (vr : Int32), r = vr ∧ (vr = ax M oa 36 ((4 * k1 + k2) * 6 + k3)))) (fun _ t => PQ D [] L M (va_A ([] ++ va_pl L M) sz) t) (va_A ([] ++ va_pl L M) sz)) 0 0 (va_A ([] ++ va_pl L M) sz) := by
  refine Met.ofW (cc := cX12_term) (maxL := 4) (ret := (some .int)) (by decide) rfl ?_
  intro p e s m args below meth c s₁ B hml hv
  obtain ⟨rfl, hsz, hP, hK, hD0, hN⟩ := hv
  have hx := B.exec
  have hb := B.bytes
  have hr := B.returns
  have hts := atoms_spec (ws := (wsM yX12_term cX12_term 4 (some .int))) B.pre
  have hg : ∀ w ∈ lw_good, w.before _ s = true := fun w h => hts w (List.mem_cons_of_mem _ h)
  have hown : s.vm.findClass RX12 = some m.cls := findClass_of_methodNamed B.named
  have hlocks := B.notSynchronized
  subst hsz
  have hD := hD0.self (sz := s.heap.size)
  generalize hAe : va_A ([] ++ va_pl L M) s.heap.size = A at hD ⊢
  have hA : ∀ q : Nat, s.heap.size ≤ q → A q := fun q h => by rw [← hAe]; exact Or.inr h
  have hS : va_S A s.heap s.heap [] := va_S.rf
  have hl := lv_entry ([.ref oa, .int (nI k1), .int (nI k2), .int (nI k3)]) (n := 4) (Nat.le_of_ble_eq_true rfl)
  rw [lg_entry_eq]
  generalize (lg_sl ([.ref oa, .int (nI k1), .int (nI k2), .int (nI k3)]) ++ List.replicate (4 - (lg_sl ([.ref oa, .int (nI k1), .int (nI k2), .int (nI k3)])).length) Slot.unset).toArray = ls at hl ⊢
  refine W.nameQ (fun Q hQ => ?_)
  refine W.nameR (fun R hR => ?_)
  have hRf : 0 ≤ R.frames := by rw [hR]; exact Nat.le_of_ble_eq_true rfl
  have hRl : 0 ≤ R.locals := by rw [hR]; exact Nat.le_of_ble_eq_true rfl
  have hRc : 0 ≤ R.cells := by rw [hR]; exact Nat.le_of_ble_eq_true rfl
  have hRs : 0 ≤ R.slots := by rw [hR]; exact Nat.le_of_ble_eq_true rfl
  have hl : lv_has ls 4 [(0, .ref oa), (1, .int (nI k1)), (2, .int (nI k2)), (3, .int (nI k3))] := hl
  refine lv_aload_n hx hb dX12_term_0 rfl (lv_at hl 0 rfl) ?_
  obtain ⟨fs1, hM1, hn1, hl1⟩ := hW.open_12 ia
  obtain ⟨v2, hv2, hc2⟩ : ∃ v : Nat, fs1[36]? = some (.ref v : Value) ∧ isk K L v 78 384 := hl1 36 (by decide)
  refine pg_get (D := D) (ci := 12) (v := .ref v2) (C := RX12) (T := TX12) (N := 51) hx hb hg inG12 hown hK hP ia.1 hM1 rfl 36 (by decide) (hg _ wd_705) (fun _ h9 => h9) hv2 dX12_term_1 ?_
  refine lv_iconst (v := 4) hx hb dX12_term_4 (by decide) ?_
  refine lv_iload_n hx hb dX12_term_5 rfl (lv_at hl 1 rfl) ?_
  refine lv_imul hx hb dX12_term_6 ?_
  refine lv_topi (fun f_3 ef_3 => ?_)
  obtain rfl : f_3 = (nI (4 * k1)) := ef_3.trans (nI_mul 4 k1)
  refine lv_iload_n hx hb dX12_term_7 rfl (lv_at hl 2 rfl) ?_
  refine lv_iadd hx hb dX12_term_8 ?_
  refine lv_topi (fun f_4 ef_4 => ?_)
  obtain rfl : f_4 = (nI ((4 * k1) + k2)) := ef_4.trans (nI_add (4 * k1) k2)
  refine lv_bipush (v := 6) hx hb dX12_term_9 (by decide) ?_
  refine lv_imul hx hb dX12_term_11 ?_
  refine lv_topi (fun f_5 ef_5 => ?_)
  obtain rfl : f_5 = (nI (((4 * k1) + k2) * 6)) := ef_5.trans (nI_mul ((4 * k1) + k2) 6)
  refine lv_iload_n hx hb dX12_term_12 rfl (lv_at hl 3 rfl) ?_
  refine lv_iadd hx hb dX12_term_13 ?_
  refine lv_topi (fun f_6 ef_6 => ?_)
  obtain rfl : f_6 = (nI ((((4 * k1) + k2) * 6) + k3)) := ef_6.trans (nI_add (((4 * k1) + k2) * 6) k3)
  obtain ⟨f7, hM7⟩ := hW.open_78 hc2
  refine pg_iald hx hb hK hP hc2.1 0 hM7 rfl (inbN ((((4 * k1) + k2) * 6) + k3) 384 (by omega) (by omega)) dX12_term_14 ?_
  refine lv_topi (fun f_8 ef_8 => ?_)
  rw [hQ]
  exact W.iret (v := f_8) hx hb hr (fun t ht hW9 => ⟨⟨f_8, (), rfl, ⟨_, rfl, (by rw [ax_of hM1 (by decide) hv2 hM7, ef_8, nI_cl (by omega)])⟩, ⟨by rw [ht]; exact hP, hD⟩⟩, hS.F ht⟩) hS.2.2 dX12_term_15
set_option maxHeartbeats 4000000 in
set_option maxRecDepth 100000 in
theorem z_weights (l : Launch) (D : va_G) (cy : Nat → ClassId) (K : Kp) (L : List Nat) (M : Hp) (sz : Nat) (za : Nat) (z0 : Int32) (z1 : Nat) (z2 : Nat) (z3 : Nat) (z4 : Int32) (z5 : Int32) (z6 : Nat) (z7 : Nat) (z8 : Nat) (z9 : Nat) (z10 : Nat) (z11 : Nat) (z12 : Nat) (z13 : Nat) (z14 : Nat) (z15 : Nat) (z16 : Nat) (z17 : Nat) (z18 : Int32) (z19 : Nat) (k1 : Nat) (k2 : Nat) (k3 : Nat) (hW : WOM cy K L M) (i1 : isk K L z1 23 8) (b2 : z2 ≤ 8) (b3 : z3 ≤ 40) (i6 : isk K L z6 47 40) (i7 : isk K L z7 48 40) (i8 : isk K L z8 49 8) (i9 : isk K L z9 50 8) (b10 : z10 ≤ 8) (i11 : isk K L z11 32 24) (i12 : isk K L z12 14 24) (i13 : isk K L z13 97 24) (i14 : isk K L z14 98 24) (i15 : isk K L z15 99 24) (b16 : z16 ≤ 24) (i17 : isk K L z17 14 24) (i19 : isk K L z19 15 25) (ik1 : isk K L k1 12 0) (nk2 : k2 < 16) (nk3 : k3 < 4) : Met l yX13_weights (wsM yX13_weights cX13_weights 5 none) ({ frames := 1, cells := 0, slots := 0, locals := 23 }) (va_Pc [.ref za, .ref k1, .int (nI k2), .int (nI k3)] (PG D cy [(za, (b13_0 z0 z1 (nI z2) (nI z3) z4 z5 z6 z7 z8 z9 (nI z10) z11 z12 z13 z14 z15 (nI z16) z17 z18 z19))] L M sz)) (va_Qv (fun (M9 : Hp) => WOM cy K L M9 ∧ fr K L [14] M M9 ∧ (WGP (ax M k1) (IFc (M z11)) (IFc (M9 z12)) k2 k3 z16) ∧ (True)) (fun M9 t => PQ D [(za, (b13_0 z0 z1 (nI z2) (nI z3) z4 z5 z6 z7 z8 z9 (nI z10) z11 z12 z13 z14 z15 (nI z16) z17 z18 z19))] L M9 (va_A ([(za, (b13_0 z0 z1 (nI z2) (nI z3) z4 z5 z6 z7 z8 z9 (nI z10) z11 z12 z13 z14 z15 (nI z16) z17 z18 z19))] ++ va_pl L M) sz) t) (va_A ([(za, (b13_0 z0 z1 (nI z2) (nI z3) z4 z5 z6 z7 z8 z9 (nI z10) z11 z12 z13 z14 z15 (nI z16) z17 z18 z19))] ++ va_pl L M) sz)) 0 0 (va_A ([(za, (b13_0 z0 z1 (nI z2) (nI z3) z4 z5 z6 z7 z8 z9 (nI z10) z11 z12 z13 z14 z15 (nI z16) z17 z18 z19))] ++ va_pl L M) sz) := by
  refine Met.ofW (cc := cX13_weights) (maxL := 5) (ret := none) (by decide) rfl ?_
  intro p e s m args below meth c s₁ B hml hv
  obtain ⟨rfl, hsz, hP, hK, hD0, hN⟩ := hv
  have hx := B.exec
  have hb := B.bytes
  have hr := B.returns
  have hts := atoms_spec (ws := (wsM yX13_weights cX13_weights 5 none)) B.pre
  have hg : ∀ w ∈ lw_good, w.before _ s = true := fun w h => hts w (List.mem_cons_of_mem _ h)
  have hown : s.vm.findClass RX13 = some m.cls := findClass_of_methodNamed B.named
  have hlocks := B.notSynchronized
  subst hsz
  have hD := hD0.self (sz := s.heap.size)
  generalize hAe : va_A ([(za, (b13_0 z0 z1 (nI z2) (nI z3) z4 z5 z6 z7 z8 z9 (nI z10) z11 z12 z13 z14 z15 (nI z16) z17 z18 z19))] ++ va_pl L M) s.heap.size = A at hD ⊢
  have hA : ∀ q : Nat, s.heap.size ≤ q → A q := fun q h => by rw [← hAe]; exact Or.inr h
  have hS : va_S A s.heap s.heap [] := va_S.rf
  have hl := lv_entry ([.ref za, .ref k1, .int (nI k2), .int (nI k3)]) (n := 5) (Nat.le_of_ble_eq_true rfl)
  rw [lg_entry_eq]
  generalize (lg_sl ([.ref za, .ref k1, .int (nI k2), .int (nI k3)]) ++ List.replicate (5 - (lg_sl ([.ref za, .ref k1, .int (nI k2), .int (nI k3)])).length) Slot.unset).toArray = ls at hl ⊢
  refine W.nameQ (fun Q hQ => ?_)
  refine W.nameR (fun R hR => ?_)
  have hRf : 1 ≤ R.frames := by rw [hR]; exact Nat.le_of_ble_eq_true rfl
  have hRl : 23 ≤ R.locals := by rw [hR]; exact Nat.le_of_ble_eq_true rfl
  have hRc : 0 ≤ R.cells := by rw [hR]; exact Nat.le_of_ble_eq_true rfl
  have hRs : 0 ≤ R.slots := by rw [hR]; exact Nat.le_of_ble_eq_true rfl
  have hF : fr K L [14] M M := fr.rf
  have hl : lv_has ls 5 [(0, .ref za), (1, .ref k1), (2, .int (nI k2)), (3, .int (nI k3))] := hl
  have hW0 := hW
  refine lv_iconst (v := 0) hx hb dX13_weights_0 (by decide) ?_
  refine lv_istore (lv' := [(4, .int 0), (0, .ref za), (1, .ref k1), (2, .int (nI k2)), (3, .int (nI k3))]) hx hb dX13_weights_1 hl (by decide) rfl (fun ls hl => ?_)
  obtain ⟨f1, hM1⟩ := hW.open_14 i12
  have key_2 : ∀ (fu_4 : Nat) (v4w5 : Nat) (gWw5 : Nat → Int32) (M_9 : Hp) (H_10 : Heap) (locs : List Loc) (ls : Array Slot), 24 - v4w5 < fu_4 → M_9 z12 = .inl (cy 14, 24, .inl (gWw5)) → v4w5 ≤ 24 → v4w5 ≤ z16 → WGP (ax M k1) (IFc (M z11)) gWw5 k2 k3 v4w5 → WOM cy K L M_9 → fr K L [14] M M_9 → va_P D vwCl ([(za, (b13_0 z0 z1 (nI z2) (nI z3) z4 z5 z6 z7 z8 z9 (nI z10) z11 z12 z13 z14 z15 (nI z16) z17 z18 z19))] ++ va_pl L M_9) H_10 → va_D A ([(za, (b13_0 z0 z1 (nI z2) (nI z3) z4 z5 z6 z7 z8 z9 (nI z10) z11 z12 z13 z14 z15 (nI z16) z17 z18 z19))] ++ va_pl L M_9) → va_S A s.heap H_10 locs → lv_has ls 5 [(4, .int (nI v4w5)), (0, .ref za), (1, .ref k1), (2, .int (nI k2)), (3, .int (nI k3))] → W p l e R s m ([.ref za, .ref k1, .int (nI k2), .int (nI k3)] : List Value).toArray below meth c H_10 locs 0 0 Q (F0 m 3 ls []) := by
    intro fu_4
    induction fu_4 with
    | zero => intro v4w5 gWw5 M_9 H_10 locs ls h; exact absurd h (Nat.not_lt_zero _)
    | succ fu_4 ih_3 =>
      intro v4w5 gWw5 M_9 H_10 locs ls hfu hM_11 hx_6 hx_7 hx_8 hW hF hP hD hS hl
      refine lv_iload hx hb dX13_weights_3 (lv_at hl 0 rfl) ?_
      refine lv_aload_n hx hb dX13_weights_5 rfl (lv_at hl 1 rfl) ?_
      refine va_get (D := D) (ci := 13) (v := .int (nI z16)) (C := RX13) (T := TX13) (N := 20) hx hb hg inG13 hown hK hP 0 rfl rfl 16 (by decide) (hg _ wd_769) (fun _ h9 => h9) rfl dX13_weights_6 ?_
      refine lv_icmp_ge (tgt := 43) hx hb dX13_weights_9 (by decide) (fun c_12 => ?_) (fun c_12 => ?_)
      · have hz := rfl (a := 0)
        have n_13 : z16 ≤ v4w5 := (iLE (a := z16) (b := v4w5) (by omega) (by omega)).mp c_12
        rw [hQ]
        exact W.vret hx hb hr (fun t ht hW9 => ⟨⟨M_9, rfl, ⟨hW, hF, (by rw [IFc_of hM_11]; have h9 := hx_8; rw [show v4w5 = z16 by omega] at h9; exact h9), trivial⟩, ⟨by rw [ht]; exact hP, hD⟩⟩, hS.F ht⟩) hS.2.2 dX13_weights_43
      · have hz := rfl (a := 0)
        have n_14 : ¬ (z16 ≤ v4w5) := fun q => c_12 ((iLE (a := z16) (b := v4w5) (by omega) (by omega)).mpr q)
        refine lv_aload_n hx hb dX13_weights_12 rfl (lv_at hl 1 rfl) ?_
        refine va_get (D := D) (ci := 13) (v := .ref z12) (C := RX13) (T := TX13) (N := 20) hx hb hg inG13 hown hK hP 0 rfl rfl 12 (by decide) (hg _ wd_763) (fun _ h9 => h9) rfl dX13_weights_13 ?_
        refine lv_iload hx hb dX13_weights_16 (lv_at hl 0 rfl) ?_
        refine lv_aload_n hx hb dX13_weights_18 rfl (lv_at hl 2 rfl) ?_
        refine lv_iload_n hx hb dX13_weights_19 rfl (lv_at hl 3 rfl) ?_
        refine lv_iload_n hx hb dX13_weights_20 rfl (lv_at hl 4 rfl) ?_
        refine lv_aload_n hx hb dX13_weights_21 rfl (lv_at hl 2 rfl) ?_
        obtain ⟨fs15, hM15, hn15, hl15⟩ := hW.open_12 ik1
        obtain ⟨v16, hv16, hc16⟩ : ∃ v : Nat, fs15[20]? = some (.ref v : Value) ∧ isk K L v 31 24 := hl15 20 (by decide)
        refine pg_getN (D := D) (ci := 12) (v := .ref v16) (C := RX12) (T := TX12) (N := 51) hx hb hg inG12 hown hK hP ik1.1 hM15 rfl 20 (by decide) (hN.use (Cond.fieldLinkNest RX13 110 RX12 "where" "[I" RX13) 29 rfl rfl) (fun _ h9 => h9) hv16 dX13_weights_22 ?_
        refine lv_aload_n hx hb dX13_weights_25 rfl (lv_at hl 1 rfl) ?_
        refine va_get (D := D) (ci := 13) (v := .ref z11) (C := RX13) (T := TX13) (N := 20) hx hb hg inG13 hown hK hP 0 rfl rfl 11 (by decide) (hg _ wd_764) (fun _ h9 => h9) rfl dX13_weights_26 ?_
        refine lv_iload hx hb dX13_weights_29 (lv_at hl 0 rfl) ?_
        obtain ⟨f17, hM17, hf17⟩ := hW.open_32 i11
        have hi_18 : vp_in (nI v4w5) 24 := (inbN v4w5 24 (by omega) (by omega))
        refine pg_iald hx hb hK hP i11.1 0 hM17 rfl hi_18 dX13_weights_31 ?_
        have hp_19 := hf17 _ (vp_lt hi_18)
        obtain ⟨c_20, hc_21, ec_22⟩ := hp_19
        rw [ec_22]
        obtain ⟨f23, hM23, hf23⟩ := hW.open_31 hc16
        have hi_24 : vp_in (nI c_20) 24 := (inbN c_20 24 (by omega) (by omega))
        refine pg_iald hx hb hK hP hc16.1 0 hM23 rfl hi_24 dX13_weights_32 ?_
        have hp_25 := hf23 _ (vp_lt hi_24)
        obtain ⟨c_26, hc_27, ec_28⟩ := hp_25
        rw [ec_28]
        have hsn := seen hW0 hW hF ((fG.rf (js := [])).frR hF (by decide)) (by decide) (by decide) ik1
        have h20 : ax M k1 20 c_20 = (nI c_26) := by have h9 := ec_28; rw [nI_cl (by omega)] at h9; rw [← hsn.2.1, ax_of hM15 (by decide) hv16 hM23]; exact h9
        have h11 : IFc (M z11) v4w5 = (nI c_20) := by have h9 := ec_22; rw [nI_cl (by omega)] at h9; rw [← hF.at i11 (by decide), IFc_of hM17]; exact h9
        have hPc : va_P D vwCl ([] ++ va_pl L M_9) H_10 := hP.part (cx := []) [] rfl
        have hDc : va_D A ([] ++ va_pl L M_9) := hD.part (cx := []) [] (by decide) rfl
        have hFc : ∀ q, va_A ([] ++ va_pl L M_9) H_10.size q → A q := pg_free hDc hS hA
        refine va_calli (va_runV (As := [.int (nI k2), .int (nI k3), .int (nI c_26)]) (rest := [.int (nI v4w5), .ref z12]) ⟨hx, hb, hml, hown, hg⟩ (f_termx l D cy K L M_9 H_10.size k1 k2 k3 c_26  hW ik1 nk2 nk3 hc_27) (cwV 3 hg (gV wd_770 wd_771 wd_772 wd_737 wd_773) rfl rfl rfl (by decide +kernel) ⟨(Nat.le_trans (Nat.le_of_ble_eq_true rfl) hRf), (Nat.le_trans (Nat.le_of_ble_eq_true rfl) hRl)⟩) ⟨PG.blind, pg_recv hK hP ik1.1 hM15 rfl, fun U hU hW => ⟨rfl, PG.at hPc hK hDc hN hU hW⟩⟩ rfl rfl hl.1 rfl (lv_room (Nat.le_of_ble_eq_true rfl)) dX13_weights_33 ⟨(Nat.le_trans (Nat.le_of_ble_eq_true rfl) hRc), (Nat.le_trans (Nat.le_of_ble_eq_true rfl) hRs)⟩) hS (fun q _ h => hFc q h) hFc (fun r_30 M_31 t H_29 locs ht hvm hw hB hz1 hk1 hS => ?_)
        have hp_32 := hw
        obtain ⟨hP1, hD1⟩ := hB
        rw [ht] at hP1
        obtain ⟨hP, hD⟩ := va_joinP (X := [(za, (b13_0 z0 z1 (nI z2) (nI z3) z4 z5 z6 z7 z8 z9 (nI z10) z11 z12 z13 z14 z15 (nI z16) z17 z18 z19))]) (cx := []) (wr := [(za, (b13_0 z0 z1 (nI z2) (nI z3) z4 z5 z6 z7 z8 z9 (nI z10) z11 z12 z13 z14 z15 (nI z16) z17 z18 z19))]) (rx := []) (pl := va_pl L M_9) (pl1 := va_pl L M_9) hP hD [] [0] rfl rfl (by decide) (by decide) hk1 hFc hP1 hD1
        have hP : va_P D vwCl ([(za, (b13_0 z0 z1 (nI z2) (nI z3) z4 z5 z6 z7 z8 z9 (nI z10) z11 z12 z13 z14 z15 (nI z16) z17 z18 z19))] ++ va_pl L M_9) H_29 := hP
        have hD : va_D A ([(za, (b13_0 z0 z1 (nI z2) (nI z3) z4 z5 z6 z7 z8 z9 (nI z10) z11 z12 z13 z14 z15 (nI z16) z17 z18 z19))] ++ va_pl L M_9) := hD
        obtain ⟨vr_33, hr_35, c_34⟩ := hp_32
        have hq := Eq.symm hr_35
        subst hq
        have h36 := c_34
        rw [hsn.2.1] at h36
        refine pg_iast hx hb hK hP hD hS i12.1 0 hM_11 rfl (inbN v4w5 24 (by omega) (by omega)) dX13_weights_36 (fun H_36 locs hP hD hS => ?_)
        obtain ⟨M_37, eM_37⟩ : ∃ M1 : Hp, M1 = va_up M_9 z12 (.inl (cy 14, 24, .inl (upd gWw5 ((nI v4w5) : Int32).toNatClampNeg vr_33))) := ⟨_, rfl⟩
        have hP : va_P D vwCl ([(za, (b13_0 z0 z1 (nI z2) (nI z3) z4 z5 z6 z7 z8 z9 (nI z10) z11 z12 z13 z14 z15 (nI z16) z17 z18 z19))] ++ va_pl L M_37) H_36 := by rw [eM_37]; exact hP
        have hD : va_D A ([(za, (b13_0 z0 z1 (nI z2) (nI z3) z4 z5 z6 z7 z8 z9 (nI z10) z11 z12 z13 z14 z15 (nI z16) z17 z18 z19))] ++ va_pl L M_37) := by rw [eM_37]; exact hD
        have hW : WOM cy K L M_37 := by rw [eM_37]; exact hW.up_14 i12 ⟨_, rfl⟩
        have hF : fr K L [14] M M_37 := by rw [eM_37]; exact hF.up i12 (by decide)
        have hM_38 : M_37 z12 = .inl (cy 14, 24, .inl (upd gWw5 ((nI v4w5) : Int32).toNatClampNeg vr_33)) := by rw [eM_37]; exact va_up_self _ _ _
        have hM_39 : M_37 k1 = .inr (12, fs15) := by rw [eM_37, va_up_ne _ _ (ik1.neT i12 (by decide))]; exact hM15
        have hM_40 : M_37 z11 = .inl (cy 14, 24, .inl (f17)) := by rw [eM_37, va_up_ne _ _ (i11.neT i12 (by decide))]; exact hM17
        have hM_41 : M_37 v16 = .inl (cy 14, 24, .inl (f23)) := by rw [eM_37, va_up_ne _ _ (hc16.neT i12 (by decide))]; exact hM23
        obtain ⟨f_42, ef_42⟩ : ∃ f : Nat → Int32, f = upd gWw5 ((nI v4w5) : Int32).toNatClampNeg vr_33 := ⟨_, rfl⟩
        rw [← ef_42] at hM_38
        refine lv_iinc (v := (nI (v4w5 + 1))) (lv' := [(4, .int (nI (v4w5 + 1))), (0, .ref za), (1, .ref k1), (2, .int (nI k2)), (3, .int (nI k3))]) hx hb dX13_weights_37 hl (k := 0) rfl (nI_1 v4w5) (by decide) rfl (fun ls hl => ?_)
        refine lv_goto (tgt := 3) hx hb dX13_weights_40 (by decide) ?_
        exact ih_3 (v4w5 + 1) f_42 M_37 H_36 _ _ (by omega) hM_38 (by omega) (by omega) (by rw [ef_42]; intro j hj i9 hi9 hij; by_cases z9 : j = v4w5; rw [z9, h11] at hij; have e9 : c_20 = i9 := (iEQ (a := c_20) (b := i9) (by omega) (by omega)).mp hij; rw [z9, nI_cl (by omega), upd_self, ← e9]; exact ⟨c_26, by omega, h20, h36⟩; rw [upd_ne _ _ (by rw [nI_cl (by omega)]; exact z9)]; exact hx_8 j (by omega) i9 hi9 hij) hW hF hP hD hS (lv_sub hl [0, 1, 2, 3, 4] rfl)
  exact key_2 (24 - 0 + 1) 0 f1 M s.heap _ _ (by omega) hM1 (by omega) (by omega) (fun j h => absurd h (Nat.not_lt_zero _)) hW hF hP hD hS (lv_sub hl [0, 1, 2, 3, 4] rfl)
set_option maxHeartbeats 4000000 in
set_option maxRecDepth 100000 in
theorem z_weighs (l : Launch) (D : va_G) (cy : Nat → ClassId) (K : Kp) (L : List Nat) (M : Hp) (sz : Nat) (za : Nat) (z0 : Int32) (z1 : Nat) (z2 : Nat) (z3 : Nat) (z4 : Int32) (z5 : Int32) (z6 : Nat) (z7 : Nat) (z8 : Nat) (z9 : Nat) (z10 : Nat) (z11 : Nat) (z12 : Nat) (z13 : Nat) (z14 : Nat) (z15 : Nat) (z16 : Nat) (z17 : Nat) (z18 : Int32) (z19 : Nat) (k1 : Nat) (k3 : Nat) (hW : WOM cy K L M) (i1 : isk K L z1 23 8) (b2 : z2 ≤ 8) (b3 : z3 ≤ 40) (i6 : isk K L z6 47 40) (i7 : isk K L z7 48 40) (i8 : isk K L z8 49 8) (i9 : isk K L z9 50 8) (b10 : z10 ≤ 8) (i11 : isk K L z11 32 24) (i12 : isk K L z12 14 24) (i13 : isk K L z13 97 24) (i14 : isk K L z14 98 24) (i15 : isk K L z15 99 24) (b16 : z16 ≤ 24) (i17 : isk K L z17 14 24) (i19 : isk K L z19 15 25) (nk1 : k1 < 24) (ik3 : isk K L k3 12 0) : Met l yX13_weighs (wsM yX13_weighs cX13_weighs 4 (some .int)) ({ frames := 0, cells := 0, slots := 0, locals := 0 }) (va_Pc [.ref za, .int (nI k1), .int 0, .ref k3] (PG D cy [(za, (b13_0 z0 z1 (nI z2) (nI z3) z4 z5 z6 z7 z8 z9 (nI z10) z11 z12 z13 z14 z15 (nI z16) z17 z18 z19))] L M sz)) (va_Qi (fun (r : Int32) (_ : Unit) => (∃ (vr : Int32), r = vr ∧ (vr = IFc (M z12) k1))) (fun _ t => PQ D [(za, (b13_0 z0 z1 (nI z2) (nI z3) z4 z5 z6 z7 z8 z9 (nI z10) z11 z12 z13 z14 z15 (nI z16) z17 z18 z19))] L M (va_A ([(za, (b13_0 z0 z1 (nI z2) (nI z3) z4 z5 z6 z7 z8 z9 (nI z10) z11 z12 z13 z14 z15 (nI z16) z17 z18 z19))] ++ va_pl L M) sz) t) (va_A ([(za, (b13_0 z0 z1 (nI z2) (nI z3) z4 z5 z6 z7 z8 z9 (nI z10) z11 z12 z13 z14 z15 (nI z16) z17 z18 z19))] ++ va_pl L M) sz)) 0 0 (va_A ([(za, (b13_0 z0 z1 (nI z2) (nI z3) z4 z5 z6 z7 z8 z9 (nI z10) z11 z12 z13 z14 z15 (nI z16) z17 z18 z19))] ++ va_pl L M) sz) := by
  refine Met.ofW (cc := cX13_weighs) (maxL := 4) (ret := (some .int)) (by decide) rfl ?_
  intro p e s m args below meth c s₁ B hml hv
  obtain ⟨rfl, hsz, hP, hK, hD0, hN⟩ := hv
  have hx := B.exec
  have hb := B.bytes
  have hr := B.returns
  have hts := atoms_spec (ws := (wsM yX13_weighs cX13_weighs 4 (some .int))) B.pre
  have hg : ∀ w ∈ lw_good, w.before _ s = true := fun w h => hts w (List.mem_cons_of_mem _ h)
  have hown : s.vm.findClass RX13 = some m.cls := findClass_of_methodNamed B.named
  have hlocks := B.notSynchronized
  subst hsz
  have hD := hD0.self (sz := s.heap.size)
  generalize hAe : va_A ([(za, (b13_0 z0 z1 (nI z2) (nI z3) z4 z5 z6 z7 z8 z9 (nI z10) z11 z12 z13 z14 z15 (nI z16) z17 z18 z19))] ++ va_pl L M) s.heap.size = A at hD ⊢
  have hA : ∀ q : Nat, s.heap.size ≤ q → A q := fun q h => by rw [← hAe]; exact Or.inr h
  have hS : va_S A s.heap s.heap [] := va_S.rf
  have hl := lv_entry ([.ref za, .int (nI k1), .int 0, .ref k3]) (n := 4) (Nat.le_of_ble_eq_true rfl)
  rw [lg_entry_eq]
  generalize (lg_sl ([.ref za, .int (nI k1), .int 0, .ref k3]) ++ List.replicate (4 - (lg_sl ([.ref za, .int (nI k1), .int 0, .ref k3])).length) Slot.unset).toArray = ls at hl ⊢
  refine W.nameQ (fun Q hQ => ?_)
  refine W.nameR (fun R hR => ?_)
  have hRf : 0 ≤ R.frames := by rw [hR]; exact Nat.le_of_ble_eq_true rfl
  have hRl : 0 ≤ R.locals := by rw [hR]; exact Nat.le_of_ble_eq_true rfl
  have hRc : 0 ≤ R.cells := by rw [hR]; exact Nat.le_of_ble_eq_true rfl
  have hRs : 0 ≤ R.slots := by rw [hR]; exact Nat.le_of_ble_eq_true rfl
  have hl : lv_has ls 4 [(0, .ref za), (1, .int (nI k1)), (2, .int 0), (3, .ref k3)] := hl
  refine lv_iload_n hx hb dX13_weighs_0 rfl (lv_at hl 2 rfl) ?_
  refine lv_if_eq (tgt := 22) hx hb dX13_weighs_1 (by decide) (fun _ => ?_) (fun c_1 => absurd c_1 (by decide))
  refine lv_aload_n hx hb dX13_weighs_22 rfl (lv_at hl 0 rfl) ?_
  refine va_get (D := D) (ci := 13) (v := .ref z12) (C := RX13) (T := TX13) (N := 20) hx hb hg inG13 hown hK hP 0 rfl rfl 12 (by decide) (hg _ wd_763) (fun _ h9 => h9) rfl dX13_weighs_23 ?_
  refine lv_iload_n hx hb dX13_weighs_26 rfl (lv_at hl 1 rfl) ?_
  obtain ⟨f2, hM2⟩ := hW.open_14 i12
  refine pg_iald hx hb hK hP i12.1 0 hM2 rfl (inbN k1 24 (by omega) (by omega)) dX13_weighs_27 ?_
  refine lv_topi (fun f_3 ef_3 => ?_)
  rw [hQ]
  exact W.iret (v := f_3) hx hb hr (fun t ht hW9 => ⟨⟨f_3, (), rfl, ⟨_, rfl, (by rw [IFc_of hM2, ef_3, nI_cl (by omega)])⟩, ⟨by rw [ht]; exact hP, hD⟩⟩, hS.F ht⟩) hS.2.2 dX13_weighs_28
set_option maxHeartbeats 4000000 in
set_option maxRecDepth 100000 in
theorem z_cut (l : Launch) (D : va_G) (cy : Nat → ClassId) (K : Kp) (L : List Nat) (M : Hp) (sz : Nat) (za : Nat) (z0 : Int32) (z1 : Nat) (z2 : Nat) (z3 : Nat) (z4 : Int32) (z5 : Int32) (z6 : Nat) (z7 : Nat) (z8 : Nat) (z9 : Nat) (z10 : Nat) (z11 : Nat) (z12 : Nat) (z13 : Nat) (z14 : Nat) (z15 : Nat) (z16 : Nat) (z17 : Nat) (z18 : Int32) (z19 : Nat) (k1 : Int64) (k2 : Nat) (k4 : Nat) (hW : WOM cy K L M) (i1 : isk K L z1 23 8) (b2 : z2 ≤ 8) (b3 : z3 ≤ 40) (i6 : isk K L z6 47 40) (i7 : isk K L z7 48 40) (i8 : isk K L z8 49 8) (i9 : isk K L z9 50 8) (b10 : z10 ≤ 8) (i11 : isk K L z11 32 24) (i12 : isk K L z12 14 24) (i13 : isk K L z13 97 24) (i14 : isk K L z14 98 24) (i15 : isk K L z15 99 24) (b16 : z16 ≤ 24) (i17 : isk K L z17 14 24) (i19 : isk K L z19 15 25) (ik2 : isk K L k2 97 24) (ik4 : isk K L k4 12 0) (hWB : (∀ j : Nat, j < z16 → 0 ≤ (IFc (M z12) j).toInt ∧ (IFc (M z12) j).toInt ≤ 1000000000)) : Met l yX13_cut (wsM yX13_cut cX13_cut 13 (some .boolean)) ({ frames := 1, cells := 0, slots := 0, locals := 23 }) (va_Pc [.ref za, .long k1, .ref k2, .int 0, .ref k4] (PG D cy [(za, (b13_0 z0 z1 (nI z2) (nI z3) z4 z5 z6 z7 z8 z9 (nI z10) z11 z12 z13 z14 z15 (nI z16) z17 z18 z19))] L M sz)) (va_Qi (fun (r : Int32) (M9 : Hp) => WOM cy K L M9 ∧ fr K L [97, 98] M M9 ∧ ((r = 1 ∧ (ANYW (IFc (M z12)) z16)) ∨ (r = 0 ∧ ¬ (ANYW (IFc (M z12)) z16)))) (fun M9 t => PQ D [(za, (b13_0 z0 z1 (nI z2) (nI z3) z4 z5 z6 z7 z8 z9 (nI z10) z11 z12 z13 z14 z15 (nI z16) z17 z18 z19))] L M9 (va_A ([(za, (b13_0 z0 z1 (nI z2) (nI z3) z4 z5 z6 z7 z8 z9 (nI z10) z11 z12 z13 z14 z15 (nI z16) z17 z18 z19))] ++ va_pl L M) sz) t) (va_A ([(za, (b13_0 z0 z1 (nI z2) (nI z3) z4 z5 z6 z7 z8 z9 (nI z10) z11 z12 z13 z14 z15 (nI z16) z17 z18 z19))] ++ va_pl L M) sz)) 0 0 (va_A ([(za, (b13_0 z0 z1 (nI z2) (nI z3) z4 z5 z6 z7 z8 z9 (nI z10) z11 z12 z13 z14 z15 (nI z16) z17 z18 z19))] ++ va_pl L M) sz) := by
  refine Met.ofW (cc := cX13_cut) (maxL := 13) (ret := (some .boolean)) (by decide) rfl ?_
  intro p e s m args below meth c s₁ B hml hv
  obtain ⟨rfl, hsz, hP, hK, hD0, hN⟩ := hv
  have hx := B.exec
  have hb := B.bytes
  have hr := B.returns
  have hts := atoms_spec (ws := (wsM yX13_cut cX13_cut 13 (some .boolean))) B.pre
  have hg : ∀ w ∈ lw_good, w.before _ s = true := fun w h => hts w (List.mem_cons_of_mem _ h)
  have hown : s.vm.findClass RX13 = some m.cls := findClass_of_methodNamed B.named
  have hlocks := B.notSynchronized
  subst hsz
  have hD := hD0.self (sz := s.heap.size)
  generalize hAe : va_A ([(za, (b13_0 z0 z1 (nI z2) (nI z3) z4 z5 z6 z7 z8 z9 (nI z10) z11 z12 z13 z14 z15 (nI z16) z17 z18 z19))] ++ va_pl L M) s.heap.size = A at hD ⊢
  have hA : ∀ q : Nat, s.heap.size ≤ q → A q := fun q h => by rw [← hAe]; exact Or.inr h
  have hS : va_S A s.heap s.heap [] := va_S.rf
  have hl := lv_entry ([.ref za, .long k1, .ref k2, .int 0, .ref k4]) (n := 13) (Nat.le_of_ble_eq_true rfl)
  rw [lg_entry_eq]
  generalize (lg_sl ([.ref za, .long k1, .ref k2, .int 0, .ref k4]) ++ List.replicate (13 - (lg_sl ([.ref za, .long k1, .ref k2, .int 0, .ref k4])).length) Slot.unset).toArray = ls at hl ⊢
  refine W.nameQ (fun Q hQ => ?_)
  refine W.nameR (fun R hR => ?_)
  have hRf : 1 ≤ R.frames := by rw [hR]; exact Nat.le_of_ble_eq_true rfl
  have hRl : 23 ≤ R.locals := by rw [hR]; exact Nat.le_of_ble_eq_true rfl
  have hRc : 0 ≤ R.cells := by rw [hR]; exact Nat.le_of_ble_eq_true rfl
  have hRs : 0 ≤ R.slots := by rw [hR]; exact Nat.le_of_ble_eq_true rfl
  have hF : fr K L [97, 98] M M := fr.rf
  have hl : lv_has ls 13 [(0, .ref za), (1, .long k1), (3, .ref k2), (4, .int 0), (5, .ref k4)] := hl
  have hW0 := hW
  refine lv_lconst (v := 0) hx hb dX13_cut_0 (by decide) ?_
  refine lv_lstore (lv' := [(6, .long 0), (0, .ref za), (1, .long k1), (3, .ref k2), (4, .int 0), (5, .ref k4)]) hx hb dX13_cut_1 hl (by decide) rfl (fun ls hl => ?_)
  refine lv_iconst (v := 0) hx hb dX13_cut_3 (by decide) ?_
  refine lv_istore (lv' := [(8, .int 0), (6, .long 0), (0, .ref za), (1, .long k1), (3, .ref k2), (4, .int 0), (5, .ref k4)]) hx hb dX13_cut_4 hl (by decide) rfl (fun ls hl => ?_)
  have key_1 : ∀ (fu_3 : Nat) (v6w4 : Int64) (v8w4 : Nat) (M_8 : Hp) (H_9 : Heap) (locs : List Loc) (ls : Array Slot), 24 - v8w4 < fu_3 → v8w4 ≤ 24 → v8w4 ≤ z16 → ZWS (IFc (M z12)) v6w4 v8w4 → WOM cy K L M_8 → fr K L [97, 98] M M_8 → va_P D vwCl ([(za, (b13_0 z0 z1 (nI z2) (nI z3) z4 z5 z6 z7 z8 z9 (nI z10) z11 z12 z13 z14 z15 (nI z16) z17 z18 z19))] ++ va_pl L M_8) H_9 → va_D A ([(za, (b13_0 z0 z1 (nI z2) (nI z3) z4 z5 z6 z7 z8 z9 (nI z10) z11 z12 z13 z14 z15 (nI z16) z17 z18 z19))] ++ va_pl L M_8) → va_S A s.heap H_9 locs → lv_has ls 13 [(8, .int (nI v8w4)), (6, .long v6w4), (0, .ref za), (1, .long k1), (3, .ref k2), (4, .int 0), (5, .ref k4)] → W p l e R s m ([.ref za, .long k1, .ref k2, .int 0, .ref k4] : List Value).toArray below meth c H_9 locs 0 0 Q (F0 m 6 ls []) := by
    intro fu_3
    induction fu_3 with
    | zero => intro v6w4 v8w4 M_8 H_9 locs ls h; exact absurd h (Nat.not_lt_zero _)
    | succ fu_3 ih_2 =>
      intro v6w4 v8w4 M_8 H_9 locs ls hfu hx_5 hx_6 hx_7 hW hF hP hD hS hl
      refine lv_iload hx hb dX13_cut_6 (lv_at hl 0 rfl) ?_
      refine lv_aload_n hx hb dX13_cut_8 rfl (lv_at hl 2 rfl) ?_
      refine va_get (D := D) (ci := 13) (v := .int (nI z16)) (C := RX13) (T := TX13) (N := 20) hx hb hg inG13 hown hK hP 0 rfl rfl 16 (by decide) (hg _ wd_769) (fun _ h9 => h9) rfl dX13_cut_9 ?_
      refine lv_icmp_ge (tgt := 42) hx hb dX13_cut_12 (by decide) (fun c_10 => ?_) (fun c_10 => ?_)
      · have hz := rfl (a := 0)
        have n_11 : z16 ≤ v8w4 := (iLE (a := z16) (b := v8w4) (by omega) (by omega)).mp c_10
        have hzw := hx_7
        rw [show v8w4 = z16 by omega] at hzw
        refine lv_lload hx hb dX13_cut_42 (lv_at hl 1 rfl) ?_
        refine lv_lconst (v := 0) hx hb dX13_cut_44 (by decide) ?_
        refine W.lcmp hx hb dX13_cut_45 ?_
        refine lv_if_ne (tgt := 51) hx hb dX13_cut_46 (by decide) (fun c_12 => ?_) (fun c_12 => ?_)
        · have hz := rfl (a := 0)
          have d_13 : ¬ v6w4 = 0 := lc_net c_12
          refine lv_lload_n hx hb dX13_cut_51 rfl (lv_at hl 3 rfl) ?_
          refine lv_lstore (lv' := [(8, .long k1), (6, .long v6w4), (0, .ref za), (1, .long k1), (3, .ref k2), (4, .int 0), (5, .ref k4)]) hx hb dX13_cut_52 hl (by decide) rfl (fun ls hl => ?_)
          refine lv_iconst (v := 0) hx hb dX13_cut_54 (by decide) ?_
          refine lv_istore (lv' := [(10, .int 0), (8, .long k1), (6, .long v6w4), (0, .ref za), (1, .long k1), (3, .ref k2), (4, .int 0), (5, .ref k4)]) hx hb dX13_cut_55 hl (by decide) rfl (fun ls hl => ?_)
          have key_14 : ∀ (fu_16 : Nat) (v8w17 : Int64) (v10w17 : Nat) (M_19 : Hp) (H_20 : Heap) (locs : List Loc) (ls : Array Slot), 24 - v10w17 < fu_16 → v10w17 ≤ 24 → WOM cy K L M_19 → fr K L [97, 98] M M_19 → va_P D vwCl ([(za, (b13_0 z0 z1 (nI z2) (nI z3) z4 z5 z6 z7 z8 z9 (nI z10) z11 z12 z13 z14 z15 (nI z16) z17 z18 z19))] ++ va_pl L M_19) H_20 → va_D A ([(za, (b13_0 z0 z1 (nI z2) (nI z3) z4 z5 z6 z7 z8 z9 (nI z10) z11 z12 z13 z14 z15 (nI z16) z17 z18 z19))] ++ va_pl L M_19) → va_S A s.heap H_20 locs → lv_has ls 13 [(10, .int (nI v10w17)), (8, .long v8w17), (6, .long v6w4), (0, .ref za), (1, .long k1), (3, .ref k2), (4, .int 0), (5, .ref k4)] → W p l e R s m ([.ref za, .long k1, .ref k2, .int 0, .ref k4] : List Value).toArray below meth c H_20 locs 0 0 Q (F0 m 57 ls []) := by
            intro fu_16
            induction fu_16 with
            | zero => intro v8w17 v10w17 M_19 H_20 locs ls h; exact absurd h (Nat.not_lt_zero _)
            | succ fu_16 ih_15 =>
              intro v8w17 v10w17 M_19 H_20 locs ls hfu hx_18 hW hF hP hD hS hl
              refine lv_iload hx hb dX13_cut_57 (lv_at hl 0 rfl) ?_
              refine lv_aload_n hx hb dX13_cut_59 rfl (lv_at hl 3 rfl) ?_
              refine va_get (D := D) (ci := 13) (v := .int (nI z16)) (C := RX13) (T := TX13) (N := 20) hx hb hg inG13 hown hK hP 0 rfl rfl 16 (by decide) (hg _ wd_769) (fun _ h9 => h9) rfl dX13_cut_60 ?_
              refine lv_icmp_ge (tgt := 117) hx hb dX13_cut_63 (by decide) (fun c_21 => ?_) (fun c_21 => ?_)
              · have hz := rfl (a := 0)
                have n_22 : z16 ≤ v10w17 := (iLE (a := z16) (b := v10w17) (by omega) (by omega)).mp c_21
                have hl : lv_has ls 13 [(8, .long v8w17), (6, .long v6w4), (0, .ref za), (1, .long k1), (3, .ref k2), (4, .int 0), (5, .ref k4)] := lv_sub hl [1, 2, 3, 4, 5, 6, 7] rfl
                have key_23 : ∀ (fu_25 : Nat) (v8w26 : Int64) (M_27 : Hp) (H_28 : Heap) (locs : List Loc) (ls : Array Slot), v8w26.toInt.toNat < fu_25 → WOM cy K L M_27 → fr K L [97, 98] M M_27 → va_P D vwCl ([(za, (b13_0 z0 z1 (nI z2) (nI z3) z4 z5 z6 z7 z8 z9 (nI z10) z11 z12 z13 z14 z15 (nI z16) z17 z18 z19))] ++ va_pl L M_27) H_28 → va_D A ([(za, (b13_0 z0 z1 (nI z2) (nI z3) z4 z5 z6 z7 z8 z9 (nI z10) z11 z12 z13 z14 z15 (nI z16) z17 z18 z19))] ++ va_pl L M_27) → va_S A s.heap H_28 locs → lv_has ls 13 [(8, .long v8w26), (6, .long v6w4), (0, .ref za), (1, .long k1), (3, .ref k2), (4, .int 0), (5, .ref k4)] → W p l e R s m ([.ref za, .long k1, .ref k2, .int 0, .ref k4] : List Value).toArray below meth c H_28 locs 0 0 Q (F0 m 117 ls []) := by
                  intro fu_25
                  induction fu_25 with
                  | zero => intro v8w26 M_27 H_28 locs ls h; exact absurd h (Nat.not_lt_zero _)
                  | succ fu_25 ih_24 =>
                    intro v8w26 M_27 H_28 locs ls hfu hW hF hP hD hS hl
                    refine lv_lload hx hb dX13_cut_117 (lv_at hl 0 rfl) ?_
                    refine lv_lconst (v := 0) hx hb dX13_cut_119 (by decide) ?_
                    refine W.lcmp hx hb dX13_cut_120 ?_
                    refine lv_if_le (tgt := 194) hx hb dX13_cut_121 (by decide) (fun c_29 => ?_) (fun c_29 => ?_)
                    · have hz := rfl (a := 0)
                      have d_30 : v8w26 ≤ 0 := lc_let c_29
                      refine lv_iconst (v := 1) hx hb dX13_cut_194 (by decide) ?_
                      rw [hQ]
                      exact W.zret (v := 1) hx hb hr rfl (fun t ht hW9 => ⟨⟨1, M_27, rfl, ⟨hW, hF, (Or.inl ⟨rfl, hzw.pos d_13⟩)⟩, ⟨by rw [ht]; exact hP, hD⟩⟩, hS.F ht⟩) hS.2.2 dX13_cut_195
                    · have hz := rfl (a := 0)
                      have d_30 : ¬ v8w26 ≤ 0 := lc_lef c_29
                      refine lv_iconst (v := 0) hx hb dX13_cut_124 (by decide) ?_
                      refine lv_istore (lv' := [(10, .int 0), (8, .long v8w26), (6, .long v6w4), (0, .ref za), (1, .long k1), (3, .ref k2), (4, .int 0), (5, .ref k4)]) hx hb dX13_cut_125 hl (by decide) rfl (fun ls hl => ?_)
                      refine lv_iconst (v := 1) hx hb dX13_cut_127 (by decide) ?_
                      refine lv_istore (lv' := [(11, .int 1), (10, .int 0), (8, .long v8w26), (6, .long v6w4), (0, .ref za), (1, .long k1), (3, .ref k2), (4, .int 0), (5, .ref k4)]) hx hb dX13_cut_128 hl (by decide) rfl (fun ls hl => ?_)
                      have key_31 : ∀ (fu_33 : Nat) (v10w34 : Nat) (v11w34 : Nat) (M_37 : Hp) (H_38 : Heap) (locs : List Loc) (ls : Array Slot), 24 - v11w34 < fu_33 → v10w34 < 24 → v11w34 ≤ 24 → WOM cy K L M_37 → fr K L [97, 98] M M_37 → va_P D vwCl ([(za, (b13_0 z0 z1 (nI z2) (nI z3) z4 z5 z6 z7 z8 z9 (nI z10) z11 z12 z13 z14 z15 (nI z16) z17 z18 z19))] ++ va_pl L M_37) H_38 → va_D A ([(za, (b13_0 z0 z1 (nI z2) (nI z3) z4 z5 z6 z7 z8 z9 (nI z10) z11 z12 z13 z14 z15 (nI z16) z17 z18 z19))] ++ va_pl L M_37) → va_S A s.heap H_38 locs → lv_has ls 13 [(11, .int (nI v11w34)), (10, .int (nI v10w34)), (8, .long v8w26), (6, .long v6w4), (0, .ref za), (1, .long k1), (3, .ref k2), (4, .int 0), (5, .ref k4)] → W p l e R s m ([.ref za, .long k1, .ref k2, .int 0, .ref k4] : List Value).toArray below meth c H_38 locs 0 0 Q (F0 m 130 ls []) := by
                        intro fu_33
                        induction fu_33 with
                        | zero => intro v10w34 v11w34 M_37 H_38 locs ls h; exact absurd h (Nat.not_lt_zero _)
                        | succ fu_33 ih_32 =>
                          intro v10w34 v11w34 M_37 H_38 locs ls hfu hx_35 hx_36 hW hF hP hD hS hl
                          refine lv_iload hx hb dX13_cut_130 (lv_at hl 0 rfl) ?_
                          refine lv_aload_n hx hb dX13_cut_132 rfl (lv_at hl 4 rfl) ?_
                          refine va_get (D := D) (ci := 13) (v := .int (nI z16)) (C := RX13) (T := TX13) (N := 20) hx hb hg inG13 hown hK hP 0 rfl rfl 16 (by decide) (hg _ wd_769) (fun _ h9 => h9) rfl dX13_cut_133 ?_
                          refine lv_icmp_ge (tgt := 167) hx hb dX13_cut_136 (by decide) (fun c_39 => ?_) (fun c_39 => ?_)
                          · have hz := rfl (a := 0)
                            have n_40 : z16 ≤ v11w34 := (iLE (a := z16) (b := v11w34) (by omega) (by omega)).mp c_39
                            refine lv_aload_n hx hb dX13_cut_167 rfl (lv_at hl 6 rfl) ?_
                            refine lv_iload hx hb dX13_cut_168 (lv_at hl 1 rfl) ?_
                            refine lv_dup2_11 hx hb dX13_cut_170 rfl rfl ?_
                            obtain ⟨f41, hM41⟩ := hW.open_97 ik2
                            refine pg_lald hx hb hK hP ik2.1 1 hM41 rfl (inbN v10w34 24 (by omega) (by omega)) dX13_cut_171 ?_
                            refine lv_topl (fun f_42 ef_42 => ?_)
                            refine lv_lconst (v := 1) hx hb dX13_cut_172 (by decide) ?_
                            refine lv_ladd hx hb dX13_cut_173 ?_
                            refine lv_topl (fun f_43 ef_43 => ?_)
                            refine pg_last hx hb hK hP hD hS ik2.1 1 hM41 rfl (inbN v10w34 24 (by omega) (by omega)) dX13_cut_174 (fun H_44 locs hP hD hS => ?_)
                            obtain ⟨M_45, eM_45⟩ : ∃ M1 : Hp, M1 = va_up M_37 k2 (.inl (cy 15, 24, .inr (.inl (vp_updL f41 ((nI v10w34) : Int32).toNatClampNeg f_43)))) := ⟨_, rfl⟩
                            have hP : va_P D vwCl ([(za, (b13_0 z0 z1 (nI z2) (nI z3) z4 z5 z6 z7 z8 z9 (nI z10) z11 z12 z13 z14 z15 (nI z16) z17 z18 z19))] ++ va_pl L M_45) H_44 := by rw [eM_45]; exact hP
                            have hD : va_D A ([(za, (b13_0 z0 z1 (nI z2) (nI z3) z4 z5 z6 z7 z8 z9 (nI z10) z11 z12 z13 z14 z15 (nI z16) z17 z18 z19))] ++ va_pl L M_45) := by rw [eM_45]; exact hD
                            have hW : WOM cy K L M_45 := by rw [eM_45]; exact hW.up_97 ik2 ⟨_, rfl⟩
                            have hF : fr K L [97, 98] M M_45 := by rw [eM_45]; exact hF.up ik2 (by decide)
                            have hM_46 : M_45 k2 = .inl (cy 15, 24, .inr (.inl (vp_updL f41 ((nI v10w34) : Int32).toNatClampNeg f_43))) := by rw [eM_45]; exact va_up_self _ _ _
                            obtain ⟨f_47, ef_47⟩ : ∃ f : Nat → Int64, f = vp_updL f41 ((nI v10w34) : Int32).toNatClampNeg f_43 := ⟨_, rfl⟩
                            rw [← ef_47] at hM_46
                            refine lv_aload_n hx hb dX13_cut_175 rfl (lv_at hl 4 rfl) ?_
                            refine va_get (D := D) (ci := 13) (v := .ref z14) (C := RX13) (T := TX13) (N := 20) hx hb hg inG13 hown hK hP 0 rfl rfl 14 (by decide) (hg _ wd_783) (fun _ h9 => h9) rfl dX13_cut_176 ?_
                            refine lv_iload hx hb dX13_cut_179 (lv_at hl 1 rfl) ?_
                            refine lv_ldc2 (v := (-1)) hx hb hown (hg _ wd_784) dX13_cut_181 ?_
                            obtain ⟨f48, hM48⟩ := hW.open_98 i14
                            refine pg_last hx hb hK hP hD hS i14.1 1 hM48 rfl (inbN v10w34 24 (by omega) (by omega)) dX13_cut_184 (fun H_49 locs hP hD hS => ?_)
                            obtain ⟨M_50, eM_50⟩ : ∃ M1 : Hp, M1 = va_up M_45 z14 (.inl (cy 15, 24, .inr (.inl (vp_updL f48 ((nI v10w34) : Int32).toNatClampNeg (-1))))) := ⟨_, rfl⟩
                            have hP : va_P D vwCl ([(za, (b13_0 z0 z1 (nI z2) (nI z3) z4 z5 z6 z7 z8 z9 (nI z10) z11 z12 z13 z14 z15 (nI z16) z17 z18 z19))] ++ va_pl L M_50) H_49 := by rw [eM_50]; exact hP
                            have hD : va_D A ([(za, (b13_0 z0 z1 (nI z2) (nI z3) z4 z5 z6 z7 z8 z9 (nI z10) z11 z12 z13 z14 z15 (nI z16) z17 z18 z19))] ++ va_pl L M_50) := by rw [eM_50]; exact hD
                            have hW : WOM cy K L M_50 := by rw [eM_50]; exact hW.up_98 i14 ⟨_, rfl⟩
                            have hF : fr K L [97, 98] M M_50 := by rw [eM_50]; exact hF.up i14 (by decide)
                            have hM_51 : M_50 z14 = .inl (cy 15, 24, .inr (.inl (vp_updL f48 ((nI v10w34) : Int32).toNatClampNeg (-1)))) := by rw [eM_50]; exact va_up_self _ _ _
                            have hM_52 : M_50 k2 = .inl (cy 15, 24, .inr (.inl (f_47))) := by rw [eM_50, va_up_ne _ _ (ik2.neT i14 (by decide))]; exact hM_46
                            obtain ⟨f_53, ef_53⟩ : ∃ f : Nat → Int64, f = vp_updL f48 ((nI v10w34) : Int32).toNatClampNeg (-1) := ⟨_, rfl⟩
                            rw [← ef_53] at hM_51
                            refine lv_lload hx hb dX13_cut_185 (lv_at hl 2 rfl) ?_
                            refine lv_lconst (v := 1) hx hb dX13_cut_187 (by decide) ?_
                            refine lv_lsub hx hb dX13_cut_188 ?_
                            refine lv_topl (fun f_54 ef_54 => ?_)
                            refine lv_lstore (lv' := [(8, .long f_54), (11, .int (nI v11w34)), (10, .int (nI v10w34)), (6, .long v6w4), (0, .ref za), (1, .long k1), (3, .ref k2), (4, .int 0), (5, .ref k4)]) hx hb dX13_cut_189 hl (by decide) rfl (fun ls hl => ?_)
                            refine lv_goto (tgt := 117) hx hb dX13_cut_191 (by decide) ?_
                            exact ih_24 f_54 M_50 H_49 _ _ (by have h9 := l1dec ef_54 d_30; omega) hW hF hP hD hS (lv_sub hl [0, 3, 4, 5, 6, 7, 8] rfl)
                          · have hz := rfl (a := 0)
                            have n_55 : ¬ (z16 ≤ v11w34) := fun q => c_39 ((iLE (a := z16) (b := v11w34) (by omega) (by omega)).mpr q)
                            refine lv_aload_n hx hb dX13_cut_139 rfl (lv_at hl 4 rfl) ?_
                            refine va_get (D := D) (ci := 13) (v := .ref z14) (C := RX13) (T := TX13) (N := 20) hx hb hg inG13 hown hK hP 0 rfl rfl 14 (by decide) (hg _ wd_783) (fun _ h9 => h9) rfl dX13_cut_140 ?_
                            refine lv_iload hx hb dX13_cut_143 (lv_at hl 0 rfl) ?_
                            obtain ⟨f56, hM56⟩ := hW.open_98 i14
                            refine pg_lald hx hb hK hP i14.1 1 hM56 rfl (inbN v11w34 24 (by omega) (by omega)) dX13_cut_145 ?_
                            refine lv_topl (fun f_57 ef_57 => ?_)
                            refine lv_aload_n hx hb dX13_cut_146 rfl (lv_at hl 4 rfl) ?_
                            refine va_get (D := D) (ci := 13) (v := .ref z14) (C := RX13) (T := TX13) (N := 20) hx hb hg inG13 hown hK hP 0 rfl rfl 14 (by decide) (hg _ wd_783) (fun _ h9 => h9) rfl dX13_cut_147 ?_
                            refine lv_iload hx hb dX13_cut_150 (lv_at hl 1 rfl) ?_
                            refine pg_lald hx hb hK hP i14.1 1 hM56 rfl (inbN v10w34 24 (by omega) (by omega)) dX13_cut_152 ?_
                            refine lv_topl (fun f_58 ef_58 => ?_)
                            refine W.lcmp hx hb dX13_cut_153 ?_
                            refine lv_if_le (tgt := 161) hx hb dX13_cut_154 (by decide) (fun c_59 => ?_) (fun c_59 => ?_)
                            · have hz := rfl (a := 0)
                              have d_60 : f_57 ≤ f_58 := lc_let c_59
                              refine lv_iinc (v := (nI (v11w34 + 1))) (lv' := [(11, .int (nI (v11w34 + 1))), (10, .int (nI v10w34)), (8, .long v8w26), (6, .long v6w4), (0, .ref za), (1, .long k1), (3, .ref k2), (4, .int 0), (5, .ref k4)]) hx hb dX13_cut_161 hl (k := 0) rfl (nI_1 v11w34) (by decide) rfl (fun ls hl => ?_)
                              refine lv_goto (tgt := 130) hx hb dX13_cut_164 (by decide) ?_
                              exact ih_32 v10w34 (v11w34 + 1) M_37 H_38 _ _ (by omega) (by omega) (by omega) hW hF hP hD hS (lv_sub hl [0, 1, 2, 3, 4, 5, 6, 7, 8] rfl)
                            · have hz := rfl (a := 0)
                              have d_60 : ¬ f_57 ≤ f_58 := lc_lef c_59
                              refine lv_iload hx hb dX13_cut_157 (lv_at hl 0 rfl) ?_
                              refine lv_istore (lv' := [(10, .int (nI v11w34)), (11, .int (nI v11w34)), (8, .long v8w26), (6, .long v6w4), (0, .ref za), (1, .long k1), (3, .ref k2), (4, .int 0), (5, .ref k4)]) hx hb dX13_cut_159 hl (by decide) rfl (fun ls hl => ?_)
                              refine lv_iinc (v := (nI (v11w34 + 1))) (lv' := [(11, .int (nI (v11w34 + 1))), (10, .int (nI v11w34)), (8, .long v8w26), (6, .long v6w4), (0, .ref za), (1, .long k1), (3, .ref k2), (4, .int 0), (5, .ref k4)]) hx hb dX13_cut_161 hl (k := 1) rfl (nI_1 v11w34) (by decide) rfl (fun ls hl => ?_)
                              refine lv_goto (tgt := 130) hx hb dX13_cut_164 (by decide) ?_
                              exact ih_32 v11w34 (v11w34 + 1) M_37 H_38 _ _ (by omega) (by omega) (by omega) hW hF hP hD hS (lv_sub hl [0, 1, 2, 3, 4, 5, 6, 7, 8] rfl)
                      exact key_31 (24 - 1 + 1) 0 1 M_27 H_28 _ _ (by omega) (by omega) (by omega) hW hF hP hD hS (lv_sub hl [0, 1, 2, 3, 4, 5, 6, 7, 8] rfl)
                exact key_23 (v8w17.toInt.toNat + 1) v8w17 M_19 H_20 _ _ (by omega) hW hF hP hD hS (lv_sub hl [0, 1, 2, 3, 4, 5, 6] rfl)
              · have hz := rfl (a := 0)
                have n_61 : ¬ (z16 ≤ v10w17) := fun q => c_21 ((iLE (a := z16) (b := v10w17) (by omega) (by omega)).mpr q)
                refine lv_lload_n hx hb dX13_cut_66 rfl (lv_at hl 4 rfl) ?_
                refine lv_aload_n hx hb dX13_cut_67 rfl (lv_at hl 3 rfl) ?_
                refine lv_iload hx hb dX13_cut_68 (lv_at hl 0 rfl) ?_
                refine lv_iload hx hb dX13_cut_70 (lv_at hl 6 rfl) ?_
                refine lv_aload hx hb dX13_cut_72 (lv_at hl 7 rfl) ?_
                have hPc : va_P D vwCl ([(za, (b13_0 z0 z1 (nI z2) (nI z3) z4 z5 z6 z7 z8 z9 (nI z10) z11 z12 z13 z14 z15 (nI z16) z17 z18 z19))] ++ va_pl L M_19) H_20 := hP
                have hDc : va_D A ([(za, (b13_0 z0 z1 (nI z2) (nI z3) z4 z5 z6 z7 z8 z9 (nI z10) z11 z12 z13 z14 z15 (nI z16) z17 z18 z19))] ++ va_pl L M_19) := hD
                have hFc : ∀ q, va_A ([(za, (b13_0 z0 z1 (nI z2) (nI z3) z4 z5 z6 z7 z8 z9 (nI z10) z11 z12 z13 z14 z15 (nI z16) z17 z18 z19))] ++ va_pl L M_19) H_20.size q → A q := pg_free hDc hS hA
                refine va_calli (va_runV (As := [.int (nI v10w17), .int 0, .ref k4]) (rest := [.long k1]) ⟨hx, hb, hml, hown, hg⟩ (z_weighs l D cy K L M_19 H_20.size za z0 z1 z2 z3 z4 z5 z6 z7 z8 z9 z10 z11 z12 z13 z14 z15 z16 z17 z18 z19 v10w17 k4  hW i1 b2 b3 i6 i7 i8 i9 b10 i11 i12 i13 i14 i15 b16 i17 i19 (by omega) ik4) (cwV 3 hg (gV wd_785 wd_786 wd_787 wd_717 wd_788) rfl rfl rfl (by decide +kernel) ⟨(Nat.le_trans (Nat.le_of_ble_eq_true rfl) hRf), (Nat.le_trans (Nat.le_of_ble_eq_true rfl) hRl)⟩) ⟨PG.blind, va_recv hK hP (ci := 13) (q0 := 0) rfl rfl, fun U hU hW => ⟨rfl, PG.at hPc hK hDc hN hU hW⟩⟩ rfl rfl hl.1 rfl (lv_room (Nat.le_of_ble_eq_true rfl)) dX13_cut_74 ⟨(Nat.le_trans (Nat.le_of_ble_eq_true rfl) hRc), (Nat.le_trans (Nat.le_of_ble_eq_true rfl) hRs)⟩) hS (fun q _ h => hFc q h) hFc (fun r_63 M_64 t H_62 locs ht hvm hw hB hz1 hk1 hS => ?_)
                have hp_65 := hw
                obtain ⟨hP1, hD1⟩ := hB
                rw [ht] at hP1
                have hP : va_P D vwCl ([(za, (b13_0 z0 z1 (nI z2) (nI z3) z4 z5 z6 z7 z8 z9 (nI z10) z11 z12 z13 z14 z15 (nI z16) z17 z18 z19))] ++ va_pl L M_19) H_62 := hP1
                have hD : va_D A ([(za, (b13_0 z0 z1 (nI z2) (nI z3) z4 z5 z6 z7 z8 z9 (nI z10) z11 z12 z13 z14 z15 (nI z16) z17 z18 z19))] ++ va_pl L M_19) := hD1.mono hFc
                obtain ⟨vr_66, hr_68, c_67⟩ := hp_65
                have hq := Eq.symm hr_68
                subst hq
                refine lv_i2l hx hb dX13_cut_77 rfl ?_
                refine lv_topl (fun f_69 ef_69 => ?_)
                refine lv_lmul hx hb dX13_cut_78 ?_
                refine lv_topl (fun f_70 ef_70 => ?_)
                refine lv_lstore (lv' := [(11, .long f_70), (10, .int (nI v10w17)), (8, .long v8w17), (6, .long v6w4), (0, .ref za), (1, .long k1), (3, .ref k2), (4, .int 0), (5, .ref k4)]) hx hb dX13_cut_79 hl (by decide) rfl (fun ls hl => ?_)
                refine lv_aload_n hx hb dX13_cut_81 rfl (lv_at hl 6 rfl) ?_
                refine lv_iload hx hb dX13_cut_82 (lv_at hl 1 rfl) ?_
                refine lv_lload hx hb dX13_cut_84 (lv_at hl 0 rfl) ?_
                refine lv_lload hx hb dX13_cut_86 (lv_at hl 3 rfl) ?_
                refine lv_ldiv hx hb dX13_cut_88 d_13 ?_
                refine lv_topl (fun f_71 ef_71 => ?_)
                obtain ⟨f72, hM72⟩ := hW.open_97 ik2
                refine pg_last hx hb hK hP hD hS ik2.1 1 hM72 rfl (inbN v10w17 24 (by omega) (by omega)) dX13_cut_89 (fun H_73 locs hP hD hS => ?_)
                obtain ⟨M_74, eM_74⟩ : ∃ M1 : Hp, M1 = va_up M_19 k2 (.inl (cy 15, 24, .inr (.inl (vp_updL f72 ((nI v10w17) : Int32).toNatClampNeg f_71)))) := ⟨_, rfl⟩
                have hP : va_P D vwCl ([(za, (b13_0 z0 z1 (nI z2) (nI z3) z4 z5 z6 z7 z8 z9 (nI z10) z11 z12 z13 z14 z15 (nI z16) z17 z18 z19))] ++ va_pl L M_74) H_73 := by rw [eM_74]; exact hP
                have hD : va_D A ([(za, (b13_0 z0 z1 (nI z2) (nI z3) z4 z5 z6 z7 z8 z9 (nI z10) z11 z12 z13 z14 z15 (nI z16) z17 z18 z19))] ++ va_pl L M_74) := by rw [eM_74]; exact hD
                have hW : WOM cy K L M_74 := by rw [eM_74]; exact hW.up_97 ik2 ⟨_, rfl⟩
                have hF : fr K L [97, 98] M M_74 := by rw [eM_74]; exact hF.up ik2 (by decide)
                have hM_75 : M_74 k2 = .inl (cy 15, 24, .inr (.inl (vp_updL f72 ((nI v10w17) : Int32).toNatClampNeg f_71))) := by rw [eM_74]; exact va_up_self _ _ _
                obtain ⟨f_76, ef_76⟩ : ∃ f : Nat → Int64, f = vp_updL f72 ((nI v10w17) : Int32).toNatClampNeg f_71 := ⟨_, rfl⟩
                rw [← ef_76] at hM_75
                refine lv_aload_n hx hb dX13_cut_90 rfl (lv_at hl 4 rfl) ?_
                refine va_get (D := D) (ci := 13) (v := .ref z14) (C := RX13) (T := TX13) (N := 20) hx hb hg inG13 hown hK hP 0 rfl rfl 14 (by decide) (hg _ wd_783) (fun _ h9 => h9) rfl dX13_cut_91 ?_
                refine lv_iload hx hb dX13_cut_94 (lv_at hl 1 rfl) ?_
                refine lv_lload hx hb dX13_cut_96 (lv_at hl 0 rfl) ?_
                refine lv_lload hx hb dX13_cut_98 (lv_at hl 3 rfl) ?_
                refine lv_lrem hx hb dX13_cut_100 d_13 ?_
                refine lv_topl (fun f_77 ef_77 => ?_)
                obtain ⟨f78, hM78⟩ := hW.open_98 i14
                refine pg_last hx hb hK hP hD hS i14.1 1 hM78 rfl (inbN v10w17 24 (by omega) (by omega)) dX13_cut_101 (fun H_79 locs hP hD hS => ?_)
                obtain ⟨M_80, eM_80⟩ : ∃ M1 : Hp, M1 = va_up M_74 z14 (.inl (cy 15, 24, .inr (.inl (vp_updL f78 ((nI v10w17) : Int32).toNatClampNeg f_77)))) := ⟨_, rfl⟩
                have hP : va_P D vwCl ([(za, (b13_0 z0 z1 (nI z2) (nI z3) z4 z5 z6 z7 z8 z9 (nI z10) z11 z12 z13 z14 z15 (nI z16) z17 z18 z19))] ++ va_pl L M_80) H_79 := by rw [eM_80]; exact hP
                have hD : va_D A ([(za, (b13_0 z0 z1 (nI z2) (nI z3) z4 z5 z6 z7 z8 z9 (nI z10) z11 z12 z13 z14 z15 (nI z16) z17 z18 z19))] ++ va_pl L M_80) := by rw [eM_80]; exact hD
                have hW : WOM cy K L M_80 := by rw [eM_80]; exact hW.up_98 i14 ⟨_, rfl⟩
                have hF : fr K L [97, 98] M M_80 := by rw [eM_80]; exact hF.up i14 (by decide)
                have hM_81 : M_80 z14 = .inl (cy 15, 24, .inr (.inl (vp_updL f78 ((nI v10w17) : Int32).toNatClampNeg f_77))) := by rw [eM_80]; exact va_up_self _ _ _
                have hM_82 : M_80 k2 = .inl (cy 15, 24, .inr (.inl (f_76))) := by rw [eM_80, va_up_ne _ _ (ik2.neT i14 (by decide))]; exact hM_75
                obtain ⟨f_83, ef_83⟩ : ∃ f : Nat → Int64, f = vp_updL f78 ((nI v10w17) : Int32).toNatClampNeg f_77 := ⟨_, rfl⟩
                rw [← ef_83] at hM_81
                refine lv_lload hx hb dX13_cut_102 (lv_at hl 2 rfl) ?_
                refine lv_aload_n hx hb dX13_cut_104 rfl (lv_at hl 6 rfl) ?_
                refine lv_iload hx hb dX13_cut_105 (lv_at hl 1 rfl) ?_
                refine pg_lald hx hb hK hP ik2.1 1 hM_82 rfl (inbN v10w17 24 (by omega) (by omega)) dX13_cut_107 ?_
                refine lv_topl (fun f_84 ef_84 => ?_)
                refine lv_lsub hx hb dX13_cut_108 ?_
                refine lv_topl (fun f_85 ef_85 => ?_)
                refine lv_lstore (lv' := [(8, .long f_85), (11, .long f_70), (10, .int (nI v10w17)), (6, .long v6w4), (0, .ref za), (1, .long k1), (3, .ref k2), (4, .int 0), (5, .ref k4)]) hx hb dX13_cut_109 hl (by decide) rfl (fun ls hl => ?_)
                refine lv_iinc (v := (nI (v10w17 + 1))) (lv' := [(10, .int (nI (v10w17 + 1))), (8, .long f_85), (11, .long f_70), (6, .long v6w4), (0, .ref za), (1, .long k1), (3, .ref k2), (4, .int 0), (5, .ref k4)]) hx hb dX13_cut_111 hl (k := 2) rfl (nI_1 v10w17) (by decide) rfl (fun ls hl => ?_)
                refine lv_goto (tgt := 57) hx hb dX13_cut_114 (by decide) ?_
                exact ih_15 f_85 (v10w17 + 1) M_80 H_79 _ _ (by omega) (by omega) hW hF hP hD hS (lv_sub hl [0, 1, 3, 4, 5, 6, 7, 8] rfl)
          exact key_14 (24 - 0 + 1) k1 0 M_8 H_9 _ _ (by omega) (by omega) hW hF hP hD hS (lv_sub hl [0, 1, 2, 3, 4, 5, 6, 7] rfl)
        · have hz := rfl (a := 0)
          have d_13 : v6w4 = 0 := lc_nef c_12
          refine lv_iconst (v := 0) hx hb dX13_cut_49 (by decide) ?_
          rw [hQ]
          exact W.zret (v := 0) hx hb hr rfl (fun t ht hW9 => ⟨⟨0, M_8, rfl, ⟨hW, hF, (Or.inr ⟨rfl, hzw.zero d_13⟩)⟩, ⟨by rw [ht]; exact hP, hD⟩⟩, hS.F ht⟩) hS.2.2 dX13_cut_50
      · have hz := rfl (a := 0)
        have n_86 : ¬ (z16 ≤ v8w4) := fun q => c_10 ((iLE (a := z16) (b := v8w4) (by omega) (by omega)).mpr q)
        refine lv_aload_n hx hb dX13_cut_15 rfl (lv_at hl 4 rfl) ?_
        refine lv_iload hx hb dX13_cut_16 (lv_at hl 0 rfl) ?_
        refine lv_lconst (v := 0) hx hb dX13_cut_18 (by decide) ?_
        obtain ⟨f87, hM87⟩ := hW.open_97 ik2
        refine pg_last hx hb hK hP hD hS ik2.1 1 hM87 rfl (inbN v8w4 24 (by omega) (by omega)) dX13_cut_19 (fun H_88 locs hP hD hS => ?_)
        obtain ⟨M_89, eM_89⟩ : ∃ M1 : Hp, M1 = va_up M_8 k2 (.inl (cy 15, 24, .inr (.inl (vp_updL f87 ((nI v8w4) : Int32).toNatClampNeg 0)))) := ⟨_, rfl⟩
        have hP : va_P D vwCl ([(za, (b13_0 z0 z1 (nI z2) (nI z3) z4 z5 z6 z7 z8 z9 (nI z10) z11 z12 z13 z14 z15 (nI z16) z17 z18 z19))] ++ va_pl L M_89) H_88 := by rw [eM_89]; exact hP
        have hD : va_D A ([(za, (b13_0 z0 z1 (nI z2) (nI z3) z4 z5 z6 z7 z8 z9 (nI z10) z11 z12 z13 z14 z15 (nI z16) z17 z18 z19))] ++ va_pl L M_89) := by rw [eM_89]; exact hD
        have hW : WOM cy K L M_89 := by rw [eM_89]; exact hW.up_97 ik2 ⟨_, rfl⟩
        have hF : fr K L [97, 98] M M_89 := by rw [eM_89]; exact hF.up ik2 (by decide)
        have hM_90 : M_89 k2 = .inl (cy 15, 24, .inr (.inl (vp_updL f87 ((nI v8w4) : Int32).toNatClampNeg 0))) := by rw [eM_89]; exact va_up_self _ _ _
        obtain ⟨f_91, ef_91⟩ : ∃ f : Nat → Int64, f = vp_updL f87 ((nI v8w4) : Int32).toNatClampNeg 0 := ⟨_, rfl⟩
        rw [← ef_91] at hM_90
        refine lv_lload hx hb dX13_cut_20 (lv_at hl 1 rfl) ?_
        refine lv_aload_n hx hb dX13_cut_22 rfl (lv_at hl 2 rfl) ?_
        refine lv_iload hx hb dX13_cut_23 (lv_at hl 0 rfl) ?_
        refine lv_iload hx hb dX13_cut_25 (lv_at hl 5 rfl) ?_
        refine lv_aload hx hb dX13_cut_27 (lv_at hl 6 rfl) ?_
        have hPc : va_P D vwCl ([(za, (b13_0 z0 z1 (nI z2) (nI z3) z4 z5 z6 z7 z8 z9 (nI z10) z11 z12 z13 z14 z15 (nI z16) z17 z18 z19))] ++ va_pl L M_89) H_88 := hP
        have hDc : va_D A ([(za, (b13_0 z0 z1 (nI z2) (nI z3) z4 z5 z6 z7 z8 z9 (nI z10) z11 z12 z13 z14 z15 (nI z16) z17 z18 z19))] ++ va_pl L M_89) := hD
        have hFc : ∀ q, va_A ([(za, (b13_0 z0 z1 (nI z2) (nI z3) z4 z5 z6 z7 z8 z9 (nI z10) z11 z12 z13 z14 z15 (nI z16) z17 z18 z19))] ++ va_pl L M_89) H_88.size q → A q := pg_free hDc hS hA
        refine va_calli (va_runV (As := [.int (nI v8w4), .int 0, .ref k4]) (rest := [.long v6w4]) ⟨hx, hb, hml, hown, hg⟩ (z_weighs l D cy K L M_89 H_88.size za z0 z1 z2 z3 z4 z5 z6 z7 z8 z9 z10 z11 z12 z13 z14 z15 z16 z17 z18 z19 v8w4 k4  hW i1 b2 b3 i6 i7 i8 i9 b10 i11 i12 i13 i14 i15 b16 i17 i19 (by omega) ik4) (cwV 3 hg (gV wd_785 wd_786 wd_787 wd_717 wd_788) rfl rfl rfl (by decide +kernel) ⟨(Nat.le_trans (Nat.le_of_ble_eq_true rfl) hRf), (Nat.le_trans (Nat.le_of_ble_eq_true rfl) hRl)⟩) ⟨PG.blind, va_recv hK hP (ci := 13) (q0 := 0) rfl rfl, fun U hU hW => ⟨rfl, PG.at hPc hK hDc hN hU hW⟩⟩ rfl rfl hl.1 rfl (lv_room (Nat.le_of_ble_eq_true rfl)) dX13_cut_29 ⟨(Nat.le_trans (Nat.le_of_ble_eq_true rfl) hRc), (Nat.le_trans (Nat.le_of_ble_eq_true rfl) hRs)⟩) hS (fun q _ h => hFc q h) hFc (fun r_93 M_94 t H_92 locs ht hvm hw hB hz1 hk1 hS => ?_)
        have hp_95 := hw
        obtain ⟨hP1, hD1⟩ := hB
        rw [ht] at hP1
        have hP : va_P D vwCl ([(za, (b13_0 z0 z1 (nI z2) (nI z3) z4 z5 z6 z7 z8 z9 (nI z10) z11 z12 z13 z14 z15 (nI z16) z17 z18 z19))] ++ va_pl L M_89) H_92 := hP1
        have hD : va_D A ([(za, (b13_0 z0 z1 (nI z2) (nI z3) z4 z5 z6 z7 z8 z9 (nI z10) z11 z12 z13 z14 z15 (nI z16) z17 z18 z19))] ++ va_pl L M_89) := hD1.mono hFc
        obtain ⟨vr_96, hr_98, c_97⟩ := hp_95
        have hq := Eq.symm hr_98
        subst hq
        have hwv := c_97
        rw [hF.at i12 (by decide)] at hwv
        refine lv_i2l hx hb dX13_cut_32 rfl ?_
        refine lv_topl (fun f_99 ef_99 => ?_)
        refine lv_ladd hx hb dX13_cut_33 ?_
        refine lv_topl (fun f_100 ef_100 => ?_)
        refine lv_lstore (lv' := [(6, .long f_100), (8, .int (nI v8w4)), (0, .ref za), (1, .long k1), (3, .ref k2), (4, .int 0), (5, .ref k4)]) hx hb dX13_cut_34 hl (by decide) rfl (fun ls hl => ?_)
        refine lv_iinc (v := (nI (v8w4 + 1))) (lv' := [(8, .int (nI (v8w4 + 1))), (6, .long f_100), (0, .ref za), (1, .long k1), (3, .ref k2), (4, .int 0), (5, .ref k4)]) hx hb dX13_cut_36 hl (k := 1) rfl (nI_1 v8w4) (by decide) rfl (fun ls hl => ?_)
        refine lv_goto (tgt := 6) hx hb dX13_cut_39 (by decide) ?_
        exact ih_2 f_100 (v8w4 + 1) M_89 H_92 _ _ (by omega) (by omega) (by omega) (ZWS.nxt hx_7 ef_100 (by rw [ef_99, hwv]) (hWB v8w4 (by omega)) (by omega)) hW hF hP hD hS (lv_sub hl [0, 1, 2, 3, 4, 5, 6] rfl)
  exact key_1 (24 - 0 + 1) 0 0 M s.heap _ _ (by omega) (by omega) (by omega) ZWS.fst hW hF hP hD hS (lv_sub hl [0, 1, 2, 3, 4, 5, 6] rfl)
set_option maxHeartbeats 4000000 in
set_option maxRecDepth 100000 in
theorem z_hidden (l : Launch) (D : va_G) (cy : Nat → ClassId) (K : Kp) (L : List Nat) (M : Hp) (sz : Nat) (za : Nat) (z0 : Int32) (z1 : Nat) (z2 : Nat) (z3 : Nat) (z4 : Int32) (z5 : Int32) (z6 : Nat) (z7 : Nat) (z8 : Nat) (z9 : Nat) (z10 : Nat) (z11 : Nat) (z12 : Nat) (z13 : Nat) (z14 : Nat) (z15 : Nat) (z16 : Nat) (z17 : Nat) (z18 : Int32) (z19 : Nat) (k1 : Int32) (k2 : Int32) (k3 : Int32) (SX : Nat → Nat → Int) (SY : Nat → Nat → Nat → Int32) (hW : WOM cy K L M) (i1 : isk K L z1 23 8) (b2 : z2 ≤ 8) (b3 : z3 ≤ 40) (i6 : isk K L z6 47 40) (i7 : isk K L z7 48 40) (i8 : isk K L z8 49 8) (i9 : isk K L z9 50 8) (b10 : z10 ≤ 8) (i11 : isk K L z11 32 24) (i12 : isk K L z12 14 24) (i13 : isk K L z13 97 24) (i14 : isk K L z14 98 24) (i15 : isk K L z15 99 24) (b16 : z16 ≤ 24) (i17 : isk K L z17 14 24) (i19 : isk K L z19 15 25) (hGI : GI K L z1 z2 M) (hZS : ZSx z1 z2 SX SY M) (hTN : TNN z2 SX SY) : Met l yX13_hidden (wsM yX13_hidden cX13_hidden 6 (some .int)) ({ frames := 2, cells := 0, slots := 0, locals := 55 }) (va_Pc [.ref za, .int k1, .int k2, .int k3] (PG D cy [(za, (b13_0 z0 z1 (nI z2) (nI z3) z4 z5 z6 z7 z8 z9 (nI z10) z11 z12 z13 z14 z15 (nI z16) z17 z18 z19))] L M sz)) (va_Qi (fun (r : Int32) (M9 : Hp) => WOM cy K L M9 ∧ fr K L [14, 32, 88, 97, 98] M M9 ∧ fG K L [] M M9 ∧ (GI K L z1 z2 M9) ∧ ((r = anHi z2 SX SY k1 k2 k3))) (fun M9 t => ∃ (w4 : Int32) (w16 : Nat), w16 ≤ 24 ∧ PQ D [(za, (b13_0 0 z1 (nI z2) (nI z3) w4 (-1) z6 z7 z8 z9 (nI z10) z11 z12 z13 z14 z15 (nI w16) z17 z18 z19))] L M9 (va_A ([(za, (b13_0 z0 z1 (nI z2) (nI z3) z4 z5 z6 z7 z8 z9 (nI z10) z11 z12 z13 z14 z15 (nI z16) z17 z18 z19))] ++ va_pl L M) sz) t) (va_A ([(za, (b13_0 z0 z1 (nI z2) (nI z3) z4 z5 z6 z7 z8 z9 (nI z10) z11 z12 z13 z14 z15 (nI z16) z17 z18 z19))] ++ va_pl L M) sz)) 0 0 (va_A ([(za, (b13_0 z0 z1 (nI z2) (nI z3) z4 z5 z6 z7 z8 z9 (nI z10) z11 z12 z13 z14 z15 (nI z16) z17 z18 z19))] ++ va_pl L M) sz) := by
  refine Met.ofW (cc := cX13_hidden) (maxL := 6) (ret := (some .int)) (by decide) rfl ?_
  intro p e s m args below meth c s₁ B hml hv
  obtain ⟨rfl, hsz, hP, hK, hD0, hN⟩ := hv
  have hx := B.exec
  have hb := B.bytes
  have hr := B.returns
  have hts := atoms_spec (ws := (wsM yX13_hidden cX13_hidden 6 (some .int))) B.pre
  have hg : ∀ w ∈ lw_good, w.before _ s = true := fun w h => hts w (List.mem_cons_of_mem _ h)
  have hown : s.vm.findClass RX13 = some m.cls := findClass_of_methodNamed B.named
  have hlocks := B.notSynchronized
  subst hsz
  have hD := hD0.self (sz := s.heap.size)
  generalize hAe : va_A ([(za, (b13_0 z0 z1 (nI z2) (nI z3) z4 z5 z6 z7 z8 z9 (nI z10) z11 z12 z13 z14 z15 (nI z16) z17 z18 z19))] ++ va_pl L M) s.heap.size = A at hD ⊢
  have hA : ∀ q : Nat, s.heap.size ≤ q → A q := fun q h => by rw [← hAe]; exact Or.inr h
  have hS : va_S A s.heap s.heap [] := va_S.rf
  have hl := lv_entry ([.ref za, .int k1, .int k2, .int k3]) (n := 6) (Nat.le_of_ble_eq_true rfl)
  rw [lg_entry_eq]
  generalize (lg_sl ([.ref za, .int k1, .int k2, .int k3]) ++ List.replicate (6 - (lg_sl ([.ref za, .int k1, .int k2, .int k3])).length) Slot.unset).toArray = ls at hl ⊢
  refine W.nameQ (fun Q hQ => ?_)
  refine W.nameR (fun R hR => ?_)
  have hRf : 2 ≤ R.frames := by rw [hR]; exact Nat.le_of_ble_eq_true rfl
  have hRl : 55 ≤ R.locals := by rw [hR]; exact Nat.le_of_ble_eq_true rfl
  have hRc : 0 ≤ R.cells := by rw [hR]; exact Nat.le_of_ble_eq_true rfl
  have hRs : 0 ≤ R.slots := by rw [hR]; exact Nat.le_of_ble_eq_true rfl
  have hF : fr K L [14, 32, 88, 97, 98] M M := fr.rf
  have hG : fG K L [] M M := fG.rf
  have hl : lv_has ls 6 [(0, .ref za), (1, .int k1), (2, .int k2), (3, .int k3)] := hl
  have hW0 := hW
  refine lv_aload_n hx hb dX13_hidden_0 rfl (lv_at hl 0 rfl) ?_
  refine lv_iconst (v := 0) hx hb dX13_hidden_1 (by decide) ?_
  refine va_put (D := D) (ci := 13) (v := .int 0) (ty := .int) (C := RX13) (T := TX13) (N := 20) hx hb hg inG13 tyX13 tyX13_ok nmX13 hown hK hP hD hS 0 rfl rfl 0 (by decide) (hg _ wd_720) (fun _ h9 => h9) rfl (by decide +kernel) rfl rfl (Nat.le_of_ble_eq_true rfl) dX13_hidden_2 (fun H_1 locs hP hD hS => ?_)
  have hP : va_P D vwCl ([(za, (b13_0 0 z1 (nI z2) (nI z3) z4 z5 z6 z7 z8 z9 (nI z10) z11 z12 z13 z14 z15 (nI z16) z17 z18 z19))] ++ va_pl L M) H_1 := hP
  have hD : va_D A ([(za, (b13_0 0 z1 (nI z2) (nI z3) z4 z5 z6 z7 z8 z9 (nI z10) z11 z12 z13 z14 z15 (nI z16) z17 z18 z19))] ++ va_pl L M) := hD
  refine lv_aload_n hx hb dX13_hidden_5 rfl (lv_at hl 0 rfl) ?_
  refine lv_iload_n hx hb dX13_hidden_6 rfl (lv_at hl 1 rfl) ?_
  have hPc : va_P D vwCl ([(za, (b13_0 0 z1 (nI z2) (nI z3) z4 z5 z6 z7 z8 z9 (nI z10) z11 z12 z13 z14 z15 (nI z16) z17 z18 z19))] ++ va_pl L M) H_1 := hP
  have hDc : va_D A ([(za, (b13_0 0 z1 (nI z2) (nI z3) z4 z5 z6 z7 z8 z9 (nI z10) z11 z12 z13 z14 z15 (nI z16) z17 z18 z19))] ++ va_pl L M) := hD
  have hFc : ∀ q, va_A ([(za, (b13_0 0 z1 (nI z2) (nI z3) z4 z5 z6 z7 z8 z9 (nI z10) z11 z12 z13 z14 z15 (nI z16) z17 z18 z19))] ++ va_pl L M) H_1.size q → A q := pg_free hDc hS hA
  refine va_calli (va_runV (As := [.int k1]) (rest := []) ⟨hx, hb, hml, hown, hg⟩ (f_isHouse l D cy K L M H_1.size za 0 z1 z2 z3 z4 z5 z6 z7 z8 z9 z10 z11 z12 z13 z14 z15 z16 z17 z18 z19 k1  hW i1 b2 b3 i6 i7 i8 i9 b10 i11 i12 i13 i14 i15 b16 i17 i19) (cwV 1 hg (gV wd_714 wd_715 wd_716 wd_717 wd_718) rfl rfl rfl (by decide +kernel) ⟨(Nat.le_trans (Nat.le_of_ble_eq_true rfl) hRf), (Nat.le_trans (Nat.le_of_ble_eq_true rfl) hRl)⟩) ⟨PG.blind, va_recv hK hP (ci := 13) (q0 := 0) rfl rfl, fun U hU hW => ⟨rfl, PG.at hPc hK hDc hN hU hW⟩⟩ rfl rfl hl.1 rfl (lv_room (Nat.le_of_ble_eq_true rfl)) dX13_hidden_7 ⟨(Nat.le_trans (Nat.le_of_ble_eq_true rfl) hRc), (Nat.le_trans (Nat.le_of_ble_eq_true rfl) hRs)⟩) hS (fun q _ h => hFc q h) hFc (fun r_3 M_4 t H_2 locs ht hvm hw hB hz1 hk1 hS => ?_)
  have hp_5 := hw
  obtain ⟨hP1, hD1⟩ := hB
  rw [ht] at hP1
  have hP : va_P D vwCl ([(za, (b13_0 0 z1 (nI z2) (nI z3) z4 z5 z6 z7 z8 z9 (nI z10) z11 z12 z13 z14 z15 (nI z16) z17 z18 z19))] ++ va_pl L M) H_2 := hP1
  have hD : va_D A ([(za, (b13_0 0 z1 (nI z2) (nI z3) z4 z5 z6 z7 z8 z9 (nI z10) z11 z12 z13 z14 z15 (nI z16) z17 z18 z19))] ++ va_pl L M) := hD1.mono hFc
  rcases hp_5 with ⟨rfl, c_6, c_7, c_8⟩ | ⟨rfl, c_9⟩
  · have hz := rfl (a := 0)
    refine lv_if_eq (tgt := 25) hx hb dX13_hidden_10 (by decide) (fun c_10 => absurd c_10 (by decide)) (fun _ => ?_)
    refine lv_aload_n hx hb dX13_hidden_13 rfl (lv_at hl 0 rfl) ?_
    refine va_get (D := D) (ci := 13) (v := .ref z1) (C := RX13) (T := TX13) (N := 20) hx hb hg inG13 hown hK hP 0 rfl rfl 1 (by decide) (hg _ wd_739) (fun _ h9 => h9) rfl dX13_hidden_14 ?_
    refine lv_iload_n hx hb dX13_hidden_17 rfl (lv_at hl 1 rfl) ?_
    obtain ⟨f11, hM11, hf11⟩ := hW.open_23 i1
    have hi_12 : vp_in k1 8 := (inbW (a := z2) (by omega) (inb k1 z2 (by omega) c_7 c_8))
    refine pg_aldq hx hb hK hP i1.1 9 hM11 rfl hi_12 dX13_hidden_18 ?_
    obtain ⟨b13, eb_14, hb_15⟩ := hf11 _ (vp_lt hi_12)
    rw [eb_14]
    have hact : ACT z1 z2 b13 M := ⟨(k1 : Int32).toNatClampNeg, vp_lt (inb k1 z2 (by omega) c_7 c_8), by rw [show RFc (M z1) = f11 from by rw [hM11]; rfl]; exact eb_14⟩
    have hAT := GI.at hGI hact
    have hV : VW K L M M b13 (fx M b13) (ax M b13) := VW.rf b13 hGI.2.2.2
    have hb9 : RFc (M z1) (k1 : Int32).toNatClampNeg = some b13 := by rw [show RFc (M z1) = f11 from by rw [hM11]; rfl]; exact eb_14
    have hkn : (k1 : Int32).toNatClampNeg < z2 := vp_lt (inb k1 z2 (by omega) c_7 c_8)
    have hZk := hZS _ b13 hkn hb9
    have hz0 : fx M b13 0 = SX (k1 : Int32).toNatClampNeg 0 := congrFun hZk.1 0
    have hz1 : fx M b13 1 = SX (k1 : Int32).toNatClampNeg 1 := congrFun hZk.1 1
    have hz10 : fx M b13 10 = SX (k1 : Int32).toNatClampNeg 10 := congrFun hZk.1 10
    have hz11 : fx M b13 11 = SX (k1 : Int32).toNatClampNeg 11 := congrFun hZk.1 11
    have hz12 : fx M b13 12 = SX (k1 : Int32).toNatClampNeg 12 := congrFun hZk.1 12
    have hz13 : fx M b13 13 = SX (k1 : Int32).toNatClampNeg 13 := congrFun hZk.1 13
    have hz14 : fx M b13 14 = SX (k1 : Int32).toNatClampNeg 14 := congrFun hZk.1 14
    have hz15 : fx M b13 15 = SX (k1 : Int32).toNatClampNeg 15 := congrFun hZk.1 15
    have hz16 : fx M b13 16 = SX (k1 : Int32).toNatClampNeg 16 := congrFun hZk.1 16
    obtain ⟨fs16, hM16, hn16, hl16⟩ := hW.open_12 hb_15
    obtain ⟨v17, hv17, hc17⟩ : ∃ v : Nat, fs16[0]? = some (.int (nI v) : Value) ∧ v ≤ 999 := hl16 0 (by decide)
    have hx0 : (fx M b13 0) = ((v17 : Nat) : Int) := (congrFun hV.2.1 0).symm.trans ((fx_of hM16 rfl hv17).trans (nI_toInt (by omega)))
    obtain ⟨v18, hv18, hc18⟩ : ∃ v : Nat, fs16[10]? = some (.int (nI v) : Value) ∧ v ≤ 24 := hl16 10 (by decide)
    have hx10 : (fx M b13 10) = ((v18 : Nat) : Int) := (congrFun hV.2.1 10).symm.trans ((fx_of hM16 rfl hv18).trans (nI_toInt (by omega)))
    obtain ⟨v19, hv19, hc19⟩ : ∃ v : Nat, fs16[11]? = some (.int (nI v) : Value) ∧ v ≤ 16 := hl16 11 (by decide)
    have hx11 : (fx M b13 11) = ((v19 : Nat) : Int) := (congrFun hV.2.1 11).symm.trans ((fx_of hM16 rfl hv19).trans (nI_toInt (by omega)))
    refine pg_getN (D := D) (ci := 12) (v := .int (nI v19)) (C := RX12) (T := TX12) (N := 51) hx hb hg inG12 hown hK hP hb_15.1 hM16 rfl 11 (by decide) (hN.use (Cond.fieldLinkNest RX13 142 RX12 "rules" "I" RX13) 20 rfl rfl) (fun _ h9 => h9) hv19 dX13_hidden_19 ?_
    refine lv_if_ne (tgt := 31) hx hb dX13_hidden_22 (by decide) (fun c_20 => ?_) (fun c_20 => ?_)
    · have hz := rfl (a := 0)
      have n_21 : ¬ (v19 = 0) := fun q => c_20 ((iEQ (a := v19) (b := 0) (by omega) (by omega)).mpr q)
      refine lv_iload_n hx hb dX13_hidden_31 rfl (lv_at hl 3 rfl) ?_
      have hPc : va_P D vwCl ([] ++ va_pl L M) H_2 := hP.part (cx := []) [] rfl
      have hDc : va_D A ([] ++ va_pl L M) := hD.part (cx := []) [] (by decide) rfl
      have hFc : ∀ q, va_A ([] ++ va_pl L M) H_2.size q → A q := pg_free hDc hS hA
      refine va_calli (va_runS (As := [.int k3]) (rest := []) ⟨hx, hb, hml, hown, hg⟩ (f_isSum l D cy K L M H_2.size k3  hW ) (va_cwS 1 hg (gS wd_774 wd_775 wd_717 wd_776) rfl rfl rfl (by decide +kernel) ⟨(Nat.le_trans (Nat.le_of_ble_eq_true rfl) hRf), (Nat.le_trans (Nat.le_of_ble_eq_true rfl) hRl)⟩) ⟨PG.blind, fun U hU hW => ⟨rfl, PG.at hPc hK hDc hN hU hW⟩⟩ rfl rfl hl.1 rfl (lv_room (Nat.le_of_ble_eq_true rfl)) dX13_hidden_32 ⟨(Nat.le_trans (Nat.le_of_ble_eq_true rfl) hRc), (Nat.le_trans (Nat.le_of_ble_eq_true rfl) hRs)⟩) hS (fun q _ h => hFc q h) hFc (fun r_23 M_24 t H_22 locs ht hvm hw hB hz1 hk1 hS => ?_)
      have hp_25 := hw
      obtain ⟨hP1, hD1⟩ := hB
      rw [ht] at hP1
      obtain ⟨hP, hD⟩ := va_joinP (X := [(za, (b13_0 0 z1 (nI z2) (nI z3) z4 z5 z6 z7 z8 z9 (nI z10) z11 z12 z13 z14 z15 (nI z16) z17 z18 z19))]) (cx := []) (wr := [(za, (b13_0 0 z1 (nI z2) (nI z3) z4 z5 z6 z7 z8 z9 (nI z10) z11 z12 z13 z14 z15 (nI z16) z17 z18 z19))]) (rx := []) (pl := va_pl L M) (pl1 := va_pl L M) hP hD [] [0] rfl rfl (by decide) (by decide) hk1 hFc hP1 hD1
      have hP : va_P D vwCl ([(za, (b13_0 0 z1 (nI z2) (nI z3) z4 z5 z6 z7 z8 z9 (nI z10) z11 z12 z13 z14 z15 (nI z16) z17 z18 z19))] ++ va_pl L M) H_22 := hP
      have hD : va_D A ([(za, (b13_0 0 z1 (nI z2) (nI z3) z4 z5 z6 z7 z8 z9 (nI z10) z11 z12 z13 z14 z15 (nI z16) z17 z18 z19))] ++ va_pl L M) := hD
      rcases hp_25 with ⟨rfl, c_26⟩ | ⟨rfl, c_27⟩
      · have hz := rfl (a := 0)
        refine lv_if_ne (tgt := 44) hx hb dX13_hidden_35 (by decide) (fun _ => ?_) (fun c_28 => absurd c_28 (by decide))
        refine lv_aload_n hx hb dX13_hidden_44 rfl (lv_at hl 0 rfl) ?_
        refine va_get (D := D) (ci := 13) (v := .ref z1) (C := RX13) (T := TX13) (N := 20) hx hb hg inG13 hown hK hP 0 rfl rfl 1 (by decide) (hg _ wd_739) (fun _ h9 => h9) rfl dX13_hidden_45 ?_
        refine lv_iload_n hx hb dX13_hidden_48 rfl (lv_at hl 1 rfl) ?_
        have hi_29 : vp_in k1 8 := (inbW (a := z2) (by omega) (inb k1 z2 (by omega) c_7 c_8))
        refine pg_aldq hx hb hK hP i1.1 9 hM11 rfl hi_29 dX13_hidden_49 ?_
        rw [show f11 (k1 : Int32).toNatClampNeg = some b13 from eb_14]
        refine lv_astore (lv' := [(4, .ref b13), (0, .ref za), (1, .int k1), (2, .int k2), (3, .int k3)]) hx hb dX13_hidden_50 hl (by decide) rfl (fun ls hl => ?_)
        refine lv_iload_n hx hb dX13_hidden_52 rfl (lv_at hl 3 rfl) ?_
        refine lv_aload hx hb dX13_hidden_53 (lv_at hl 0 rfl) ?_
        refine pg_getN (D := D) (ci := 12) (v := .int (nI v17)) (C := RX12) (T := TX12) (N := 51) hx hb hg inG12 hown hK hP hb_15.1 hM16 rfl 0 (by decide) (hN.use (Cond.fieldLinkNest RX13 77 RX12 "first" "I" RX13) 9 rfl rfl) (fun _ h9 => h9) hv17 dX13_hidden_55 ?_
        refine lv_icmp_lt (tgt := 68) hx hb dX13_hidden_58 (by decide) (fun c_30 => ?_) (fun c_30 => ?_)
        · have hz := rfl (a := 0)
          have n_31 : ¬ 999 ≤ k2 := ltB (b := 999) (by decide) hc17 c_30
          refine lv_aload_n hx hb dX13_hidden_68 rfl (lv_at hl 1 rfl) ?_
          refine lv_iconst (v := 3) hx hb dX13_hidden_69 (by decide) ?_
          have hPc := hP.sub (ws' := [(za, (b13_0 0 z1 (nI z2) (nI z3) z4 z5 z6 z7 z8 z9 (nI z10) z11 z12 z13 z14 z15 (nI z16) z17 z18 z19))]) [0] rfl
          have hDc := hD.sub (ws' := [(za, (b13_0 0 z1 (nI z2) (nI z3) z4 z5 z6 z7 z8 z9 (nI z10) z11 z12 z13 z14 z15 (nI z16) z17 z18 z19))]) [0] (by decide) rfl
          have hKc := hK.sub (tys' := []) [] rfl
          have hFc := va_free (wc := [(za, (b13_0 0 z1 (nI z2) (nI z3) z4 z5 z6 z7 z8 z9 (nI z10) z11 z12 z13 z14 z15 (nI z16) z17 z18 z19))]) hD hS hA [0] rfl
          refine va_calli (va_runV (As := [.int 3]) (rest := []) ⟨hx, hb, hml, hown, hg⟩ (m_refused l D H_22.size za 0 z1 (nI z2) (nI z3) z4 z5 z6 z7 z8 z9 (nI z10) z11 z12 z13 z14 z15 (nI z16) z17 z18 z19 3) (cwV 1 hg (gV wd_725 wd_726 wd_727 wd_717 wd_728) rfl rfl rfl (by decide +kernel) ⟨(Nat.le_trans (Nat.le_of_ble_eq_true rfl) hRf), (Nat.le_trans (Nat.le_of_ble_eq_true rfl) hRl)⟩) ⟨Pr.blind, va_recv hK hP (ci := 13) (q0 := 0) rfl rfl, fun U hU hW => ⟨rfl, Pr.at hPc hKc hDc hN hU hW⟩⟩ rfl rfl hl.1 rfl (lv_room (Nat.le_of_ble_eq_true rfl)) dX13_hidden_70 ⟨(Nat.le_trans (Nat.le_of_ble_eq_true rfl) hRc), (Nat.le_trans (Nat.le_of_ble_eq_true rfl) hRs)⟩) hS (fun q _ h => hFc q h) hFc (fun r_33 M_34 t H_32 locs ht hvm hw hB hz1 hk1 hS => ?_)
          have hp_35 := hw
          obtain ⟨hP1, hK1, hD1⟩ := hB
          rw [ht] at hP1
          obtain ⟨hP, hD⟩ := va_joinQ (X := [(za, (b13_0 0 z1 (nI z2) (nI z3) z4 z5 z6 z7 z8 z9 (nI z10) z11 z12 z13 z14 z15 (nI z16) z17 z18 z19))]) (cx := [(za, (b13_0 0 z1 (nI z2) (nI z3) z4 z5 z6 z7 z8 z9 (nI z10) z11 z12 z13 z14 z15 (nI z16) z17 z18 z19))]) (wr := []) (w1 := [(za, (b13_0 0 z1 (nI z2) (nI z3) 3 (-1) z6 z7 z8 z9 (nI z10) z11 z12 z13 z14 z15 (nI z16) z17 z18 z19))]) (pl := va_pl L M) hP hD [0] [] rfl rfl (by decide) (by decide) hk1 hFc hP1 hD1
          have hP : va_P D vwCl ([(za, (b13_0 0 z1 (nI z2) (nI z3) 3 (-1) z6 z7 z8 z9 (nI z10) z11 z12 z13 z14 z15 (nI z16) z17 z18 z19))] ++ va_pl L M) H_32 := hP
          have hD : va_D A ([(za, (b13_0 0 z1 (nI z2) (nI z3) 3 (-1) z6 z7 z8 z9 (nI z10) z11 z12 z13 z14 z15 (nI z16) z17 z18 z19))] ++ va_pl L M) := hD
          have hq := Eq.symm hp_35
          subst hq
          have hI_36 : (0 : Int) ≤ (k1 : Int32).toInt := inltI rfl rfl c_7
          have hI_37 : (k1 : Int32).toInt < ((z2 : Nat) : Int) := inleI (nI_toInt (by omega)) rfl c_8
          have hI_38 : ((v19 : Nat) : Int) ≠ (0 : Int) := ineI (nI_toInt (by omega)) rfl c_20
          have hI_39 : (k2 : Int32).toInt < ((v17 : Nat) : Int) := iltI rfl (nI_toInt (by omega)) c_30
          have hI_40 : (k2 : Int32).toInt < (999 : Int) := inleI rfl rfl n_31
          have hno : ¬ okHi z2 SX k1 k2 k3 := fun q9 => by unfold okHi okH at q9; first | omega | (obtain ⟨⟨_, _⟩, _, _, _, _, _⟩ := q9; first | omega | contradiction)
          rw [hQ]
          exact W.iret (v := (-1)) hx hb hr (fun t ht hW9 => ⟨⟨(-1), M, rfl, ⟨hW, hF, hG, hGI, (by unfold anHi; rw [if_neg hno])⟩, ⟨3, z16, (by omega), by rw [ht]; exact hP, hD⟩⟩, hS.F ht⟩) hS.2.2 dX13_hidden_73
        · have hz := rfl (a := 0)
          refine lv_iload_n hx hb dX13_hidden_61 rfl (lv_at hl 3 rfl) ?_
          refine lv_sipush (v := 1000) hx hb dX13_hidden_62 (by decide) ?_
          refine lv_icmp_lt (tgt := 74) hx hb dX13_hidden_65 (by decide) (fun c_41 => ?_) (fun c_41 => ?_)
          · have hz := rfl (a := 0)
            refine lv_aload_n hx hb dX13_hidden_74 rfl (lv_at hl 1 rfl) ?_
            refine lv_aload hx hb dX13_hidden_75 (lv_at hl 0 rfl) ?_
            refine lv_iload_n hx hb dX13_hidden_77 rfl (lv_at hl 3 rfl) ?_
            have hPc : va_P D vwCl ([(za, (b13_0 0 z1 (nI z2) (nI z3) z4 z5 z6 z7 z8 z9 (nI z10) z11 z12 z13 z14 z15 (nI z16) z17 z18 z19))] ++ va_pl L M) H_22 := hP
            have hDc : va_D A ([(za, (b13_0 0 z1 (nI z2) (nI z3) z4 z5 z6 z7 z8 z9 (nI z10) z11 z12 z13 z14 z15 (nI z16) z17 z18 z19))] ++ va_pl L M) := hD
            have hFc : ∀ q, va_A ([(za, (b13_0 0 z1 (nI z2) (nI z3) z4 z5 z6 z7 z8 z9 (nI z10) z11 z12 z13 z14 z15 (nI z16) z17 z18 z19))] ++ va_pl L M) H_22.size q → A q := pg_free hDc hS hA
            refine va_callv (va_runV (As := [.ref b13, .int k2]) (rest := []) ⟨hx, hb, hml, hown, hg⟩ (z_present l D cy K L M H_22.size za 0 z1 z2 z3 z4 z5 z6 z7 z8 z9 z10 z11 z12 z13 z14 z15 z16 z17 z18 z19 b13 k2  hW i1 b2 b3 i6 i7 i8 i9 b10 i11 i12 i13 i14 i15 b16 i17 i19 hb_15) (cwV 2 hg (gV wd_811 wd_812 wd_813 wd_717 wd_814) rfl rfl rfl (by decide +kernel) ⟨(Nat.le_trans (Nat.le_of_ble_eq_true rfl) hRf), (Nat.le_trans (Nat.le_of_ble_eq_true rfl) hRl)⟩) ⟨PG.blind, va_recv hK hP (ci := 13) (q0 := 0) rfl rfl, fun U hU hW => ⟨rfl, PG.at hPc hK hDc hN hU hW⟩⟩ rfl rfl hl.1 rfl (lv_room (Nat.le_of_ble_eq_true rfl)) dX13_hidden_78 ⟨(Nat.le_trans (Nat.le_of_ble_eq_true rfl) hRc), (Nat.le_trans (Nat.le_of_ble_eq_true rfl) hRs)⟩) hS (fun q _ h => hFc q h) hFc (fun M_44 t H_42 locs ht hvm hw hB hz1 hk1 hS => ?_)
            have hWb := hW
            obtain ⟨hW, hF2, hp_45⟩ := hw
            obtain ⟨w16_46, hg_47, hg_48, hP1, hD1⟩ := hB
            rw [ht] at hP1
            have hP : va_P D vwCl ([(za, (b13_0 0 z1 (nI z2) (nI z3) z4 z5 z6 z7 z8 z9 (nI z10) z11 z12 z13 z14 z15 (nI w16_46) z17 z18 z19))] ++ va_pl L M_44) H_42 := hP1
            have hD : va_D A ([(za, (b13_0 0 z1 (nI z2) (nI z3) z4 z5 z6 z7 z8 z9 (nI z10) z11 z12 z13 z14 z15 (nI w16_46) z17 z18 z19))] ++ va_pl L M_44) := hD1.mono hFc
            have hM_49 : M_44 z1 = .inl (cy 23, 8, .inr (.inr (.inr (.inr (f11))))) := (hF2.at i1 (by decide)).trans hM11
            have hM_50 : M_44 b13 = .inr (12, fs16) := (hF2.at hb_15 (by decide)).trans hM16
            have hF : fr K L [14, 32, 88, 97, 98] M M_44 := hF.tr hF2 (by decide)
            have hG : fG K L [] M M_44 := hG.frR hF2 (by decide)
            have hV : VW K L M M_44 b13 (fx M b13) (ax M b13) := hV.cal hWb hW hF2 ((fG.rf (js := [])).frR hF2 (by decide)) (by decide) (by decide) hb_15
            have hPR := hg_48
            rw [hZk.1, hZk.2] at hPR
            refine lv_aload_n hx hb dX13_hidden_81 rfl (lv_at hl 1 rfl) ?_
            refine lv_aload hx hb dX13_hidden_82 (lv_at hl 0 rfl) ?_
            refine lv_aload hx hb dX13_hidden_84 (lv_at hl 0 rfl) ?_
            refine lv_iload_n hx hb dX13_hidden_86 rfl (lv_at hl 3 rfl) ?_
            have hPc : va_P D vwCl ([] ++ va_pl L M_44) H_42 := hP.part (cx := []) [] rfl
            have hDc : va_D A ([] ++ va_pl L M_44) := hD.part (cx := []) [] (by decide) rfl
            have hFc : ∀ q, va_A ([] ++ va_pl L M_44) H_42.size q → A q := pg_free hDc hS hA
            have hx0 : (fx M b13 0) = ((v17 : Nat) : Int) := (congrFun hV.2.1 0).symm.trans ((fx_of hM_50 rfl hv17).trans (nI_toInt (by omega)))
            have hx11 : (fx M b13 11) = ((v19 : Nat) : Int) := (congrFun hV.2.1 11).symm.trans ((fx_of hM_50 rfl hv19).trans (nI_toInt (by omega)))
            obtain ⟨v51, hv51, hc51⟩ : ∃ v : Nat, fs16[34]? = some (.ref v : Value) ∧ isk K L v 43 16 := hl16 34 (by decide)
            obtain ⟨f52, hM52⟩ := hW.open_43 hc51
            have hy34 : (ax M b13 34) = f52 := (congrFun hV.2.2.1 34).symm.trans (ax_of hM_50 (by decide) hv51 hM52)
            refine va_calli (va_runV (As := [.int k2]) (rest := [.ref b13, .ref za]) ⟨hx, hb, hml, hown, hg⟩ (z_ruleOn l D cy K L M_44 H_42.size b13 k2  hW hb_15 ⟨_, _, _, _, hM_50, hv19, by omega, by omega, hv51, hc51, hM52, rldp hy34 (hAT.2.2.2.1.1 (by omega)) (by rw [hx0]; exact geI c_30 (by omega))⟩) (cwV 1 hg (gV wd_815 wd_816 wd_817 wd_737 wd_818) rfl rfl rfl (by decide +kernel) ⟨(Nat.le_trans (Nat.le_of_ble_eq_true rfl) hRf), (Nat.le_trans (Nat.le_of_ble_eq_true rfl) hRl)⟩) ⟨PG.blind, pg_recv hK hP hb_15.1 hM_50 rfl, fun U hU hW => ⟨rfl, PG.at hPc hK hDc hN hU hW⟩⟩ rfl rfl hl.1 rfl (lv_room (Nat.le_of_ble_eq_true rfl)) dX13_hidden_87 ⟨(Nat.le_trans (Nat.le_of_ble_eq_true rfl) hRc), (Nat.le_trans (Nat.le_of_ble_eq_true rfl) hRs)⟩) hS (fun q _ h => hFc q h) hFc (fun r_54 M_55 t H_53 locs ht hvm hw hB hz1 hk1 hS => ?_)
            have hp_56 := hw
            obtain ⟨hP1, hD1⟩ := hB
            rw [ht] at hP1
            obtain ⟨hP, hD⟩ := va_joinP (X := [(za, (b13_0 0 z1 (nI z2) (nI z3) z4 z5 z6 z7 z8 z9 (nI z10) z11 z12 z13 z14 z15 (nI w16_46) z17 z18 z19))]) (cx := []) (wr := [(za, (b13_0 0 z1 (nI z2) (nI z3) z4 z5 z6 z7 z8 z9 (nI z10) z11 z12 z13 z14 z15 (nI w16_46) z17 z18 z19))]) (rx := []) (pl := va_pl L M_44) (pl1 := va_pl L M_44) hP hD [] [0] rfl rfl (by decide) (by decide) hk1 hFc hP1 hD1
            have hP : va_P D vwCl ([(za, (b13_0 0 z1 (nI z2) (nI z3) z4 z5 z6 z7 z8 z9 (nI z10) z11 z12 z13 z14 z15 (nI w16_46) z17 z18 z19))] ++ va_pl L M_44) H_53 := hP
            have hD : va_D A ([(za, (b13_0 0 z1 (nI z2) (nI z3) z4 z5 z6 z7 z8 z9 (nI z10) z11 z12 z13 z14 z15 (nI w16_46) z17 z18 z19))] ++ va_pl L M_44) := hD
            obtain ⟨j_57, rfl, c_58, c_59⟩ := hp_56
            have hvA := hV.2.1
            have hvB := hV.2.2.1
            have hkr := c_59
            rw [hvA, hvB, hZk.1, hZk.2] at hkr
            have hkr1 := hkr.1
            have htn9 := hTN (k1 : Int32).toNatClampNeg hkn j_57 (by omega)
            refine lv_iconst (v := 2) hx hb dX13_hidden_90 (by decide) ?_
            have hPc : va_P D vwCl ([(za, (b13_0 0 z1 (nI z2) (nI z3) z4 z5 z6 z7 z8 z9 (nI z10) z11 z12 z13 z14 z15 (nI w16_46) z17 z18 z19))] ++ va_pl L M_44) H_53 := hP
            have hDc : va_D A ([(za, (b13_0 0 z1 (nI z2) (nI z3) z4 z5 z6 z7 z8 z9 (nI z10) z11 z12 z13 z14 z15 (nI w16_46) z17 z18 z19))] ++ va_pl L M_44) := hD
            have hFc : ∀ q, va_A ([(za, (b13_0 0 z1 (nI z2) (nI z3) z4 z5 z6 z7 z8 z9 (nI z10) z11 z12 z13 z14 z15 (nI w16_46) z17 z18 z19))] ++ va_pl L M_44) H_53.size q → A q := pg_free hDc hS hA
            refine va_callv (va_runV (As := [.ref b13, .int (nI j_57), .int 2]) (rest := []) ⟨hx, hb, hml, hown, hg⟩ (z_weights l D cy K L M_44 H_53.size za 0 z1 z2 z3 z4 z5 z6 z7 z8 z9 z10 z11 z12 z13 z14 z15 w16_46 z17 z18 z19 b13 j_57 2  hW i1 b2 b3 i6 i7 i8 i9 b10 i11 i12 i13 i14 i15 (by omega) i17 i19 hb_15 c_58 (by omega)) (cwV 3 hg (gV wd_795 wd_796 wd_797 wd_717 wd_798) rfl rfl rfl (by decide +kernel) ⟨(Nat.le_trans (Nat.le_of_ble_eq_true rfl) hRf), (Nat.le_trans (Nat.le_of_ble_eq_true rfl) hRl)⟩) ⟨PG.blind, va_recv hK hP (ci := 13) (q0 := 0) rfl rfl, fun U hU hW => ⟨rfl, PG.at hPc hK hDc hN hU hW⟩⟩ rfl rfl hl.1 rfl (lv_room (Nat.le_of_ble_eq_true rfl)) dX13_hidden_91 ⟨(Nat.le_trans (Nat.le_of_ble_eq_true rfl) hRc), (Nat.le_trans (Nat.le_of_ble_eq_true rfl) hRs)⟩) hS (fun q _ h => hFc q h) hFc (fun M_62 t H_60 locs ht hvm hw hB hz1 hk1 hS => ?_)
            have hWb := hW
            obtain ⟨hW, hF2, hVP, hp_63⟩ := hw
            obtain ⟨hP1, hD1⟩ := hB
            rw [ht] at hP1
            have hP : va_P D vwCl ([(za, (b13_0 0 z1 (nI z2) (nI z3) z4 z5 z6 z7 z8 z9 (nI z10) z11 z12 z13 z14 z15 (nI w16_46) z17 z18 z19))] ++ va_pl L M_62) H_60 := hP1
            have hD : va_D A ([(za, (b13_0 0 z1 (nI z2) (nI z3) z4 z5 z6 z7 z8 z9 (nI z10) z11 z12 z13 z14 z15 (nI w16_46) z17 z18 z19))] ++ va_pl L M_62) := hD1.mono hFc
            have hM_64 : M_62 z1 = .inl (cy 23, 8, .inr (.inr (.inr (.inr (f11))))) := (hF2.at i1 (by decide)).trans hM_49
            have hM_65 : M_62 b13 = .inr (12, fs16) := (hF2.at hb_15 (by decide)).trans hM_50
            have hM_66 : M_62 v51 = .inl (cy 14, 16, .inl (f52)) := (hF2.at hc51 (by decide)).trans hM52
            have hF : fr K L [14, 32, 88, 97, 98] M M_62 := hF.tr hF2 (by decide)
            have hG : fG K L [] M M_62 := hG.frR hF2 (by decide)
            have hV : VW K L M M_62 b13 (fx M b13) (ax M b13) := hV.cal hWb hW hF2 ((fG.rf (js := [])).frR hF2 (by decide)) (by decide) (by decide) hb_15
            have hWG := hVP
            rw [hvB, hZk.2] at hWG
            have hwb9 : ∀ j : Nat, j < w16_46 → 0 ≤ (IFc (M_62 z12) j).toInt ∧ (IFc (M_62 z12) j).toInt ≤ 1000000000 := fun j hj => by obtain ⟨i9, q9, g1, g2, g3, g4⟩ := hPR.at hWG (by omega) hj; rw [g4]; exact ⟨(htn9 _ (by omega)).1, (htn9 _ (by omega)).2.1⟩
            have hany := hPR.any hWG (by omega)
            refine lv_aload_n hx hb dX13_hidden_94 rfl (lv_at hl 1 rfl) ?_
            refine lv_iload_n hx hb dX13_hidden_95 rfl (lv_at hl 4 rfl) ?_
            refine lv_i2l hx hb dX13_hidden_96 rfl ?_
            refine lv_topl (fun f_67 ef_67 => ?_)
            refine lv_aload_n hx hb dX13_hidden_97 rfl (lv_at hl 1 rfl) ?_
            refine va_get (D := D) (ci := 13) (v := .ref z13) (C := RX13) (T := TX13) (N := 20) hx hb hg inG13 hown hK hP 0 rfl rfl 13 (by decide) (hg _ wd_789) (fun _ h9 => h9) rfl dX13_hidden_98 ?_
            refine lv_iconst (v := 0) hx hb dX13_hidden_101 (by decide) ?_
            refine lv_aload hx hb dX13_hidden_102 (lv_at hl 0 rfl) ?_
            have hPc : va_P D vwCl ([(za, (b13_0 0 z1 (nI z2) (nI z3) z4 z5 z6 z7 z8 z9 (nI z10) z11 z12 z13 z14 z15 (nI w16_46) z17 z18 z19))] ++ va_pl L M_62) H_60 := hP
            have hDc : va_D A ([(za, (b13_0 0 z1 (nI z2) (nI z3) z4 z5 z6 z7 z8 z9 (nI z10) z11 z12 z13 z14 z15 (nI w16_46) z17 z18 z19))] ++ va_pl L M_62) := hD
            have hFc : ∀ q, va_A ([(za, (b13_0 0 z1 (nI z2) (nI z3) z4 z5 z6 z7 z8 z9 (nI z10) z11 z12 z13 z14 z15 (nI w16_46) z17 z18 z19))] ++ va_pl L M_62) H_60.size q → A q := pg_free hDc hS hA
            refine va_calli (va_runV (As := [.long f_67, .ref z13, .int 0, .ref b13]) (rest := []) ⟨hx, hb, hml, hown, hg⟩ (z_cut l D cy K L M_62 H_60.size za 0 z1 z2 z3 z4 z5 z6 z7 z8 z9 z10 z11 z12 z13 z14 z15 w16_46 z17 z18 z19 f_67 z13 b13  hW i1 b2 b3 i6 i7 i8 i9 b10 i11 i12 i13 i14 i15 (by omega) i17 i19 i13 hb_15 hwb9) (cwV 4 hg (gV wd_790 wd_791 wd_792 wd_717 wd_793) rfl rfl rfl (by decide +kernel) ⟨(Nat.le_trans (Nat.le_of_ble_eq_true rfl) hRf), (Nat.le_trans (Nat.le_of_ble_eq_true rfl) hRl)⟩) ⟨PG.blind, va_recv hK hP (ci := 13) (q0 := 0) rfl rfl, fun U hU hW => ⟨rfl, PG.at hPc hK hDc hN hU hW⟩⟩ rfl rfl hl.1 rfl (lv_room (Nat.le_of_ble_eq_true rfl)) dX13_hidden_104 ⟨(Nat.le_trans (Nat.le_of_ble_eq_true rfl) hRc), (Nat.le_trans (Nat.le_of_ble_eq_true rfl) hRs)⟩) hS (fun q _ h => hFc q h) hFc (fun r_69 M_70 t H_68 locs ht hvm hw hB hz1 hk1 hS => ?_)
            have hWb := hW
            obtain ⟨hW, hF2, hp_71⟩ := hw
            obtain ⟨hP1, hD1⟩ := hB
            rw [ht] at hP1
            have hP : va_P D vwCl ([(za, (b13_0 0 z1 (nI z2) (nI z3) z4 z5 z6 z7 z8 z9 (nI z10) z11 z12 z13 z14 z15 (nI w16_46) z17 z18 z19))] ++ va_pl L M_70) H_68 := hP1
            have hD : va_D A ([(za, (b13_0 0 z1 (nI z2) (nI z3) z4 z5 z6 z7 z8 z9 (nI z10) z11 z12 z13 z14 z15 (nI w16_46) z17 z18 z19))] ++ va_pl L M_70) := hD1.mono hFc
            have hM_72 : M_70 z1 = .inl (cy 23, 8, .inr (.inr (.inr (.inr (f11))))) := (hF2.at i1 (by decide)).trans hM_64
            have hM_73 : M_70 b13 = .inr (12, fs16) := (hF2.at hb_15 (by decide)).trans hM_65
            have hM_74 : M_70 v51 = .inl (cy 14, 16, .inl (f52)) := (hF2.at hc51 (by decide)).trans hM_66
            have hF : fr K L [14, 32, 88, 97, 98] M M_70 := hF.tr hF2 (by decide)
            have hG : fG K L [] M M_70 := hG.frR hF2 (by decide)
            have hV : VW K L M M_70 b13 (fx M b13) (ax M b13) := hV.cal hWb hW hF2 ((fG.rf (js := [])).frR hF2 (by decide)) (by decide) (by decide) hb_15
            rcases hp_71 with ⟨rfl, c_75⟩ | ⟨rfl, c_76⟩
            · have hz := rfl (a := 0)
              refine lv_if_ne (tgt := 116) hx hb dX13_hidden_107 (by decide) (fun _ => ?_) (fun c_77 => absurd c_77 (by decide))
              refine lv_iconst (v := 0) hx hb dX13_hidden_116 (by decide) ?_
              refine lv_istore (lv' := [(5, .int 0), (4, .ref b13), (0, .ref za), (1, .int k1), (2, .int k2), (3, .int k3)]) hx hb dX13_hidden_117 hl (by decide) rfl (fun ls hl => ?_)
              have key_78 : ∀ (fu_80 : Nat) (v5w81 : Nat) (M_83 : Hp) (H_84 : Heap) (locs : List Loc) (ls : Array Slot), 24 - v5w81 < fu_80 → v5w81 ≤ 24 → WOM cy K L M_83 → fr K L [14, 32, 88, 97, 98] M M_83 → fG K L [] M M_83 → VW K L M M_83 b13 (fx M b13) (ax M b13) → va_P D vwCl ([(za, (b13_0 0 z1 (nI z2) (nI z3) z4 z5 z6 z7 z8 z9 (nI z10) z11 z12 z13 z14 z15 (nI w16_46) z17 z18 z19))] ++ va_pl L M_83) H_84 → va_D A ([(za, (b13_0 0 z1 (nI z2) (nI z3) z4 z5 z6 z7 z8 z9 (nI z10) z11 z12 z13 z14 z15 (nI w16_46) z17 z18 z19))] ++ va_pl L M_83) → va_S A s.heap H_84 locs → lv_has ls 6 [(5, .int (nI v5w81)), (4, .ref b13), (0, .ref za), (1, .int k1), (2, .int k2), (3, .int k3)] → W p l e R s m ([.ref za, .int k1, .int k2, .int k3] : List Value).toArray below meth c H_84 locs 0 0 Q (F0 m 119 ls []) := by
                intro fu_80
                induction fu_80 with
                | zero => intro v5w81 M_83 H_84 locs ls h; exact absurd h (Nat.not_lt_zero _)
                | succ fu_80 ih_79 =>
                  intro v5w81 M_83 H_84 locs ls hfu hx_82 hW hF hG hV hP hD hS hl
                  refine lv_iload hx hb dX13_hidden_119 (lv_at hl 0 rfl) ?_
                  refine lv_aload_n hx hb dX13_hidden_121 rfl (lv_at hl 2 rfl) ?_
                  refine va_get (D := D) (ci := 13) (v := .int (nI w16_46)) (C := RX13) (T := TX13) (N := 20) hx hb hg inG13 hown hK hP 0 rfl rfl 16 (by decide) (hg _ wd_769) (fun _ h9 => h9) rfl dX13_hidden_122 ?_
                  refine lv_icmp_ge (tgt := 157) hx hb dX13_hidden_125 (by decide) (fun c_85 => ?_) (fun c_85 => ?_)
                  · have hz := rfl (a := 0)
                    have n_86 : w16_46 ≤ v5w81 := (iLE (a := w16_46) (b := v5w81) (by omega) (by omega)).mp c_85
                    refine lv_aload_n hx hb dX13_hidden_157 rfl (lv_at hl 2 rfl) ?_
                    refine lv_iload_n hx hb dX13_hidden_158 rfl (lv_at hl 5 rfl) ?_
                    have hPc := hP.sub (ws' := [(za, (b13_0 0 z1 (nI z2) (nI z3) z4 z5 z6 z7 z8 z9 (nI z10) z11 z12 z13 z14 z15 (nI w16_46) z17 z18 z19))]) [0] rfl
                    have hDc := hD.sub (ws' := [(za, (b13_0 0 z1 (nI z2) (nI z3) z4 z5 z6 z7 z8 z9 (nI z10) z11 z12 z13 z14 z15 (nI w16_46) z17 z18 z19))]) [0] (by decide) rfl
                    have hKc := hK.sub (tys' := []) [] rfl
                    have hFc := va_free (wc := [(za, (b13_0 0 z1 (nI z2) (nI z3) z4 z5 z6 z7 z8 z9 (nI z10) z11 z12 z13 z14 z15 (nI w16_46) z17 z18 z19))]) hD hS hA [0] rfl
                    refine va_calli (va_runV (As := [.int k3]) (rest := []) ⟨hx, hb, hml, hown, hg⟩ (m_done l D H_84.size za 0 z1 (nI z2) (nI z3) z4 z5 z6 z7 z8 z9 (nI z10) z11 z12 z13 z14 z15 (nI w16_46) z17 z18 z19 k3) (cwV 1 hg (gV wd_730 wd_731 wd_732 wd_717 wd_733) rfl rfl rfl (by decide +kernel) ⟨(Nat.le_trans (Nat.le_of_ble_eq_true rfl) hRf), (Nat.le_trans (Nat.le_of_ble_eq_true rfl) hRl)⟩) ⟨Pr.blind, va_recv hK hP (ci := 13) (q0 := 0) rfl rfl, fun U hU hW => ⟨rfl, Pr.at hPc hKc hDc hN hU hW⟩⟩ rfl rfl hl.1 rfl (lv_room (Nat.le_of_ble_eq_true rfl)) dX13_hidden_159 ⟨(Nat.le_trans (Nat.le_of_ble_eq_true rfl) hRc), (Nat.le_trans (Nat.le_of_ble_eq_true rfl) hRs)⟩) hS (fun q _ h => hFc q h) hFc (fun r_88 M_89 t H_87 locs ht hvm hw hB hz1 hk1 hS => ?_)
                    have hp_90 := hw
                    obtain ⟨hP1, hK1, hD1⟩ := hB
                    rw [ht] at hP1
                    obtain ⟨hP, hD⟩ := va_joinQ (X := [(za, (b13_0 0 z1 (nI z2) (nI z3) z4 z5 z6 z7 z8 z9 (nI z10) z11 z12 z13 z14 z15 (nI w16_46) z17 z18 z19))]) (cx := [(za, (b13_0 0 z1 (nI z2) (nI z3) z4 z5 z6 z7 z8 z9 (nI z10) z11 z12 z13 z14 z15 (nI w16_46) z17 z18 z19))]) (wr := []) (w1 := [(za, (b13_0 0 z1 (nI z2) (nI z3) 0 (-1) z6 z7 z8 z9 (nI z10) z11 z12 z13 z14 z15 (nI w16_46) z17 z18 z19))]) (pl := va_pl L M_83) hP hD [0] [] rfl rfl (by decide) (by decide) hk1 hFc hP1 hD1
                    have hP : va_P D vwCl ([(za, (b13_0 0 z1 (nI z2) (nI z3) 0 (-1) z6 z7 z8 z9 (nI z10) z11 z12 z13 z14 z15 (nI w16_46) z17 z18 z19))] ++ va_pl L M_83) H_87 := hP
                    have hD : va_D A ([(za, (b13_0 0 z1 (nI z2) (nI z3) 0 (-1) z6 z7 z8 z9 (nI z10) z11 z12 z13 z14 z15 (nI w16_46) z17 z18 z19))] ++ va_pl L M_83) := hD
                    have hq := Eq.symm hp_90
                    subst hq
                    have hI_91 : (0 : Int) ≤ (k1 : Int32).toInt := inltI rfl rfl c_7
                    have hI_92 : (k1 : Int32).toInt < ((z2 : Nat) : Int) := inleI (nI_toInt (by omega)) rfl c_8
                    have hI_93 : ((v19 : Nat) : Int) ≠ (0 : Int) := ineI (nI_toInt (by omega)) rfl c_20
                    have hI_94 : ((v17 : Nat) : Int) ≤ (k2 : Int32).toInt := inltI rfl (nI_toInt (by omega)) c_30
                    have hI_95 : (k2 : Int32).toInt < (1000 : Int) := iltI rfl rfl c_41
                    have hI_96 : ((w16_46 : Nat) : Int) ≤ ((v5w81 : Nat) : Int) := ileI (nI_toInt (by omega)) (nI_toInt (by omega)) c_85
                    have hyes : okHi z2 SX k1 k2 k3 := by unfold okHi okH; refine ⟨⟨?_, ?_⟩, ?_, ?_, ?_, ?_, ?_⟩ <;> first | omega | assumption
                    have hA9 : HA (ax M b13 2) (ax M b13 3) := hAT.1
                    have hB9 : HB (fx M b13 16) (fx M b13 14) (ax M b13 3) (ax M b13 43) := hAT.2.1
                    have hC9 : HC (fx M b13 10) (ax M b13 22) (ax M b13 23) := hAT.2.2.1
                    have hD9 : HD (fx M b13 0) (fx M b13 11) (fx M b13 15) (ax M b13 34) (ax M b13 41) := hAT.2.2.2.1
                    have hE9 : HE (fx M b13 0) (fx M b13 1) (fx M b13 12) (fx M b13 13) (ax M b13 37) := hAT.2.2.2.2
                    have hH9 : HI (fx M b13) (ax M b13) := ⟨hA9, hB9, hC9, hD9, hE9⟩
                    have hGI9 : GI K L z1 z2 M_83 := GI.fin hW0 i1 b2 hGI hact hV (hF.at i1 (by decide)) hH9
                    rw [hQ]
                    exact W.iret (v := k3) hx hb hr (fun t ht hW9 => ⟨⟨k3, M_83, rfl, ⟨hW, hF, hG, hGI9, (by unfold anHi; rw [if_pos hyes]; exact hid_y hkr (hany.mp c_75))⟩, ⟨0, w16_46, (by omega), by rw [ht]; exact hP, hD⟩⟩, hS.F ht⟩) hS.2.2 dX13_hidden_162
                  · have hz := rfl (a := 0)
                    have n_97 : ¬ (w16_46 ≤ v5w81) := fun q => c_85 ((iLE (a := w16_46) (b := v5w81) (by omega) (by omega)).mpr q)
                    refine lv_aload hx hb dX13_hidden_128 (lv_at hl 1 rfl) ?_
                    obtain ⟨fs98, hM98, hn98, hl98⟩ := hW.open_12 hb_15
                    obtain ⟨v99, hv99, hc99⟩ : ∃ v : Nat, fs98[28]? = some (.ref v : Value) ∧ isk K L v 88 24 := hl98 28 (by decide)
                    refine pg_getN (D := D) (ci := 12) (v := .ref v99) (C := RX12) (T := TX12) (N := 51) hx hb hg inG12 hown hK hP hb_15.1 hM98 rfl 28 (by decide) (hN.use (Cond.fieldLinkNest RX13 370 RX12 "hidden" "[J" RX13) 37 rfl rfl) (fun _ h9 => h9) hv99 dX13_hidden_130 ?_
                    refine lv_aload_n hx hb dX13_hidden_133 rfl (lv_at hl 2 rfl) ?_
                    refine va_get (D := D) (ci := 13) (v := .ref z11) (C := RX13) (T := TX13) (N := 20) hx hb hg inG13 hown hK hP 0 rfl rfl 11 (by decide) (hg _ wd_764) (fun _ h9 => h9) rfl dX13_hidden_134 ?_
                    refine lv_iload hx hb dX13_hidden_137 (lv_at hl 0 rfl) ?_
                    obtain ⟨f100, hM100, hf100⟩ := hW.open_32 i11
                    have hi_101 : vp_in (nI v5w81) 24 := (inbN v5w81 24 (by omega) (by omega))
                    refine pg_iald hx hb hK hP i11.1 0 hM100 rfl hi_101 dX13_hidden_139 ?_
                    have hp_102 := hf100 _ (vp_lt hi_101)
                    obtain ⟨c_103, hc_104, ec_105⟩ := hp_102
                    rw [ec_105]
                    refine lv_dup2_11 hx hb dX13_hidden_140 rfl rfl ?_
                    obtain ⟨f106, hM106⟩ := hW.open_88 hc99
                    refine pg_lald hx hb hK hP hc99.1 1 hM106 rfl (inbN c_103 24 (by omega) (by omega)) dX13_hidden_141 ?_
                    refine lv_topl (fun f_107 ef_107 => ?_)
                    refine lv_aload_n hx hb dX13_hidden_142 rfl (lv_at hl 2 rfl) ?_
                    refine va_get (D := D) (ci := 13) (v := .ref z13) (C := RX13) (T := TX13) (N := 20) hx hb hg inG13 hown hK hP 0 rfl rfl 13 (by decide) (hg _ wd_789) (fun _ h9 => h9) rfl dX13_hidden_143 ?_
                    refine lv_iload hx hb dX13_hidden_146 (lv_at hl 0 rfl) ?_
                    obtain ⟨f108, hM108⟩ := hW.open_97 i13
                    refine pg_lald hx hb hK hP i13.1 1 hM108 rfl (inbN v5w81 24 (by omega) (by omega)) dX13_hidden_148 ?_
                    refine lv_topl (fun f_109 ef_109 => ?_)
                    refine lv_ladd hx hb dX13_hidden_149 ?_
                    refine lv_topl (fun f_110 ef_110 => ?_)
                    refine pg_last hx hb hK hP hD hS hc99.1 1 hM106 rfl (inbN c_103 24 (by omega) (by omega)) dX13_hidden_150 (fun H_111 locs hP hD hS => ?_)
                    obtain ⟨M_112, eM_112⟩ : ∃ M1 : Hp, M1 = va_up M_83 v99 (.inl (cy 15, 24, .inr (.inl (vp_updL f106 ((nI c_103) : Int32).toNatClampNeg f_110)))) := ⟨_, rfl⟩
                    have hV : VW K L M M_112 b13 (fx M b13) (ax M b13) := by rw [eM_112]; exact hV.oth hW hb_15 hc99 (by decide)
                    have hP : va_P D vwCl ([(za, (b13_0 0 z1 (nI z2) (nI z3) z4 z5 z6 z7 z8 z9 (nI z10) z11 z12 z13 z14 z15 (nI w16_46) z17 z18 z19))] ++ va_pl L M_112) H_111 := by rw [eM_112]; exact hP
                    have hD : va_D A ([(za, (b13_0 0 z1 (nI z2) (nI z3) z4 z5 z6 z7 z8 z9 (nI z10) z11 z12 z13 z14 z15 (nI w16_46) z17 z18 z19))] ++ va_pl L M_112) := by rw [eM_112]; exact hD
                    have hW : WOM cy K L M_112 := by rw [eM_112]; exact hW.up_88 hc99 ⟨_, rfl⟩
                    have hF : fr K L [14, 32, 88, 97, 98] M M_112 := by rw [eM_112]; exact hF.up hc99 (by decide)
                    have hG : fG K L [] M M_112 := by rw [eM_112]; exact hG.arr hc99 (by decide)
                    have hM_113 : M_112 v99 = .inl (cy 15, 24, .inr (.inl (vp_updL f106 ((nI c_103) : Int32).toNatClampNeg f_110))) := by rw [eM_112]; exact va_up_self _ _ _
                    have hM_114 : M_112 b13 = .inr (12, fs98) := by rw [eM_112, va_up_ne _ _ (hb_15.neT hc99 (by decide))]; exact hM98
                    have hM_115 : M_112 z11 = .inl (cy 14, 24, .inl (f100)) := by rw [eM_112, va_up_ne _ _ (i11.neT hc99 (by decide))]; exact hM100
                    have hM_116 : M_112 z13 = .inl (cy 15, 24, .inr (.inl (f108))) := by rw [eM_112, va_up_ne _ _ (i13.neT hc99 (by decide))]; exact hM108
                    obtain ⟨f_117, ef_117⟩ : ∃ f : Nat → Int64, f = vp_updL f106 ((nI c_103) : Int32).toNatClampNeg f_110 := ⟨_, rfl⟩
                    rw [← ef_117] at hM_113
                    refine lv_iinc (v := (nI (v5w81 + 1))) (lv' := [(5, .int (nI (v5w81 + 1))), (4, .ref b13), (0, .ref za), (1, .int k1), (2, .int k2), (3, .int k3)]) hx hb dX13_hidden_151 hl (k := 0) rfl (nI_1 v5w81) (by decide) rfl (fun ls hl => ?_)
                    refine lv_goto (tgt := 119) hx hb dX13_hidden_154 (by decide) ?_
                    exact ih_79 (v5w81 + 1) M_112 H_111 _ _ (by omega) (by omega) hW hF hG hV hP hD hS (lv_sub hl [0, 1, 2, 3, 4, 5] rfl)
              exact key_78 (24 - 0 + 1) 0 M_70 H_68 _ _ (by omega) (by omega) hW hF hG hV hP hD hS (lv_sub hl [0, 1, 2, 3, 4, 5] rfl)
            · have hz := rfl (a := 0)
              refine lv_if_ne (tgt := 116) hx hb dX13_hidden_107 (by decide) (fun c_118 => absurd c_118 (by decide)) (fun _ => ?_)
              refine lv_aload_n hx hb dX13_hidden_110 rfl (lv_at hl 1 rfl) ?_
              refine lv_iconst (v := 0) hx hb dX13_hidden_111 (by decide) ?_
              have hPc := hP.sub (ws' := [(za, (b13_0 0 z1 (nI z2) (nI z3) z4 z5 z6 z7 z8 z9 (nI z10) z11 z12 z13 z14 z15 (nI w16_46) z17 z18 z19))]) [0] rfl
              have hDc := hD.sub (ws' := [(za, (b13_0 0 z1 (nI z2) (nI z3) z4 z5 z6 z7 z8 z9 (nI z10) z11 z12 z13 z14 z15 (nI w16_46) z17 z18 z19))]) [0] (by decide) rfl
              have hKc := hK.sub (tys' := []) [] rfl
              have hFc := va_free (wc := [(za, (b13_0 0 z1 (nI z2) (nI z3) z4 z5 z6 z7 z8 z9 (nI z10) z11 z12 z13 z14 z15 (nI w16_46) z17 z18 z19))]) hD hS hA [0] rfl
              refine va_calli (va_runV (As := [.int 0]) (rest := []) ⟨hx, hb, hml, hown, hg⟩ (m_done l D H_68.size za 0 z1 (nI z2) (nI z3) z4 z5 z6 z7 z8 z9 (nI z10) z11 z12 z13 z14 z15 (nI w16_46) z17 z18 z19 0) (cwV 1 hg (gV wd_730 wd_731 wd_732 wd_717 wd_733) rfl rfl rfl (by decide +kernel) ⟨(Nat.le_trans (Nat.le_of_ble_eq_true rfl) hRf), (Nat.le_trans (Nat.le_of_ble_eq_true rfl) hRl)⟩) ⟨Pr.blind, va_recv hK hP (ci := 13) (q0 := 0) rfl rfl, fun U hU hW => ⟨rfl, Pr.at hPc hKc hDc hN hU hW⟩⟩ rfl rfl hl.1 rfl (lv_room (Nat.le_of_ble_eq_true rfl)) dX13_hidden_112 ⟨(Nat.le_trans (Nat.le_of_ble_eq_true rfl) hRc), (Nat.le_trans (Nat.le_of_ble_eq_true rfl) hRs)⟩) hS (fun q _ h => hFc q h) hFc (fun r_120 M_121 t H_119 locs ht hvm hw hB hz1 hk1 hS => ?_)
              have hp_122 := hw
              obtain ⟨hP1, hK1, hD1⟩ := hB
              rw [ht] at hP1
              obtain ⟨hP, hD⟩ := va_joinQ (X := [(za, (b13_0 0 z1 (nI z2) (nI z3) z4 z5 z6 z7 z8 z9 (nI z10) z11 z12 z13 z14 z15 (nI w16_46) z17 z18 z19))]) (cx := [(za, (b13_0 0 z1 (nI z2) (nI z3) z4 z5 z6 z7 z8 z9 (nI z10) z11 z12 z13 z14 z15 (nI w16_46) z17 z18 z19))]) (wr := []) (w1 := [(za, (b13_0 0 z1 (nI z2) (nI z3) 0 (-1) z6 z7 z8 z9 (nI z10) z11 z12 z13 z14 z15 (nI w16_46) z17 z18 z19))]) (pl := va_pl L M_70) hP hD [0] [] rfl rfl (by decide) (by decide) hk1 hFc hP1 hD1
              have hP : va_P D vwCl ([(za, (b13_0 0 z1 (nI z2) (nI z3) 0 (-1) z6 z7 z8 z9 (nI z10) z11 z12 z13 z14 z15 (nI w16_46) z17 z18 z19))] ++ va_pl L M_70) H_119 := hP
              have hD : va_D A ([(za, (b13_0 0 z1 (nI z2) (nI z3) 0 (-1) z6 z7 z8 z9 (nI z10) z11 z12 z13 z14 z15 (nI w16_46) z17 z18 z19))] ++ va_pl L M_70) := hD
              have hq := Eq.symm hp_122
              subst hq
              have hI_123 : (0 : Int) ≤ (k1 : Int32).toInt := inltI rfl rfl c_7
              have hI_124 : (k1 : Int32).toInt < ((z2 : Nat) : Int) := inleI (nI_toInt (by omega)) rfl c_8
              have hI_125 : ((v19 : Nat) : Int) ≠ (0 : Int) := ineI (nI_toInt (by omega)) rfl c_20
              have hI_126 : ((v17 : Nat) : Int) ≤ (k2 : Int32).toInt := inltI rfl (nI_toInt (by omega)) c_30
              have hI_127 : (k2 : Int32).toInt < (1000 : Int) := iltI rfl rfl c_41
              have hyes : okHi z2 SX k1 k2 k3 := by unfold okHi okH; refine ⟨⟨?_, ?_⟩, ?_, ?_, ?_, ?_, ?_⟩ <;> first | omega | assumption
              have hA9 : HA (ax M b13 2) (ax M b13 3) := hAT.1
              have hB9 : HB (fx M b13 16) (fx M b13 14) (ax M b13 3) (ax M b13 43) := hAT.2.1
              have hC9 : HC (fx M b13 10) (ax M b13 22) (ax M b13 23) := hAT.2.2.1
              have hD9 : HD (fx M b13 0) (fx M b13 11) (fx M b13 15) (ax M b13 34) (ax M b13 41) := hAT.2.2.2.1
              have hE9 : HE (fx M b13 0) (fx M b13 1) (fx M b13 12) (fx M b13 13) (ax M b13 37) := hAT.2.2.2.2
              have hH9 : HI (fx M b13) (ax M b13) := ⟨hA9, hB9, hC9, hD9, hE9⟩
              have hGI9 : GI K L z1 z2 M_70 := GI.fin hW0 i1 b2 hGI hact hV (hF.at i1 (by decide)) hH9
              rw [hQ]
              exact W.iret (v := 0) hx hb hr (fun t ht hW9 => ⟨⟨0, M_70, rfl, ⟨hW, hF, hG, hGI9, (by unfold anHi; rw [if_pos hyes]; exact hid_n hkr (fun q9 => c_76 (hany.mpr q9)))⟩, ⟨0, w16_46, (by omega), by rw [ht]; exact hP, hD⟩⟩, hS.F ht⟩) hS.2.2 dX13_hidden_115
          · have hz := rfl (a := 0)
            refine lv_aload_n hx hb dX13_hidden_68 rfl (lv_at hl 1 rfl) ?_
            refine lv_iconst (v := 3) hx hb dX13_hidden_69 (by decide) ?_
            have hPc := hP.sub (ws' := [(za, (b13_0 0 z1 (nI z2) (nI z3) z4 z5 z6 z7 z8 z9 (nI z10) z11 z12 z13 z14 z15 (nI z16) z17 z18 z19))]) [0] rfl
            have hDc := hD.sub (ws' := [(za, (b13_0 0 z1 (nI z2) (nI z3) z4 z5 z6 z7 z8 z9 (nI z10) z11 z12 z13 z14 z15 (nI z16) z17 z18 z19))]) [0] (by decide) rfl
            have hKc := hK.sub (tys' := []) [] rfl
            have hFc := va_free (wc := [(za, (b13_0 0 z1 (nI z2) (nI z3) z4 z5 z6 z7 z8 z9 (nI z10) z11 z12 z13 z14 z15 (nI z16) z17 z18 z19))]) hD hS hA [0] rfl
            refine va_calli (va_runV (As := [.int 3]) (rest := []) ⟨hx, hb, hml, hown, hg⟩ (m_refused l D H_22.size za 0 z1 (nI z2) (nI z3) z4 z5 z6 z7 z8 z9 (nI z10) z11 z12 z13 z14 z15 (nI z16) z17 z18 z19 3) (cwV 1 hg (gV wd_725 wd_726 wd_727 wd_717 wd_728) rfl rfl rfl (by decide +kernel) ⟨(Nat.le_trans (Nat.le_of_ble_eq_true rfl) hRf), (Nat.le_trans (Nat.le_of_ble_eq_true rfl) hRl)⟩) ⟨Pr.blind, va_recv hK hP (ci := 13) (q0 := 0) rfl rfl, fun U hU hW => ⟨rfl, Pr.at hPc hKc hDc hN hU hW⟩⟩ rfl rfl hl.1 rfl (lv_room (Nat.le_of_ble_eq_true rfl)) dX13_hidden_70 ⟨(Nat.le_trans (Nat.le_of_ble_eq_true rfl) hRc), (Nat.le_trans (Nat.le_of_ble_eq_true rfl) hRs)⟩) hS (fun q _ h => hFc q h) hFc (fun r_129 M_130 t H_128 locs ht hvm hw hB hz1 hk1 hS => ?_)
            have hp_131 := hw
            obtain ⟨hP1, hK1, hD1⟩ := hB
            rw [ht] at hP1
            obtain ⟨hP, hD⟩ := va_joinQ (X := [(za, (b13_0 0 z1 (nI z2) (nI z3) z4 z5 z6 z7 z8 z9 (nI z10) z11 z12 z13 z14 z15 (nI z16) z17 z18 z19))]) (cx := [(za, (b13_0 0 z1 (nI z2) (nI z3) z4 z5 z6 z7 z8 z9 (nI z10) z11 z12 z13 z14 z15 (nI z16) z17 z18 z19))]) (wr := []) (w1 := [(za, (b13_0 0 z1 (nI z2) (nI z3) 3 (-1) z6 z7 z8 z9 (nI z10) z11 z12 z13 z14 z15 (nI z16) z17 z18 z19))]) (pl := va_pl L M) hP hD [0] [] rfl rfl (by decide) (by decide) hk1 hFc hP1 hD1
            have hP : va_P D vwCl ([(za, (b13_0 0 z1 (nI z2) (nI z3) 3 (-1) z6 z7 z8 z9 (nI z10) z11 z12 z13 z14 z15 (nI z16) z17 z18 z19))] ++ va_pl L M) H_128 := hP
            have hD : va_D A ([(za, (b13_0 0 z1 (nI z2) (nI z3) 3 (-1) z6 z7 z8 z9 (nI z10) z11 z12 z13 z14 z15 (nI z16) z17 z18 z19))] ++ va_pl L M) := hD
            have hq := Eq.symm hp_131
            subst hq
            have hI_132 : (0 : Int) ≤ (k1 : Int32).toInt := inltI rfl rfl c_7
            have hI_133 : (k1 : Int32).toInt < ((z2 : Nat) : Int) := inleI (nI_toInt (by omega)) rfl c_8
            have hI_134 : ((v19 : Nat) : Int) ≠ (0 : Int) := ineI (nI_toInt (by omega)) rfl c_20
            have hI_135 : ((v17 : Nat) : Int) ≤ (k2 : Int32).toInt := inltI rfl (nI_toInt (by omega)) c_30
            have hI_136 : (1000 : Int) ≤ (k2 : Int32).toInt := inltI rfl rfl c_41
            have hno : ¬ okHi z2 SX k1 k2 k3 := fun q9 => by unfold okHi okH at q9; first | omega | (obtain ⟨⟨_, _⟩, _, _, _, _, _⟩ := q9; first | omega | contradiction)
            rw [hQ]
            exact W.iret (v := (-1)) hx hb hr (fun t ht hW9 => ⟨⟨(-1), M, rfl, ⟨hW, hF, hG, hGI, (by unfold anHi; rw [if_neg hno])⟩, ⟨3, z16, (by omega), by rw [ht]; exact hP, hD⟩⟩, hS.F ht⟩) hS.2.2 dX13_hidden_73
      · have hz := rfl (a := 0)
        refine lv_if_ne (tgt := 44) hx hb dX13_hidden_35 (by decide) (fun c_137 => absurd c_137 (by decide)) (fun _ => ?_)
        refine lv_aload_n hx hb dX13_hidden_38 rfl (lv_at hl 0 rfl) ?_
        refine lv_iconst (v := 2) hx hb dX13_hidden_39 (by decide) ?_
        have hPc := hP.sub (ws' := [(za, (b13_0 0 z1 (nI z2) (nI z3) z4 z5 z6 z7 z8 z9 (nI z10) z11 z12 z13 z14 z15 (nI z16) z17 z18 z19))]) [0] rfl
        have hDc := hD.sub (ws' := [(za, (b13_0 0 z1 (nI z2) (nI z3) z4 z5 z6 z7 z8 z9 (nI z10) z11 z12 z13 z14 z15 (nI z16) z17 z18 z19))]) [0] (by decide) rfl
        have hKc := hK.sub (tys' := []) [] rfl
        have hFc := va_free (wc := [(za, (b13_0 0 z1 (nI z2) (nI z3) z4 z5 z6 z7 z8 z9 (nI z10) z11 z12 z13 z14 z15 (nI z16) z17 z18 z19))]) hD hS hA [0] rfl
        refine va_calli (va_runV (As := [.int 2]) (rest := []) ⟨hx, hb, hml, hown, hg⟩ (m_refused l D H_22.size za 0 z1 (nI z2) (nI z3) z4 z5 z6 z7 z8 z9 (nI z10) z11 z12 z13 z14 z15 (nI z16) z17 z18 z19 2) (cwV 1 hg (gV wd_725 wd_726 wd_727 wd_717 wd_728) rfl rfl rfl (by decide +kernel) ⟨(Nat.le_trans (Nat.le_of_ble_eq_true rfl) hRf), (Nat.le_trans (Nat.le_of_ble_eq_true rfl) hRl)⟩) ⟨Pr.blind, va_recv hK hP (ci := 13) (q0 := 0) rfl rfl, fun U hU hW => ⟨rfl, Pr.at hPc hKc hDc hN hU hW⟩⟩ rfl rfl hl.1 rfl (lv_room (Nat.le_of_ble_eq_true rfl)) dX13_hidden_40 ⟨(Nat.le_trans (Nat.le_of_ble_eq_true rfl) hRc), (Nat.le_trans (Nat.le_of_ble_eq_true rfl) hRs)⟩) hS (fun q _ h => hFc q h) hFc (fun r_139 M_140 t H_138 locs ht hvm hw hB hz1 hk1 hS => ?_)
        have hp_141 := hw
        obtain ⟨hP1, hK1, hD1⟩ := hB
        rw [ht] at hP1
        obtain ⟨hP, hD⟩ := va_joinQ (X := [(za, (b13_0 0 z1 (nI z2) (nI z3) z4 z5 z6 z7 z8 z9 (nI z10) z11 z12 z13 z14 z15 (nI z16) z17 z18 z19))]) (cx := [(za, (b13_0 0 z1 (nI z2) (nI z3) z4 z5 z6 z7 z8 z9 (nI z10) z11 z12 z13 z14 z15 (nI z16) z17 z18 z19))]) (wr := []) (w1 := [(za, (b13_0 0 z1 (nI z2) (nI z3) 2 (-1) z6 z7 z8 z9 (nI z10) z11 z12 z13 z14 z15 (nI z16) z17 z18 z19))]) (pl := va_pl L M) hP hD [0] [] rfl rfl (by decide) (by decide) hk1 hFc hP1 hD1
        have hP : va_P D vwCl ([(za, (b13_0 0 z1 (nI z2) (nI z3) 2 (-1) z6 z7 z8 z9 (nI z10) z11 z12 z13 z14 z15 (nI z16) z17 z18 z19))] ++ va_pl L M) H_138 := hP
        have hD : va_D A ([(za, (b13_0 0 z1 (nI z2) (nI z3) 2 (-1) z6 z7 z8 z9 (nI z10) z11 z12 z13 z14 z15 (nI z16) z17 z18 z19))] ++ va_pl L M) := hD
        have hq := Eq.symm hp_141
        subst hq
        have hI_142 : (0 : Int) ≤ (k1 : Int32).toInt := inltI rfl rfl c_7
        have hI_143 : (k1 : Int32).toInt < ((z2 : Nat) : Int) := inleI (nI_toInt (by omega)) rfl c_8
        have hI_144 : ((v19 : Nat) : Int) ≠ (0 : Int) := ineI (nI_toInt (by omega)) rfl c_20
        have hno : ¬ okHi z2 SX k1 k2 k3 := fun q9 => by unfold okHi okH at q9; first | omega | (obtain ⟨⟨_, _⟩, _, _, _, _, _⟩ := q9; first | omega | contradiction)
        rw [hQ]
        exact W.iret (v := (-1)) hx hb hr (fun t ht hW9 => ⟨⟨(-1), M, rfl, ⟨hW, hF, hG, hGI, (by unfold anHi; rw [if_neg hno])⟩, ⟨2, z16, (by omega), by rw [ht]; exact hP, hD⟩⟩, hS.F ht⟩) hS.2.2 dX13_hidden_43
    · have hz := rfl (a := 0)
      have n_145 : v19 = 0 := (iEQ (a := v19) (b := 0) (by omega) (by omega)).mp c_20
      refine lv_aload_n hx hb dX13_hidden_25 rfl (lv_at hl 0 rfl) ?_
      refine lv_iconst (v := 1) hx hb dX13_hidden_26 (by decide) ?_
      have hPc := hP.sub (ws' := [(za, (b13_0 0 z1 (nI z2) (nI z3) z4 z5 z6 z7 z8 z9 (nI z10) z11 z12 z13 z14 z15 (nI z16) z17 z18 z19))]) [0] rfl
      have hDc := hD.sub (ws' := [(za, (b13_0 0 z1 (nI z2) (nI z3) z4 z5 z6 z7 z8 z9 (nI z10) z11 z12 z13 z14 z15 (nI z16) z17 z18 z19))]) [0] (by decide) rfl
      have hKc := hK.sub (tys' := []) [] rfl
      have hFc := va_free (wc := [(za, (b13_0 0 z1 (nI z2) (nI z3) z4 z5 z6 z7 z8 z9 (nI z10) z11 z12 z13 z14 z15 (nI z16) z17 z18 z19))]) hD hS hA [0] rfl
      refine va_calli (va_runV (As := [.int 1]) (rest := []) ⟨hx, hb, hml, hown, hg⟩ (m_refused l D H_2.size za 0 z1 (nI z2) (nI z3) z4 z5 z6 z7 z8 z9 (nI z10) z11 z12 z13 z14 z15 (nI z16) z17 z18 z19 1) (cwV 1 hg (gV wd_725 wd_726 wd_727 wd_717 wd_728) rfl rfl rfl (by decide +kernel) ⟨(Nat.le_trans (Nat.le_of_ble_eq_true rfl) hRf), (Nat.le_trans (Nat.le_of_ble_eq_true rfl) hRl)⟩) ⟨Pr.blind, va_recv hK hP (ci := 13) (q0 := 0) rfl rfl, fun U hU hW => ⟨rfl, Pr.at hPc hKc hDc hN hU hW⟩⟩ rfl rfl hl.1 rfl (lv_room (Nat.le_of_ble_eq_true rfl)) dX13_hidden_27 ⟨(Nat.le_trans (Nat.le_of_ble_eq_true rfl) hRc), (Nat.le_trans (Nat.le_of_ble_eq_true rfl) hRs)⟩) hS (fun q _ h => hFc q h) hFc (fun r_147 M_148 t H_146 locs ht hvm hw hB hz1 hk1 hS => ?_)
      have hp_149 := hw
      obtain ⟨hP1, hK1, hD1⟩ := hB
      rw [ht] at hP1
      obtain ⟨hP, hD⟩ := va_joinQ (X := [(za, (b13_0 0 z1 (nI z2) (nI z3) z4 z5 z6 z7 z8 z9 (nI z10) z11 z12 z13 z14 z15 (nI z16) z17 z18 z19))]) (cx := [(za, (b13_0 0 z1 (nI z2) (nI z3) z4 z5 z6 z7 z8 z9 (nI z10) z11 z12 z13 z14 z15 (nI z16) z17 z18 z19))]) (wr := []) (w1 := [(za, (b13_0 0 z1 (nI z2) (nI z3) 1 (-1) z6 z7 z8 z9 (nI z10) z11 z12 z13 z14 z15 (nI z16) z17 z18 z19))]) (pl := va_pl L M) hP hD [0] [] rfl rfl (by decide) (by decide) hk1 hFc hP1 hD1
      have hP : va_P D vwCl ([(za, (b13_0 0 z1 (nI z2) (nI z3) 1 (-1) z6 z7 z8 z9 (nI z10) z11 z12 z13 z14 z15 (nI z16) z17 z18 z19))] ++ va_pl L M) H_146 := hP
      have hD : va_D A ([(za, (b13_0 0 z1 (nI z2) (nI z3) 1 (-1) z6 z7 z8 z9 (nI z10) z11 z12 z13 z14 z15 (nI z16) z17 z18 z19))] ++ va_pl L M) := hD
      have hq := Eq.symm hp_149
      subst hq
      have hI_150 : (0 : Int) ≤ (k1 : Int32).toInt := inltI rfl rfl c_7
      have hI_151 : (k1 : Int32).toInt < ((z2 : Nat) : Int) := inleI (nI_toInt (by omega)) rfl c_8
      have hI_152 : ((v19 : Nat) : Int) = (0 : Int) := ieqI (nI_toInt (by omega)) rfl c_20
      have hno : ¬ okHi z2 SX k1 k2 k3 := fun q9 => by unfold okHi okH at q9; first | omega | (obtain ⟨⟨_, _⟩, _, _, _, _, _⟩ := q9; first | omega | contradiction)
      rw [hQ]
      exact W.iret (v := (-1)) hx hb hr (fun t ht hW9 => ⟨⟨(-1), M, rfl, ⟨hW, hF, hG, hGI, (by unfold anHi; rw [if_neg hno])⟩, ⟨1, z16, (by omega), by rw [ht]; exact hP, hD⟩⟩, hS.F ht⟩) hS.2.2 dX13_hidden_30
  · have hz := rfl (a := 0)
    refine lv_if_eq (tgt := 25) hx hb dX13_hidden_10 (by decide) (fun _ => ?_) (fun c_153 => absurd c_153 (by decide))
    refine lv_aload_n hx hb dX13_hidden_25 rfl (lv_at hl 0 rfl) ?_
    refine lv_iconst (v := 1) hx hb dX13_hidden_26 (by decide) ?_
    have hPc := hP.sub (ws' := [(za, (b13_0 0 z1 (nI z2) (nI z3) z4 z5 z6 z7 z8 z9 (nI z10) z11 z12 z13 z14 z15 (nI z16) z17 z18 z19))]) [0] rfl
    have hDc := hD.sub (ws' := [(za, (b13_0 0 z1 (nI z2) (nI z3) z4 z5 z6 z7 z8 z9 (nI z10) z11 z12 z13 z14 z15 (nI z16) z17 z18 z19))]) [0] (by decide) rfl
    have hKc := hK.sub (tys' := []) [] rfl
    have hFc := va_free (wc := [(za, (b13_0 0 z1 (nI z2) (nI z3) z4 z5 z6 z7 z8 z9 (nI z10) z11 z12 z13 z14 z15 (nI z16) z17 z18 z19))]) hD hS hA [0] rfl
    refine va_calli (va_runV (As := [.int 1]) (rest := []) ⟨hx, hb, hml, hown, hg⟩ (m_refused l D H_2.size za 0 z1 (nI z2) (nI z3) z4 z5 z6 z7 z8 z9 (nI z10) z11 z12 z13 z14 z15 (nI z16) z17 z18 z19 1) (cwV 1 hg (gV wd_725 wd_726 wd_727 wd_717 wd_728) rfl rfl rfl (by decide +kernel) ⟨(Nat.le_trans (Nat.le_of_ble_eq_true rfl) hRf), (Nat.le_trans (Nat.le_of_ble_eq_true rfl) hRl)⟩) ⟨Pr.blind, va_recv hK hP (ci := 13) (q0 := 0) rfl rfl, fun U hU hW => ⟨rfl, Pr.at hPc hKc hDc hN hU hW⟩⟩ rfl rfl hl.1 rfl (lv_room (Nat.le_of_ble_eq_true rfl)) dX13_hidden_27 ⟨(Nat.le_trans (Nat.le_of_ble_eq_true rfl) hRc), (Nat.le_trans (Nat.le_of_ble_eq_true rfl) hRs)⟩) hS (fun q _ h => hFc q h) hFc (fun r_155 M_156 t H_154 locs ht hvm hw hB hz1 hk1 hS => ?_)
    have hp_157 := hw
    obtain ⟨hP1, hK1, hD1⟩ := hB
    rw [ht] at hP1
    obtain ⟨hP, hD⟩ := va_joinQ (X := [(za, (b13_0 0 z1 (nI z2) (nI z3) z4 z5 z6 z7 z8 z9 (nI z10) z11 z12 z13 z14 z15 (nI z16) z17 z18 z19))]) (cx := [(za, (b13_0 0 z1 (nI z2) (nI z3) z4 z5 z6 z7 z8 z9 (nI z10) z11 z12 z13 z14 z15 (nI z16) z17 z18 z19))]) (wr := []) (w1 := [(za, (b13_0 0 z1 (nI z2) (nI z3) 1 (-1) z6 z7 z8 z9 (nI z10) z11 z12 z13 z14 z15 (nI z16) z17 z18 z19))]) (pl := va_pl L M) hP hD [0] [] rfl rfl (by decide) (by decide) hk1 hFc hP1 hD1
    have hP : va_P D vwCl ([(za, (b13_0 0 z1 (nI z2) (nI z3) 1 (-1) z6 z7 z8 z9 (nI z10) z11 z12 z13 z14 z15 (nI z16) z17 z18 z19))] ++ va_pl L M) H_154 := hP
    have hD : va_D A ([(za, (b13_0 0 z1 (nI z2) (nI z3) 1 (-1) z6 z7 z8 z9 (nI z10) z11 z12 z13 z14 z15 (nI z16) z17 z18 z19))] ++ va_pl L M) := hD
    have hq := Eq.symm hp_157
    subst hq
    have hno : ¬ okHi z2 SX k1 k2 k3 := fun q9 => by unfold okHi okH at q9; first | omega | (obtain ⟨⟨_, _⟩, _, _, _, _, _⟩ := q9; first | omega | contradiction)
    rw [hQ]
    exact W.iret (v := (-1)) hx hb hr (fun t ht hW9 => ⟨⟨(-1), M, rfl, ⟨hW, hF, hG, hGI, (by unfold anHi; rw [if_neg hno])⟩, ⟨1, z16, (by omega), by rw [ht]; exact hP, hD⟩⟩, hS.F ht⟩) hS.2.2 dX13_hidden_30
