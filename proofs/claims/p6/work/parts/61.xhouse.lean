/-- no new Houses, no new partners -/
def NW2 (K : Kp) (L : List Nat) (K' : Kp) (L' : List Nat) : Prop := (∀ b, isk K' L' b 2 0 → isk K L b 2 0) ∧ ∀ b, isk K' L' b 4 0 → isk K L b 4 0
theorem NW2.rf {K : Kp} {L : List Nat} : NW2 K L K L := ⟨fun _ h => h, fun _ h => h⟩
theorem NW2.tr {K K' K'' : Kp} {L L' L'' : List Nat} (h : NW2 K L K' L') (g : NW2 K' L' K'' L'') : NW2 K L K'' L'' := ⟨fun b q => h.1 b (g.1 b q), fun b q => h.2 b (g.2 b q)⟩
theorem OC.ext {B : Nat → Nat × Nat} {K K' : Kp} {L L' : List Nat} {M : Hp} (h : OC B K L M) (hx : ext K L K' L') (hn : ∀ b, isk K' L' b 2 0 → isk K L b 2 0) : OC B K' L' M := ⟨fun a ha => h.e0 a (hn a ha), fun a ha => h.e17 a (hn a ha), fun a ha => h.d16 a (hn a ha), fun a ha => h.d17 a (hn a ha), fun a ha => h.un a (hn a ha), fun a ha => h.lf a (hn a ha), fun a ha => h.te a (hn a ha), fun a ha => h.ru a (hn a ha), fun a ha => h.nm a (hn a ha), fun a ha => h.hd a (hn a ha), fun a ha => (h.n16 a (hn a ha)).ext hx, fun a ha => (h.n17 a (hn a ha)).ext hx⟩
theorem VC.ext {B : Nat → Nat × Nat} {K K' : Kp} {L L' : List Nat} {M0 M : Hp} {a : Nat} {X : Nat → Int} {Y : Nat → Nat → Int32} (h : VC B K L M0 M a X Y) (hx : ext K L K' L') (hn : ∀ b, isk K' L' b 2 0 → isk K L b 2 0) : VC B K' L' M0 M a X Y := ⟨fun b hb q => h.1 b (hn b hb) q, h.2.1, h.2.2.1, h.2.2.2.ext hx hn⟩
/-- nothing watched has changed; the pool may have grown -/
theorem CX.gen {cy : Nat → ClassId} {B : Nat → Nat × Nat} {K K' : Kp} {L L' : List Nat} {x0 n : Nat} {T : Int} {np np' : Nat} {PK PT PK' PT' : Nat → Int32} {SX : Nat → Nat → Int} {SY : Nat → Nat → Nat → Int32} {M M1 : Hp} (h : CX B K L x0 n T np PK PT SX SY M) (hW : WOK cy K L M) (i0 : isk K L x0 17 8) (hn : n ≤ 8) (hS : SAME K L M M1) (hx : ext K L K' L') (hn2 : ∀ b, isk K' L' b 2 0 → isk K L b 2 0) (hq : RFc (M1 x0) = RFc (M x0)) (hp : ∀ q, isk K' L' q 4 0 → ∀ b, cR 4 M1 q 3 = some b → ∃ j, j < n ∧ RFc (M x0) j = some b) (hPP : ∀ k x y, SIM k T np PK PT x y (SX k) (SY k) → SIM k (T + 1) np' PK' PT' x y (SX k) (SY k)) : CX B K' L' x0 n (T + 1) np' PK' PT' SX SY M1 := by
  refine ⟨fun j hj => ?_, (SAME.oc hW hS h.oc).ext hx hn2, fun q iq b hb => by rw [hq]; exact hp q iq b hb⟩
  obtain ⟨b, e, g⟩ := h.hs j hj
  have ib := i17 hW i0 (by omega) e
  have hv := seenB hW hS b ib (h.oc.n16 b ib)
  refine ⟨b, by rw [hq]; exact e, ?_⟩
  rw [hv.1, hv.2]
  exact hPP j _ _ g
theorem SIM.part {k : Nat} {T : Int} {np : Nat} {PK PT : Nat → Int32} {x : Nat → Int} {y : Nat → Nat → Int32} {X : Nat → Int} {Y : Nat → Nat → Int32} {a b : Int32} (h : SIM k T np PK PT x y X Y) : SIM k (T + 1) (np + 1) (upd PK np a) (upd PT np b) x y X Y := by
  have e : ∀ i : Nat, (i : Int) < X 10 → ownP (upd PK np a) (upd PT np b) (Y 19 i) = ownP PK PT (Y 19 i) := fun i hi => by
    have g := h.wh i hi
    have hc : ((Y 19 i).toNatClampNeg : Int) = (Y 19 i).toInt := clT g.1
    unfold ownP
    rw [upd_ne _ _ (by omega), upd_ne _ _ (by omega)]
  refine ⟨h.x0, h.x1, h.x10, h.x11, h.x12, h.x13, h.x14, h.x15, h.x16, h.x20, h.pl, fun i hi => ?_, h.tn, h.se, h.ru, h.en, h.mo, h.me, ⟨h.un.1, Int.le_trans h.un.2.1 (by omega), h.un.2.2⟩, fun o ho => ?_, h.ob, fun i hi => ?_, ⟨fun i hi => ?_, h.ex.iz, h.ex.lo, h.ex.lz, h.ex.lb, h.ex.et⟩⟩
  · rw [e i hi]
    exact h.te i hi
  · rw [h.ow o ho]
    exact ⟨fun ⟨i, hi, q⟩ => ⟨i, hi, by rw [e i hi]; exact q⟩, fun ⟨i, hi, q⟩ => ⟨i, hi, by rw [e i hi] at q; exact q⟩⟩
  · have g := h.wh i hi
    exact ⟨g.1, by omega⟩
  · have g := h.wh i hi
    have hc : ((Y 19 i).toNatClampNeg : Int) = (Y 19 i).toInt := clT g.1
    rw [upd_ne _ _ (by omega)]
    exact h.ex.tw i hi
theorem KA19 {cy : Nat → ClassId} {K : Kp} {L : List Nat} {M : Hp} {r n i l : Nat} (hW : WOK cy K L M) (hr : isk K L r 19 n) (hi : i < n) (h : RFc (M r) i = some l) : isk K L l 4 0 := by
  obtain ⟨f, h1, h2⟩ := hW.open_19 hr
  rw [RFc_of h1] at h
  exact h2 i hi l h
/-- the class's partners are as the rows PK, PT tell -/
def PX (x0 n x2 np : Nat) (PK PT : Nat → Int32) (M : Hp) : Prop := ∀ p, p < np → ∃ q, RFc (M x2) p = some q ∧ cV 4 M q 0 = nI p ∧ cV 4 M q 1 = PK p ∧ cV 4 M q 2 = PT p ∧ ((PK p = 5 ∧ 0 ≤ (PT p).toInt ∧ (PT p).toInt < (n : Int) ∧ ∃ b, cR 4 M q 3 = some b ∧ RFc (M x0) (PT p).toNatClampNeg = some b) ∨ (PK p ≠ 5 ∧ cR 4 M q 3 = none))
theorem cV_eq {t a j : Nat} {M M1 : Hp} (h : M1 a = M a) : cV t M1 a j = cV t M a j := by
  unfold cV cVt
  rw [h]
theorem cR_eq {t a j : Nat} {M M1 : Hp} (h : M1 a = M a) : cR t M1 a j = cR t M a j := by
  unfold cR cVt
  rw [h]
theorem PX.mv {cy : Nat → ClassId} {K : Kp} {L ts : List Nat} {M M1 : Hp} {x0 n x2 np : Nat} {PK PT : Nat → Int32} (h : PX x0 n x2 np PK PT M) (hW : WOK cy K L M) (i0 : isk K L x0 17 8) (i2 : isk K L x2 19 40) (hnp : np ≤ 40) (hF : fr K L ts M M1) (h17 : 17 ∉ ts) (h19 : 19 ∉ ts) (h4 : 4 ∉ ts) : PX x0 n x2 np PK PT M1 := fun p hp => by
  obtain ⟨q, g0, g1, g2, g3, g4⟩ := h p hp
  have iq := KA19 hW i2 (by omega) g0
  have eq := hF.at iq h4
  refine ⟨q, by rw [hF.at i2 h19]; exact g0, by rw [cV_eq eq]; exact g1, by rw [cV_eq eq]; exact g2, by rw [cV_eq eq]; exact g3, ?_⟩
  rw [cR_eq eq, hF.at i0 h17]
  exact g4
theorem PX.house {cy : Nat → ClassId} {K : Kp} {L : List Nat} {M M1 : Hp} {x0 n x2 np b : Nat} {PK PT : Nat → Int32} (h : PX x0 n x2 np PK PT M) (hW : WOK cy K L M) (i0 : isk K L x0 17 8) (i2 : isk K L x2 19 40) (hnp : np ≤ 40) (hM : ∀ a, a ∈ L → a ≠ x0 → M1 a = M a) (h0 : RFc (M1 x0) = va_up (RFc (M x0)) n (some b)) : PX x0 (n + 1) x2 np PK PT M1 := fun p hp => by
  obtain ⟨q, g0, g1, g2, g3, g4⟩ := h p hp
  have iq := KA19 hW i2 (by omega) g0
  have eq := hM q iq.1 (iq.neT i0 (by decide))
  refine ⟨q, by rw [hM x2 i2.1 (i2.neT i0 (by decide))]; exact g0, by rw [cV_eq eq]; exact g1, by rw [cV_eq eq]; exact g2, by rw [cV_eq eq]; exact g3, ?_⟩
  rw [cR_eq eq, h0]
  rcases g4 with ⟨a1, a2, a3, a, a4, a5⟩ | g4
  · have hc : ((PT p).toNatClampNeg : Int) = (PT p).toInt := clT a2
    exact Or.inl ⟨a1, a2, by omega, a, a4, by rw [va_up_ne _ _ (by omega)]; exact a5⟩
  · exact Or.inr g4
theorem PX.part {cy : Nat → ClassId} {K : Kp} {L : List Nat} {M M1 : Hp} {x0 n x2 np q : Nat} {PK PT : Nat → Int32} {k t : Int32} {o : Option Nat} (h : PX x0 n x2 np PK PT M) (hW : WOK cy K L M) (i0 : isk K L x0 17 8) (i2 : isk K L x2 19 40) (hnp : np < 40) (hF : fr K L [19] M M1) (h2 : RFc (M1 x2) = va_up (RFc (M x2)) np (some q)) (hq : M1 q = .inr (4, [.int (nI np), .int k, .int t, va_rf o])) (ho : (k = 5 ∧ 0 ≤ t.toInt ∧ t.toInt < (n : Int) ∧ ∃ b, o = some b ∧ RFc (M x0) t.toNatClampNeg = some b) ∨ (k ≠ 5 ∧ o = none)) : PX x0 n x2 (np + 1) (upd PK np k) (upd PT np t) M1 := fun p hp => by
  by_cases z : p = np
  · subst z
    rw [upd_self, upd_self]
    refine ⟨q, by rw [h2, va_up_self], cV_of hq rfl, cV_of hq rfl, cV_of hq rfl, ?_⟩
    rw [cR_q (q := o) hq rfl, hF.at i0 (by decide)]
    rcases ho with ⟨a1, a2, a3, b, a4, a5⟩ | ho
    · exact Or.inl ⟨a1, a2, a3, b, a4, a5⟩
    · exact Or.inr ho
  · obtain ⟨q', g0, g1, g2, g3, g4⟩ := h p (by omega)
    have iq := KA19 hW i2 (by omega) g0
    have eq := hF.at iq (by decide)
    rw [upd_ne _ _ z, upd_ne _ _ z]
    refine ⟨q', by rw [h2, va_up_ne _ _ z]; exact g0, by rw [cV_eq eq]; exact g1, by rw [cV_eq eq]; exact g2, by rw [cV_eq eq]; exact g3, ?_⟩
    rw [cR_eq eq, hF.at i0 (by decide)]
    exact g4
theorem WOK.pushB {cy : Nat → ClassId} {K K' : Kp} {L L' : List Nat} {M M' : Hp} {B : List ((Nat × va_E) × (Nat × Nat))} (hW : WOK cy K L M) (hx : ext K L K' L') (h1 : ∀ x, x ∈ B → isk K' L' x.1.1 x.2.1 x.2.2 ∧ M' x.1.1 = x.1.2 ∧ x.1.1 ∉ L) (h2 : ∀ a, a ∈ L → M' a = M a) (h3 : ∀ a, a ∈ L' → a ∈ L ∨ ∃ x, x ∈ B ∧ a = x.1.1) (hg : ∀ x, x ∈ B → gd cy K' L' x.2 x.1.2) : WOK cy K' L' M' := fun a ha => by
  rcases h3 a ha with q | ⟨x, g1, g2⟩
  · rw [h2 a q, (hx a q).2]
    exact gd.ext hx _ _ (hW a q)
  · have g := h1 x g1
    rw [g2, g.2.1, g.1.2]
    exact hg x g1
/-- what house() makes of a House of the reference -/
def HOUSF (k : Int32) (X : Nat → Int) (Y : Nat → Nat → Int32) : Prop := X 0 = k.toInt ∧ X 1 = k.toInt - 1 ∧ (X 10 = 0 ∧ X 11 = 0 ∧ X 12 = 0 ∧ X 13 = 0 ∧ X 14 = 0 ∧ X 15 = 0 ∧ X 16 = 0) ∧ (∀ d, d < 1000 → Y 2 d = -1 ∧ Y 3 d = 0) ∧ (∀ s, s < 6 → Y 9 s = 0) ∧ (∀ i, i < 24 → X (lKey 3 i) = 0) ∧ X 17 = 0
def okHo (n : Nat) (k : Int32) : Prop := 0 ≤ k.toInt ∧ k.toInt ≤ 900 ∧ n < 8
noncomputable def sxHo (n : Nat) (SX : Nat → Nat → Int) (k : Int32) (X : Nat → Int) : Nat → Nat → Int := @ite _ (okHo n k) (Classical.propDecidable _) (va_up SX n X) SX
noncomputable def syHo (n : Nat) (SY : Nat → Nat → Nat → Int32) (k : Int32) (Y : Nat → Nat → Int32) : Nat → Nat → Nat → Int32 := @ite _ (okHo n k) (Classical.propDecidable _) (va_up SY n Y) SY
theorem SIM.house {k : Nat} {T : Int} {np : Nat} {PK PT : Nat → Int32} {x : Nat → Int} {y : Nat → Nat → Int32} {X : Nat → Int} {Y : Nat → Nat → Int32} {f : Int32} (hT : 0 ≤ T) (hF : HOUSF f X Y) (x0 : x 0 = f.toInt) (x1 : x 1 = f.toInt - 1) (x10 : x 10 = 0) (x11 : x 11 = 0) (x12 : x 12 = 0) (x13 : x 13 = 0) (x14 : x 14 = 0) (x15 : x 15 = 0) (x16 : x 16 = 0) (x18 : x 18 = 0) (x19 : x 19 = 0) (x20 : x 20 = (k : Int)) (y2 : ∀ d, d < 1000 → y 2 d = -1 ∧ y 3 d = 0) (y28 : ∀ i, i < 24 → y 28 i = 0) (y50 : ∀ s, s < 6 → y 50 s = 0 ∧ y 51 s = -1) : SIM k T np PK PT x y X Y := by
  obtain ⟨h0, h1, ⟨a10, a11, a12, a13, a14, a15, a16⟩, h2, h9, hlz, _⟩ := hF
  refine ⟨by rw [x0, h0], by rw [x1, h1], by rw [x10, a10], by rw [x11, a11], by rw [x12, a12], by rw [x13, a13], by rw [x14, a14], by rw [x15, a15], by rw [x16, a16], x20, fun d hd => ?_, fun i hi => absurd hi (by omega), fun i hi => ?_, fun s hs => ?_, fun i hi => absurd hi (by omega), fun i hi => absurd hi (by omega), fun i hi => absurd hi (by omega), fun i hi => absurd hi (by omega), ⟨by omega, by omega, fun i hi => absurd hi (by omega)⟩, fun o ho => ?_, by omega, fun i hi => absurd hi (by omega), ⟨fun i hi => absurd hi (by omega), fun i hi => absurd hi (by omega), fun i hi => absurd hi (by omega), fun i hi _ => hlz i hi, fun i hi => absurd hi (by omega), fun d hd m hm => by
    rw [(h2 d hd).2, show (0 : Int32).toInt = 0 from rfl] at hm
    omega⟩⟩
  · have g := y2 d hd
    have e := h2 d hd
    exact ⟨g.1.trans e.1.symm, g.2.trans e.2.symm, fun z => absurd e.1 z⟩
  · rw [y28 i hi]
    exact ⟨fun z => absurd z (by decide), fun z => absurd z (by omega)⟩
  · have g := y50 s hs
    rw [g.1, g.2, h9 s hs, a10]
    refine ⟨?_, by decide, by decide, by decide, by decide, fun _ => rfl⟩
    unfold seatOf
    rw [if_neg (fun z => z rfl)]
    rfl
  · rw [x18]
    exact ⟨fun z => absurd z (by rw [Int.zero_ediv]; decide), fun ⟨i, hi, _⟩ => absurd hi (by omega)⟩
theorem CX.house {cy : Nat → ClassId} {B : Nat → Nat × Nat} {K K' : Kp} {L L' : List Nat} {x0 n b e3 e6 e7 e8 e10 e12 e13 e16 e17 e18 e19 a6 b6 c6 a7 b7 c7 a8 : Nat} {T : Int} {np : Nat} {PK PT : Nat → Int32} {SX : Nat → Nat → Int} {SY : Nat → Nat → Nat → Int32} {M M1 : Hp} {X : Nat → Int} {Y : Nat → Nat → Int32} {k e2 : Int32} (h : CX B K L x0 n T np PK PT SX SY M) (hW : WOK cy K L M) (i0 : isk K L x0 17 8) (hn : n < 8) (hT : 0 ≤ T) (hM : ∀ a, a ∈ L → a ≠ x0 → M1 a = M a) (hx : ext K L K' L') (h0 : RFc (M1 x0) = va_up (RFc (M x0)) n (some b)) (hN : ∀ a, isk K' L' a 2 0 → isk K L a 2 0 ∨ a = b) (hN4 : ∀ a, isk K' L' a 4 0 → isk K L a 4 0) (hb : M1 b = (b2_2 (nI n) k e2 e3 0 0 e6 e7 e8 0 e10 0 e12 e13 0 0 e16 e17 e18 e19)) (h16 : M1 e16 = (b1_4 a6 b6 c6 0)) (h17 : M1 e17 = (b1_4 a7 b7 c7 0)) (h18 : M1 e18 = (b10_15 a8 0 0)) (r7 : RFc (M1 e7) = fun _ => none) (r8 : RFc (M1 e8) = fun _ => none) (r10 : RFc (M1 e10) = fun _ => none) (r12 : RFc (M1 e12) = fun _ => none) (i6 : IFc (M1 e6) = fun _ => 0) (q3 : isk K' L' e3 51 12) (q6 : isk K' L' e6 52 6) (q7 : isk K' L' e7 61 6) (q8 : isk K' L' e8 62 24) (q10 : isk K' L' e10 20 16) (q12 : isk K' L' e12 18 1000) (q16 : isk K' L' e16 1 0) (q17 : isk K' L' e17 1 0) (q18 : isk K' L' e18 10 0) (qa6 : isk K' L' a6 63 120) (qb6 : isk K' L' b6 56 120) (qc6 : isk K' L' c6 57 120) (qa7 : isk K' L' a7 63 20) (qb7 : isk K' L' b7 56 20) (qc7 : isk K' L' c7 57 20) (qa8 : isk K' L' a8 55 60) (hf : ∀ z, z ∈ [b, e3, e6, e7, e8, e10, e12, e16, e17, e18, a6, b6, c6, a7, b7, c7, a8] → z ∉ L) (hF : HOUSF k X Y) (he : e2.toInt = k.toInt - 1) : ∃ B', CX B' K' L' x0 (n + 1) (T + 1) np PK PT (va_up SX n X) (va_up SY n Y) M1 := by
  have hFr : fr K L [17] M M1 := fun a ha q => hM a ha (fun z => q (by rw [z, i0.2]; decide))
  have hS : SAME K L M M1 := SAME.fr (fr.cv hFr (by decide)) (fr.cv hFr (by decide)) (fr.cv hFr (by decide)) (fr.cv hFr (by decide)) (fr.cv hFr (by decide)) (fr.cv hFr (by decide)) (fr.cv hFr (by decide)) hFr (by decide)
  have hO := SAME.oc hW hS h.oc
  have nx : ∀ z t m, isk K L z t m → t ≠ 17 → M1 z = M z := fun z t m i q => hM z i.1 (i.neT i0 q)
  have eo : ∀ t z j m, isk K L z t m → t ≠ 17 → rA t M1 z j = rA t M z j := fun t z j m i q => by
    unfold rA cR cVt
    rw [nx z t m i q]
  obtain ⟨B', eB⟩ : ∃ B' : Nat → Nat × Nat, B' = fun z => if z ∈ L then B z else if z = e17 ∨ z = a7 ∨ z = b7 ∨ z = c7 then (b, 1) else (b, 0) := ⟨_, rfl⟩
  have oB : ∀ z, z ∈ L → B' z = B z := fun z q => by
    rw [eB]
    exact if_pos q
  have n0 : ∀ z, z ∉ L → z ≠ e17 → z ≠ a7 → z ≠ b7 → z ≠ c7 → B' z = (b, 0) := fun z q q1 q2 q3 q4 => by
    rw [eB]
    show (if z ∈ L then B z else _) = _
    rw [if_neg q, if_neg (fun w => by rcases w with w | w | w | w <;> contradiction)]
  have n1 : ∀ z, z ∉ L → (z = e17 ∨ z = a7 ∨ z = b7 ∨ z = c7) → B' z = (b, 1) := fun z q q1 => by
    rw [eB]
    show (if z ∈ L then B z else _) = _
    rw [if_neg q, if_pos q1]
  have ne67 : e16 ≠ e17 := fun z => by
    rw [z] at h16
    have w := h16.symm.trans h17
    have w2 : a6 = a7 := by
      injection w with w
      injection w with _ w
      injection w with w
      injection w
    exact (qa6.ne qa7 (by decide)) w2
  refine ⟨B', fun j hj => ?_, ⟨fun a ha j hj => ?_, fun a ha => ?_, fun a ha j hj => ?_, fun a ha j hj => ?_, fun a ha => ?_, fun a ha i l hi e => ?_, fun a ha i l hi e => ?_, fun a ha i l hi e => ?_, fun a ha i l hi e => ?_, fun a ha i l hi e => ?_, fun a ha => ?_, fun a ha => ?_⟩, fun q iq z hz => ?_⟩
  · by_cases z : j = n
    · subst z
      refine ⟨b, by rw [h0, va_up_self], ?_⟩
      rw [va_up_self, va_up_self]
      refine SIM.house (by omega) hF ?_ ?_ ?_ ?_ ?_ ?_ ?_ ?_ ?_ ?_ ?_ ?_ (fun d hd => lk_lf0 (by rw [rA_of (j := 12) hb rfl, r12]) hd) (fun i hi => tn0 (by rw [rA_of (j := 8) hb rfl, r8]) hi) (fun s hs => ⟨?_, lk_he0 (by rw [rA_of (j := 7) hb rfl, r7]) hs⟩)
      · show (cV 2 M1 b 1).toInt = _
        rw [cV_of hb rfl]
      · show (cV 2 M1 b 2).toInt = _
        rw [cV_of hb rfl]
        exact he
      · show (cV 2 M1 b 9).toInt = _
        rw [cV_of hb rfl]
        rfl
      · show (cV 2 M1 b 11).toInt = _
        rw [cV_of hb rfl]
        rfl
      · show (cV 2 M1 b 4).toInt = _
        rw [cV_of hb rfl]
        rfl
      · show (cV 2 M1 b 5).toInt = _
        rw [cV_of hb rfl]
        rfl
      · show (cV 1 M1 (rA 2 M1 b 16) 3).toInt = _
        rw [rA_of (j := 16) hb rfl, cV_of h16 rfl]
        rfl
      · show (cV 1 M1 (rA 2 M1 b 17) 3).toInt = _
        rw [rA_of (j := 17) hb rfl, cV_of h17 rfl]
        rfl
      · show (cV 10 M1 (rA 2 M1 b 18) 2).toInt = _
        rw [rA_of (j := 18) hb rfl, cV_of h18 rfl]
        rfl
      · show (cV 2 M1 b 15).toInt = _
        rw [cV_of hb rfl]
        rfl
      · show (cV 10 M1 (rA 2 M1 b 18) 1).toInt = _
        rw [rA_of (j := 18) hb rfl, cV_of h18 rfl]
        rfl
      · show (cV 2 M1 b 0).toInt = _
        rw [cV_of hb rfl]
        exact nI_toInt (by omega)
      · show IFc (M1 (rA 2 M1 b 6)) s = 0
        rw [rA_of (j := 6) hb rfl, i6]
    · obtain ⟨a, e, g⟩ := h.hs j (by omega)
      have ia := i17 hW i0 (by omega) e
      have hv := seenB hW hS a ia (h.oc.n16 a ia)
      refine ⟨a, by rw [h0, va_up_ne _ _ z]; exact e, ?_⟩
      rw [va_up_ne _ _ z, va_up_ne _ _ z, hv.1, hv.2]
      exact g.mono (by omega)
  · rcases hN a ha with ia | rfl
    · have kb := KH hW ia
      have g := hO.e0 a ia j hj
      rw [eo 2 a j 0 ia (by decide)] at g ⊢
      simp only [List.mem_cons, List.not_mem_nil, or_false] at hj
      rcases hj with rfl | rfl | rfl | rfl | rfl | rfl | rfl | rfl
      · rw [oB _ kb.1.1]; exact g
      · rw [oB _ kb.2.1.1]; exact g
      · rw [oB _ kb.2.2.1.1]; exact g
      · rw [oB _ kb.2.2.2.1.1]; exact g
      · rw [oB _ kb.2.2.2.2.1.1]; exact g
      · rw [oB _ kb.2.2.2.2.2.1.1]; exact g
      · rw [oB _ kb.2.2.2.2.2.2.1.1]; exact g
      · rw [oB _ kb.2.2.2.2.2.2.2.2.1]; exact g
    · simp only [List.mem_cons, List.not_mem_nil, or_false] at hj
      rcases hj with rfl | rfl | rfl | rfl | rfl | rfl | rfl | rfl
      · rw [rA_of (j := 3) hb rfl]; exact n0 _ (hf _ (by simp)) (q3.neT q17 (by decide)) (q3.neT qa7 (by decide)) (q3.neT qb7 (by decide)) (q3.neT qc7 (by decide))
      · rw [rA_of (j := 6) hb rfl]; exact n0 _ (hf _ (by simp)) (q6.neT q17 (by decide)) (q6.neT qa7 (by decide)) (q6.neT qb7 (by decide)) (q6.neT qc7 (by decide))
      · rw [rA_of (j := 7) hb rfl]; exact n0 _ (hf _ (by simp)) (q7.neT q17 (by decide)) (q7.neT qa7 (by decide)) (q7.neT qb7 (by decide)) (q7.neT qc7 (by decide))
      · rw [rA_of (j := 8) hb rfl]; exact n0 _ (hf _ (by simp)) (q8.neT q17 (by decide)) (q8.neT qa7 (by decide)) (q8.neT qb7 (by decide)) (q8.neT qc7 (by decide))
      · rw [rA_of (j := 10) hb rfl]; exact n0 _ (hf _ (by simp)) (q10.neT q17 (by decide)) (q10.neT qa7 (by decide)) (q10.neT qb7 (by decide)) (q10.neT qc7 (by decide))
      · rw [rA_of (j := 12) hb rfl]; exact n0 _ (hf _ (by simp)) (q12.neT q17 (by decide)) (q12.neT qa7 (by decide)) (q12.neT qb7 (by decide)) (q12.neT qc7 (by decide))
      · rw [rA_of (j := 16) hb rfl]; exact n0 _ (hf _ (by simp)) ne67 (q16.neT qa7 (by decide)) (q16.neT qb7 (by decide)) (q16.neT qc7 (by decide))
      · rw [rA_of (j := 18) hb rfl]; exact n0 _ (hf _ (by simp)) (q18.neT q17 (by decide)) (q18.neT qa7 (by decide)) (q18.neT qb7 (by decide)) (q18.neT qc7 (by decide))
  · rcases hN a ha with ia | rfl
    · have kb := KH hW ia
      have g := hO.e17 a ia
      rw [eo 2 a 17 0 ia (by decide)] at g ⊢
      rw [oB _ kb.2.2.2.2.2.2.2.1.1]
      exact g
    · rw [rA_of (j := 17) hb rfl]
      exact n1 _ (hf _ (by simp)) (Or.inl rfl)
  · rcases hN a ha with ia | rfl
    · have kb := KH hW ia
      obtain ⟨n6, p0, p1, p2⟩ := KD hW kb.2.2.2.2.2.2.1
      have g := hO.d16 a ia j hj
      rw [eo 2 a 16 0 ia (by decide), eo 1 _ j 0 kb.2.2.2.2.2.2.1 (by decide)] at g ⊢
      rcases (show j = 0 ∨ j = 1 ∨ j = 2 by omega) with rfl | rfl | rfl
      · rw [oB _ p0.1]; exact g
      · rw [oB _ p1.1]; exact g
      · rw [oB _ p2.1]; exact g
    · rw [rA_of (j := 16) hb rfl]
      rcases (show j = 0 ∨ j = 1 ∨ j = 2 by omega) with rfl | rfl | rfl
      · rw [rA_of (j := 0) h16 rfl]; exact n0 _ (hf _ (by simp)) (qa6.neT q17 (by decide)) (qa6.ne qa7 (by decide)) (qa6.neT qb7 (by decide)) (qa6.neT qc7 (by decide))
      · rw [rA_of (j := 1) h16 rfl]; exact n0 _ (hf _ (by simp)) (qb6.neT q17 (by decide)) (qb6.neT qa7 (by decide)) (qb6.ne qb7 (by decide)) (qb6.neT qc7 (by decide))
      · rw [rA_of (j := 2) h16 rfl]; exact n0 _ (hf _ (by simp)) (qc6.neT q17 (by decide)) (qc6.neT qa7 (by decide)) (qc6.neT qb7 (by decide)) (qc6.ne qc7 (by decide))
  · rcases hN a ha with ia | rfl
    · have kb := KH hW ia
      obtain ⟨n6, p0, p1, p2⟩ := KD hW kb.2.2.2.2.2.2.2.1
      have g := hO.d17 a ia j hj
      rw [eo 2 a 17 0 ia (by decide), eo 1 _ j 0 kb.2.2.2.2.2.2.2.1 (by decide)] at g ⊢
      rcases (show j = 0 ∨ j = 1 ∨ j = 2 by omega) with rfl | rfl | rfl
      · rw [oB _ p0.1]; exact g
      · rw [oB _ p1.1]; exact g
      · rw [oB _ p2.1]; exact g
    · rw [rA_of (j := 17) hb rfl]
      rcases (show j = 0 ∨ j = 1 ∨ j = 2 by omega) with rfl | rfl | rfl
      · rw [rA_of (j := 0) h17 rfl]; exact n1 _ (hf _ (by simp)) (by simp)
      · rw [rA_of (j := 1) h17 rfl]; exact n1 _ (hf _ (by simp)) (by simp)
      · rw [rA_of (j := 2) h17 rfl]; exact n1 _ (hf _ (by simp)) (by simp)
  · rcases hN a ha with ia | rfl
    · have kb := KH hW ia
      have g := hO.un a ia
      rw [eo 2 a 18 0 ia (by decide), eo 10 _ 0 0 kb.2.2.2.2.2.2.2.2 (by decide)] at g ⊢
      rw [oB _ (KU hW kb.2.2.2.2.2.2.2.2).1]
      exact g
    · rw [rA_of (j := 18) hb rfl, rA_of (j := 0) h18 rfl]
      exact n0 _ (hf _ (by simp)) (qa8.neT q17 (by decide)) (qa8.neT qa7 (by decide)) (qa8.neT qb7 (by decide)) (qa8.neT qc7 (by decide))
  · rcases hN a ha with ia | rfl
    · have kb := KH hW ia
      have g := hO.lf a ia i l hi e
      rw [eo 2 a 12 0 ia (by decide), nx _ _ _ kb.2.2.2.2.2.1 (by decide)] at e
      have il := KA12 hW kb.2.2.2.2.2.1 hi e
      rw [eo 3 l 1 0 il (by decide)] at g ⊢
      rw [oB _ il.1, oB _ (KL hW il).choose_spec.1]
      exact g
    · rw [rA_of (j := 12) hb rfl, r12] at e
      cases e
  · rcases hN a ha with ia | rfl
    · have kb := KH hW ia
      have g := hO.te a ia i l hi e
      rw [eo 2 a 8 0 ia (by decide), nx _ _ _ kb.2.2.2.1 (by decide)] at e
      rw [oB _ (KA8 hW kb.2.2.2.1 hi e).1]
      exact g
    · rw [rA_of (j := 8) hb rfl, r8] at e
      cases e
  · rcases hN a ha with ia | rfl
    · have kb := KH hW ia
      have g := hO.ru a ia i l hi e
      rw [eo 2 a 10 0 ia (by decide), nx _ _ _ kb.2.2.2.2.1 (by decide)] at e
      have il := KA10 hW kb.2.2.2.2.1 hi e
      rw [eo 6 l 2 0 il (by decide)] at g ⊢
      rw [oB _ il.1, oB _ (KR hW il).1]
      exact g
    · rw [rA_of (j := 10) hb rfl, r10] at e
      cases e
  · rcases hN a ha with ia | rfl
    · exact hO.nm a ia i l hi e
    · rw [rA_of (j := 8) hb rfl, r8] at e
      cases e
  · rcases hN a ha with ia | rfl
    · exact hO.hd a ia i l hi e
    · rw [rA_of (j := 7) hb rfl, r7] at e
      cases e
  · rcases hN a ha with ia | rfl
    · exact (hO.n16 a ia).ext hx
    · rw [rA_of (j := 16) hb rfl, rA_of (j := 0) h16 rfl]
      exact qa6
  · rcases hN a ha with ia | rfl
    · exact (hO.n17 a ia).ext hx
    · rw [rA_of (j := 17) hb rfl, rA_of (j := 0) h17 rfl]
      exact qa7
  · have iq0 := hN4 q iq
    rw [cR_eq (nx q 4 0 iq0 (by decide))] at hz
    obtain ⟨j, hj, e⟩ := h.ph q iq0 z hz
    exact ⟨j, by omega, by rw [h0, va_up_ne _ _ (by omega)]; exact e⟩
/-- of the Closings only oa may be otherwise than in M0 -/
def OTH (K0 : Kp) (L0 : List Nat) (oa : Nat) (M0 M : Hp) : Prop := ∀ c, isk K0 L0 c 0 0 → c ≠ oa → M c = M0 c
theorem OTH.rf {K : Kp} {L : List Nat} {oa : Nat} {M : Hp} : OTH K L oa M M := fun _ _ _ => rfl
theorem OTH.upX {K0 K : Kp} {L0 L : List Nat} {oa a t n : Nat} {M0 M : Hp} {e : va_E} (h : OTH K0 L0 oa M0 M) (x : ext K0 L0 K L) (ha : isk K L a t n) (ht : 0 ≠ t) : OTH K0 L0 oa M0 (va_up M a e) := fun c ic hc => by
  rw [va_up_ne _ _ ((ic.ext x).neT ha ht)]
  exact h c ic hc
theorem OTH.upO {K0 : Kp} {L0 : List Nat} {oa : Nat} {M0 M : Hp} {e : va_E} (h : OTH K0 L0 oa M0 M) : OTH K0 L0 oa M0 (va_up M oa e) := fun c ic hc => by
  rw [va_up_ne _ _ hc]
  exact h c ic hc
theorem OTH.tr {K0 K : Kp} {L0 L ts : List Nat} {oa : Nat} {M0 M M1 : Hp} (h : OTH K0 L0 oa M0 M) (x : ext K0 L0 K L) (hF : fr K L ts M M1) (h0 : 0 ∉ ts) : OTH K0 L0 oa M0 M1 := fun c ic hc => (hF.at (ic.ext x) h0).trans (h c ic hc)
theorem OTH.trO {K0 K : Kp} {L0 L : List Nat} {oa : Nat} {M0 M M1 : Hp} (h : OTH K0 L0 oa M0 M) (x : ext K0 L0 K L) (g : OTH K L oa M M1) : OTH K0 L0 oa M0 M1 := fun c ic hc => (g c (ic.ext x) hc).trans (h c ic hc)
theorem OTH.ad {K0 K : Kp} {L0 L : List Nat} {oa : Nat} {M0 M M1 : Hp} (h : OTH K0 L0 oa M0 M) (x : ext K0 L0 K L) (g : ∀ b, b ∈ L → M1 b = M b) : OTH K0 L0 oa M0 M1 := fun c ic hc => (g c (ic.ext x).1).trans (h c ic hc)
/-- a House's Closing -/
theorem clos {cy : Nat → ClassId} {K : Kp} {L : List Nat} {M : Hp} {b : Nat} (hW : WOK cy K L M) (hb : isk K L b 2 0) : ∃ c, cR 2 M b 19 = some c ∧ isk K L c 0 0 := by
  obtain ⟨v0, v1, v2, v3, v4, v5, v6, v7, v8, v9, v10, v11, v12, v13, v14, v15, v16, v17, v18, v19, hM, h3, h4, h5, h6, h7, h8, h9, h10, h11, h12, h13, h16, h17, h18, h19⟩ := hW.open_2 hb
  exact ⟨v19, cR_of (j := 19) hM rfl, h19⟩
/-- the class's Closings tell as many stretches as S -/
def SCX (x0 n : Nat) (SX : Nat → Nat → Int) (M : Hp) : Prop := (∀ k, k < n → ∃ b c, RFc (M x0) k = some b ∧ cR 2 M b 19 = some c ∧ (cV 0 M c 3).toInt = SX k 17) ∧ ∀ i j b b', i < n → j < n → RFc (M x0) i = some b → RFc (M x0) j = some b' → cR 2 M b 19 = cR 2 M b' 19 → i = j
theorem SCX.mv {cy : Nat → ClassId} {K : Kp} {L : List Nat} {M M1 : Hp} {x0 n : Nat} {SX SX' : Nat → Nat → Int} (h : SCX x0 n SX M) (hW : WOK cy K L M) (i0 : isk K L x0 17 8) (hn : n ≤ 8) (hx : RFc (M1 x0) = RFc (M x0)) (hc : ∀ b, isk K L b 2 0 → cR 2 M1 b 19 = cR 2 M b 19) (h0 : ∀ c, isk K L c 0 0 → M1 c = M c) (hS : ∀ k, SX' k 17 = SX k 17) : SCX x0 n SX' M1 := by
  refine ⟨fun k hk => ?_, fun i j b b' hi hj hb hb' he => ?_⟩
  · obtain ⟨b, c, g1, g2, g3⟩ := h.1 k hk
    have ib := i17 hW i0 (by omega) g1
    obtain ⟨c', e1, e2⟩ := clos hW ib
    have ec : c' = c := Option.some.inj (e1.symm.trans g2)
    rw [ec] at e2
    refine ⟨b, c, by rw [hx]; exact g1, (hc b ib).trans g2, ?_⟩
    rw [cV_eq (h0 c e2), hS k]
    exact g3
  · rw [hx] at hb hb'
    refine h.2 i j b b' hi hj hb hb' ?_
    rw [← hc b (i17 hW i0 (by omega) hb), ← hc b' (i17 hW i0 (by omega) hb')]
    exact he
theorem SCX.at {x0 n k b c : Nat} {SX : Nat → Nat → Int} {M : Hp} (h : SCX x0 n SX M) (hk : k < n) (hb : RFc (M x0) k = some b) (hc : cR 2 M b 19 = some c) : (cV 0 M c 3).toInt = SX k 17 := by
  obtain ⟨b', c', g1, g2, g3⟩ := h.1 k hk
  have e1 : b' = b := Option.some.inj (g1.symm.trans hb)
  subst e1
  have e2 : c' = c := Option.some.inj (g2.symm.trans hc)
  subst e2
  exact g3
/-- House k has closed a year -/
theorem SCX.close {cy : Nat → ClassId} {K : Kp} {L : List Nat} {M M1 : Hp} {x0 n k b c : Nat} {SX : Nat → Nat → Int} {X' : Nat → Int} (h : SCX x0 n SX M) (hW : WOK cy K L M) (i0 : isk K L x0 17 8) (hn : n ≤ 8) (hx : RFc (M1 x0) = RFc (M x0)) (hcc : ∀ b, isk K L b 2 0 → cR 2 M1 b 19 = cR 2 M b 19) (hk : k < n) (hb : RFc (M x0) k = some b) (hc : cR 2 M b 19 = some c) (h0 : OTH K L c M M1) (h3 : (cV 0 M1 c 3).toInt = X' 17) : SCX x0 n (va_up SX k X') M1 := by
  refine ⟨fun j hj => ?_, fun i j b b' hi hj hb hb' he => ?_⟩
  · by_cases z : j = k
    · rw [z, va_up_self]
      exact ⟨b, c, by rw [hx]; exact hb, (hcc b (i17 hW i0 (by omega) hb)).trans hc, h3⟩
    · rw [va_up_ne _ _ z]
      obtain ⟨b', c', g1, g2, g3⟩ := h.1 j hj
      have ib := i17 hW i0 (by omega) g1
      obtain ⟨c2, e1, e2⟩ := clos hW ib
      have ec : c2 = c' := Option.some.inj (e1.symm.trans g2)
      rw [ec] at e2
      have hne : c' ≠ c := fun w => z (h.2 j k b' b hj hk g1 hb (by rw [g2, hc, w]))
      refine ⟨b', c', by rw [hx]; exact g1, (hcc b' ib).trans g2, ?_⟩
      rw [cV_eq (h0 c' e2 hne)]
      exact g3
  · rw [hx] at hb hb'
    refine h.2 i j b b' hi hj hb hb' ?_
    rw [← hcc b (i17 hW i0 (by omega) hb), ← hcc b' (i17 hW i0 (by omega) hb')]
    exact he
/-- a new House -/
theorem SCX.house {cy : Nat → ClassId} {K : Kp} {L : List Nat} {M M1 : Hp} {x0 n b c : Nat} {SX : Nat → Nat → Int} {X : Nat → Int} (h : SCX x0 n SX M) (hW : WOK cy K L M) (i0 : isk K L x0 17 8) (hn : n < 8) (hM : ∀ a, a ∈ L → a ≠ x0 → M1 a = M a) (h0 : RFc (M1 x0) = va_up (RFc (M x0)) n (some b)) (hc : cR 2 M1 b 19 = some c) (hcL : c ∉ L) (h3 : (cV 0 M1 c 3).toInt = X 17) : SCX x0 (n + 1) (va_up SX n X) M1 := by
  have old : ∀ j b', j < n → RFc (M x0) j = some b' → cR 2 M1 b' 19 = cR 2 M b' 19 ∧ ∃ c', cR 2 M b' 19 = some c' ∧ isk K L c' 0 0 ∧ M1 c' = M c' := fun j b' hj hb' => by
    have ib := i17 hW i0 (by omega) hb'
    obtain ⟨c', e1, e2⟩ := clos hW ib
    exact ⟨cR_eq (hM b' ib.1 (ib.neT i0 (by decide))), c', e1, e2, hM c' e2.1 (e2.neT i0 (by decide))⟩
  refine ⟨fun j hj => ?_, fun i j b1 b2 hi hj hb1 hb2 he => ?_⟩
  · by_cases z : j = n
    · rw [z, va_up_self]
      exact ⟨b, c, by rw [h0, va_up_self], hc, h3⟩
    · rw [va_up_ne _ _ z]
      obtain ⟨b', c', g1, g2, g3⟩ := h.1 j (by omega)
      obtain ⟨o1, c2, o2, o3, o4⟩ := old j b' (by omega) g1
      have ec : c2 = c' := Option.some.inj (o2.symm.trans g2)
      rw [ec] at o4
      refine ⟨b', c', by rw [h0, va_up_ne _ _ z]; exact g1, o1.trans g2, ?_⟩
      rw [cV_eq o4]
      exact g3
  · rw [h0] at hb1 hb2
    by_cases z1 : i = n
    · by_cases z2 : j = n
      · omega
      · rw [va_up_ne _ _ z2] at hb2
        rw [z1, va_up_self] at hb1
        have e1 : b = b1 := Option.some.inj hb1
        obtain ⟨o1, c2, o2, o3, _⟩ := old j b2 (by omega) hb2
        rw [← e1, hc, o1, o2] at he
        have := Option.some.inj he
        rw [this] at hcL
        exact absurd o3.1 hcL
    · rw [va_up_ne _ _ z1] at hb1
      obtain ⟨p1, c1, p2, p3, _⟩ := old i b1 (by omega) hb1
      by_cases z2 : j = n
      · rw [z2, va_up_self] at hb2
        have e1 : b = b2 := Option.some.inj hb2
        rw [← e1, hc, p1, p2] at he
        have := Option.some.inj he
        rw [← this] at hcL
        exact absurd p3.1 hcL
      · rw [va_up_ne _ _ z2] at hb2
        obtain ⟨o1, c2, o2, o3, _⟩ := old j b2 (by omega) hb2
        rw [p1, o1] at he
        exact h.2 i j b1 b2 (by omega) (by omega) hb1 hb2 he
theorem fT19 {K : Kp} {L js : List Nat} {M M1 : Hp} (hg : ∀ c, isk K L c 2 0 → ∃ fs, M c = .inr (2, fs)) (h : fT 2 K L js M M1) (hj : 19 ∉ js) : ∀ b, isk K L b 2 0 → cR 2 M1 b 19 = cR 2 M b 19 := fun b hb => by
  obtain ⟨fs, e⟩ := hg b hb
  obtain ⟨fs', e', g⟩ := h b hb fs e
  exact cR_c (by rw [cVt_of 19 e, cVt_of 19 e']; exact g 19 hj)
theorem fr19 {K : Kp} {L ts : List Nat} {M M1 : Hp} (hF : fr K L ts M M1) (h2 : 2 ∉ ts) : ∀ b, isk K L b 2 0 → cR 2 M1 b 19 = cR 2 M b 19 := fun b hb => cR_eq (hF.at hb h2)

set_option maxHeartbeats 4000000 in
set_option maxRecDepth 100000 in
theorem k_House2 (l : Launch) (D : va_G) (sz : Nat) (oa : Nat) (k1 : Int32) (k2 : Int32) (k3 : Nat) : Met l yX2_init (wsM yX2_init cX2_init 4 none) ({ frames := 2, cells := 20, slots := 2780, locals := 35 }) (va_Pc [.ref oa, .int k1, .int k2, .ref k3] (Pr D [(oa, .inr (2, [.int 0, .int 0, .int 0, .null, .int 0, .int 0, .null, .null, .null, .int 0, .null, .int 0, .null, .null, .long 0, .int 0, .null, .null, .null, .null]))] [] sz)) (va_Qv (fun _ : Unit => True) (fun _ t => ∃ (e2 : Int32) (e3 : Nat) (e6 : Nat) (e7 : Nat) (e8 : Nat) (e10 : Nat) (e12 : Nat) (e13 : Nat) (e16 : Nat) (e16a : Nat) (e16b : Nat) (e16c : Nat) (e17 : Nat) (e17a : Nat) (e17b : Nat) (e17c : Nat) (e18 : Nat) (e18a : Nat) (e19 : Nat) (e19a : Nat) (e19b : Nat) (ce3 : ClassId) (ce6 : ClassId) (ce7 : ClassId) (ce8 : ClassId) (ce10 : ClassId) (ce12 : ClassId) (ce13 : ClassId) (ce16a : ClassId) (ce16b : ClassId) (ce16c : ClassId) (ce17a : ClassId) (ce17b : ClassId) (ce17c : ClassId) (ce18a : ClassId) (ce19a : ClassId) (ce19b : ClassId), e2 = k2 - 1 ∧ Po D [(oa, (b2_2 k1 k2 e2 e3 0 0 e6 e7 e8 0 e10 0 e12 e13 0 0 e16 e17 e18 e19)), (e3, .inl (ce3, 12, .inl (fun _ => 0))), (e6, .inl (ce6, 6, .inl (fun _ => 0))), (e7, .inl (ce7, 6, .inr (.inr (.inr (.inr (fun _ => none)))))), (e8, .inl (ce8, 24, .inr (.inr (.inr (.inr (fun _ => none)))))), (e10, .inl (ce10, 16, .inr (.inr (.inr (.inr (fun _ => none)))))), (e12, .inl (ce12, 1000, .inr (.inr (.inr (.inr (fun _ => none)))))), (e13, .inl (ce13, 1000, .inr (.inl (fun _ => 0)))), (e16a, .inl (ce16a, 120, .inr (.inr (.inr (.inr (fun _ => none)))))), (e16b, .inl (ce16b, 120, .inl (fun _ => 0))), (e16c, .inl (ce16c, 120, .inl (fun _ => 0))), (e16, (b1_4 e16a e16b e16c 0)), (e17a, .inl (ce17a, 20, .inr (.inr (.inr (.inr (fun _ => none)))))), (e17b, .inl (ce17b, 20, .inl (fun _ => 0))), (e17c, .inl (ce17c, 20, .inl (fun _ => 0))), (e17, (b1_4 e17a e17b e17c 0)), (e18a, .inl (ce18a, 60, .inl (fun _ => 0))), (e18, (b10_15 e18a 0 0)), (e19a, .inl (ce19a, 120, .inr (.inr (.inr (.inr (fun _ => none)))))), (e19b, .inl (ce19b, 100, .inr (.inl (fun _ => 0)))), (e19, (b0_7 e19a e19b k3 0 0))] [(ce3, .int), (ce6, .int), (ce7, .object RX9), (ce8, .object RX9), (ce10, .object RX6), (ce12, .object RX3), (ce13, .long), (ce16a, .object RX9), (ce16b, .int), (ce16c, .int), (ce17a, .object RX9), (ce17b, .int), (ce17c, .int), (ce18a, .int), (ce19a, .object RX8), (ce19b, .long)] (va_A [(oa, .inr (2, [.int 0, .int 0, .int 0, .null, .int 0, .int 0, .null, .null, .null, .int 0, .null, .int 0, .null, .null, .long 0, .int 0, .null, .null, .null, .null]))] sz) t) (va_A [(oa, .inr (2, [.int 0, .int 0, .int 0, .null, .int 0, .int 0, .null, .null, .null, .int 0, .null, .int 0, .null, .null, .long 0, .int 0, .null, .null, .null, .null]))] sz)) 20 2780 (va_A [(oa, .inr (2, [.int 0, .int 0, .int 0, .null, .int 0, .int 0, .null, .null, .null, .int 0, .null, .int 0, .null, .null, .long 0, .int 0, .null, .null, .null, .null]))] sz) := by
  refine Met.ofW (cc := cX2_init) (maxL := 4) (ret := none) (by decide) rfl ?_
  intro p e s m args below meth c s₁ B hml hv
  obtain ⟨rfl, hsz, hP, hK, hD0, hN⟩ := hv
  have hx := B.exec
  have hb := B.bytes
  have hr := B.returns
  have hts := atoms_spec (ws := (wsM yX2_init cX2_init 4 none)) B.pre
  have hg : ∀ w ∈ lw_good, w.before _ s = true := fun w h => hts w (List.mem_cons_of_mem _ h)
  have hown : s.vm.findClass RX2 = some m.cls := findClass_of_methodNamed B.named
  have hlocks := B.notSynchronized
  have hin : meth.name = "<init>" := (name_of_methodNamed B.named B.method).1
  subst hsz
  have hD := hD0.self (sz := s.heap.size)
  generalize hAe : va_A [(oa, .inr (2, [.int 0, .int 0, .int 0, .null, .int 0, .int 0, .null, .null, .null, .int 0, .null, .int 0, .null, .null, .long 0, .int 0, .null, .null, .null, .null]))] s.heap.size = A at hD ⊢
  have hA : ∀ q : Nat, s.heap.size ≤ q → A q := fun q h => by rw [← hAe]; exact Or.inr h
  have hS : va_S A s.heap s.heap [] := va_S.rf
  have hP : va_P D vwCl [(oa, .inr (2, [.int 0, .int 0, .int 0, .null, .int 0, .int 0, .null, .null, .null, .int 0, .null, .int 0, .null, .null, .long 0, .int 0, .null, .null, .null, .null]))] s.heap := hP
  have hl := lv_entry ([.ref oa, .int k1, .int k2, .ref k3]) (n := 4) (Nat.le_of_ble_eq_true rfl)
  rw [lg_entry_eq]
  generalize (lg_sl ([.ref oa, .int k1, .int k2, .ref k3]) ++ List.replicate (4 - (lg_sl ([.ref oa, .int k1, .int k2, .ref k3])).length) Slot.unset).toArray = ls at hl ⊢
  have hl : lv_has ls 4 [(0, .ref oa), (1, .int k1), (2, .int k2), (3, .ref k3)] := hl
  refine lv_aload_n hx hb dX2_init_0 rfl (lv_at hl 0 rfl) ?_
  refine W.objInit hx hb hown (hg _ wd_597) (hg _ wd_525) (hg _ wd_obj) rfl (by rw [hml]; exact hl.1) rfl dX2_init_1 (Nat.le_of_ble_eq_true rfl) (Nat.le_of_ble_eq_true rfl) ?_
  refine W.eq (g2 := F0 m 4 ls []) rfl ?_
  refine lv_aload_n hx hb dX2_init_4 rfl (lv_at hl 0 rfl) ?_
  refine lv_bipush (v := 12) hx hb dX2_init_5 (by decide) ?_
  refine va_newa (atype := .int) (ty := .int) (a0 := (12, .inl (fun _ => 0))) hx hb (hg _ wd_531) rfl hK hP hD hS hA (fun cA => rfl) (by decide) (by decide) (Nat.le_of_ble_eq_true rfl) (Nat.le_of_ble_eq_true rfl) (Nat.le_of_ble_eq_true rfl) dX2_init_7 (fun q_1 cA_3 H_2 hK hP hD hS => ?_)
  have hK : va_K D vwCl [(cA_3, .int)] s := hK
  have hP : va_P D vwCl [(oa, .inr (2, [.int 0, .int 0, .int 0, .null, .int 0, .int 0, .null, .null, .null, .int 0, .null, .int 0, .null, .null, .long 0, .int 0, .null, .null, .null, .null])), (q_1, .inl (cA_3, 12, .inl (fun _ => 0)))] H_2 := hP
  have hD : va_D A [(oa, .inr (2, [.int 0, .int 0, .int 0, .null, .int 0, .int 0, .null, .null, .null, .int 0, .null, .int 0, .null, .null, .long 0, .int 0, .null, .null, .null, .null])), (q_1, .inl (cA_3, 12, .inl (fun _ => 0)))] := hD
  refine W.widen (k := 1) (n := 12) (Nat.le_of_ble_eq_true rfl) (Nat.le_of_ble_eq_true rfl) ?_
  refine va_putF (D := D) (ci := 2) (v := .ref q_1) (ty := .array .int) (C := RX2) (T := TX2) (N := 20) hx hb hg inG2 tyX2 tyX2_ok nmX2 hown hK hP hD hS 0 rfl rfl 3 (by decide) (hg _ wd_84) (fun _ h9 => h9) rfl hin rfl (by decide +kernel) rfl rfl (Nat.le_of_ble_eq_true rfl) dX2_init_9 (fun H_4 locs hP hD hS => ?_)
  have hP : va_P D vwCl [(oa, .inr (2, [.int 0, .int 0, .int 0, .ref q_1, .int 0, .int 0, .null, .null, .null, .int 0, .null, .int 0, .null, .null, .long 0, .int 0, .null, .null, .null, .null])), (q_1, .inl (cA_3, 12, .inl (fun _ => 0)))] H_4 := hP
  have hD : va_D A [(oa, .inr (2, [.int 0, .int 0, .int 0, .ref q_1, .int 0, .int 0, .null, .null, .null, .int 0, .null, .int 0, .null, .null, .long 0, .int 0, .null, .null, .null, .null])), (q_1, .inl (cA_3, 12, .inl (fun _ => 0)))] := hD
  refine lv_aload_n hx hb dX2_init_12 rfl (lv_at hl 0 rfl) ?_
  refine lv_bipush (v := 6) hx hb dX2_init_13 (by decide) ?_
  refine va_newa (atype := .int) (ty := .int) (a0 := (6, .inl (fun _ => 0))) hx hb (hg _ wd_531) rfl hK hP hD hS hA (fun cA => rfl) (by decide) (by decide) (Nat.le_of_ble_eq_true rfl) (Nat.le_of_ble_eq_true rfl) (Nat.le_of_ble_eq_true rfl) dX2_init_15 (fun q_5 cA_7 H_6 hK hP hD hS => ?_)
  have hK : va_K D vwCl [(cA_3, .int), (cA_7, .int)] s := hK
  have hP : va_P D vwCl [(oa, .inr (2, [.int 0, .int 0, .int 0, .ref q_1, .int 0, .int 0, .null, .null, .null, .int 0, .null, .int 0, .null, .null, .long 0, .int 0, .null, .null, .null, .null])), (q_1, .inl (cA_3, 12, .inl (fun _ => 0))), (q_5, .inl (cA_7, 6, .inl (fun _ => 0)))] H_6 := hP
  have hD : va_D A [(oa, .inr (2, [.int 0, .int 0, .int 0, .ref q_1, .int 0, .int 0, .null, .null, .null, .int 0, .null, .int 0, .null, .null, .long 0, .int 0, .null, .null, .null, .null])), (q_1, .inl (cA_3, 12, .inl (fun _ => 0))), (q_5, .inl (cA_7, 6, .inl (fun _ => 0)))] := hD
  refine W.widen (k := 2) (n := 18) (Nat.le_of_ble_eq_true rfl) (Nat.le_of_ble_eq_true rfl) ?_
  refine va_putF (D := D) (ci := 2) (v := .ref q_5) (ty := .array .int) (C := RX2) (T := TX2) (N := 20) hx hb hg inG2 tyX2 tyX2_ok nmX2 hown hK hP hD hS 0 rfl rfl 6 (by decide) (hg _ wd_598) (fun _ h9 => h9) rfl hin rfl (by decide +kernel) rfl rfl (Nat.le_of_ble_eq_true rfl) dX2_init_17 (fun H_8 locs hP hD hS => ?_)
  have hP : va_P D vwCl [(oa, .inr (2, [.int 0, .int 0, .int 0, .ref q_1, .int 0, .int 0, .ref q_5, .null, .null, .int 0, .null, .int 0, .null, .null, .long 0, .int 0, .null, .null, .null, .null])), (q_1, .inl (cA_3, 12, .inl (fun _ => 0))), (q_5, .inl (cA_7, 6, .inl (fun _ => 0)))] H_8 := hP
  have hD : va_D A [(oa, .inr (2, [.int 0, .int 0, .int 0, .ref q_1, .int 0, .int 0, .ref q_5, .null, .null, .int 0, .null, .int 0, .null, .null, .long 0, .int 0, .null, .null, .null, .null])), (q_1, .inl (cA_3, 12, .inl (fun _ => 0))), (q_5, .inl (cA_7, 6, .inl (fun _ => 0)))] := hD
  refine lv_aload_n hx hb dX2_init_20 rfl (lv_at hl 0 rfl) ?_
  refine lv_bipush (v := 6) hx hb dX2_init_21 (by decide) ?_
  refine va_newq (C := RX9) (N' := 6) hx hb hown (hg _ wd_542) (hN.ao RX9 62 rfl) hK hP hD hS hA (by decide) (by decide) (Nat.le_of_ble_eq_true rfl) (Nat.le_of_ble_eq_true rfl) (Nat.le_of_ble_eq_true rfl) dX2_init_23 (fun q_9 cA_11 H_10 hK hP hD hS => ?_)
  have hK : va_K D vwCl [(cA_3, .int), (cA_7, .int), (cA_11, .object RX9)] s := hK
  have hP : va_P D vwCl [(oa, .inr (2, [.int 0, .int 0, .int 0, .ref q_1, .int 0, .int 0, .ref q_5, .null, .null, .int 0, .null, .int 0, .null, .null, .long 0, .int 0, .null, .null, .null, .null])), (q_1, .inl (cA_3, 12, .inl (fun _ => 0))), (q_5, .inl (cA_7, 6, .inl (fun _ => 0))), (q_9, .inl (cA_11, 6, .inr (.inr (.inr (.inr (fun _ => none))))))] H_10 := hP
  have hD : va_D A [(oa, .inr (2, [.int 0, .int 0, .int 0, .ref q_1, .int 0, .int 0, .ref q_5, .null, .null, .int 0, .null, .int 0, .null, .null, .long 0, .int 0, .null, .null, .null, .null])), (q_1, .inl (cA_3, 12, .inl (fun _ => 0))), (q_5, .inl (cA_7, 6, .inl (fun _ => 0))), (q_9, .inl (cA_11, 6, .inr (.inr (.inr (.inr (fun _ => none))))))] := hD
  refine W.widen (k := 3) (n := 24) (Nat.le_of_ble_eq_true rfl) (Nat.le_of_ble_eq_true rfl) ?_
  refine va_putF (D := D) (ci := 2) (v := .ref q_9) (ty := .array (.object "PartnersBook$Tenure")) (C := RX2) (T := TX2) (N := 20) hx hb hg inG2 tyX2 tyX2_ok nmX2 hown hK hP hD hS 0 rfl rfl 7 (by decide) (hg _ wd_48) (fun _ h9 => h9) rfl hin rfl (by decide +kernel) rfl rfl (Nat.le_of_ble_eq_true rfl) dX2_init_26 (fun H_12 locs hP hD hS => ?_)
  have hP : va_P D vwCl [(oa, .inr (2, [.int 0, .int 0, .int 0, .ref q_1, .int 0, .int 0, .ref q_5, .ref q_9, .null, .int 0, .null, .int 0, .null, .null, .long 0, .int 0, .null, .null, .null, .null])), (q_1, .inl (cA_3, 12, .inl (fun _ => 0))), (q_5, .inl (cA_7, 6, .inl (fun _ => 0))), (q_9, .inl (cA_11, 6, .inr (.inr (.inr (.inr (fun _ => none))))))] H_12 := hP
  have hD : va_D A [(oa, .inr (2, [.int 0, .int 0, .int 0, .ref q_1, .int 0, .int 0, .ref q_5, .ref q_9, .null, .int 0, .null, .int 0, .null, .null, .long 0, .int 0, .null, .null, .null, .null])), (q_1, .inl (cA_3, 12, .inl (fun _ => 0))), (q_5, .inl (cA_7, 6, .inl (fun _ => 0))), (q_9, .inl (cA_11, 6, .inr (.inr (.inr (.inr (fun _ => none))))))] := hD
  refine lv_aload_n hx hb dX2_init_29 rfl (lv_at hl 0 rfl) ?_
  refine lv_bipush (v := 24) hx hb dX2_init_30 (by decide) ?_
  refine va_newq (C := RX9) (N' := 24) hx hb hown (hg _ wd_542) (hN.ao RX9 62 rfl) hK hP hD hS hA (by decide) (by decide) (Nat.le_of_ble_eq_true rfl) (Nat.le_of_ble_eq_true rfl) (Nat.le_of_ble_eq_true rfl) dX2_init_32 (fun q_13 cA_15 H_14 hK hP hD hS => ?_)
  have hK : va_K D vwCl [(cA_3, .int), (cA_7, .int), (cA_11, .object RX9), (cA_15, .object RX9)] s := hK
  have hP : va_P D vwCl [(oa, .inr (2, [.int 0, .int 0, .int 0, .ref q_1, .int 0, .int 0, .ref q_5, .ref q_9, .null, .int 0, .null, .int 0, .null, .null, .long 0, .int 0, .null, .null, .null, .null])), (q_1, .inl (cA_3, 12, .inl (fun _ => 0))), (q_5, .inl (cA_7, 6, .inl (fun _ => 0))), (q_9, .inl (cA_11, 6, .inr (.inr (.inr (.inr (fun _ => none)))))), (q_13, .inl (cA_15, 24, .inr (.inr (.inr (.inr (fun _ => none))))))] H_14 := hP
  have hD : va_D A [(oa, .inr (2, [.int 0, .int 0, .int 0, .ref q_1, .int 0, .int 0, .ref q_5, .ref q_9, .null, .int 0, .null, .int 0, .null, .null, .long 0, .int 0, .null, .null, .null, .null])), (q_1, .inl (cA_3, 12, .inl (fun _ => 0))), (q_5, .inl (cA_7, 6, .inl (fun _ => 0))), (q_9, .inl (cA_11, 6, .inr (.inr (.inr (.inr (fun _ => none)))))), (q_13, .inl (cA_15, 24, .inr (.inr (.inr (.inr (fun _ => none))))))] := hD
  refine W.widen (k := 4) (n := 48) (Nat.le_of_ble_eq_true rfl) (Nat.le_of_ble_eq_true rfl) ?_
  refine va_putF (D := D) (ci := 2) (v := .ref q_13) (ty := .array (.object "PartnersBook$Tenure")) (C := RX2) (T := TX2) (N := 20) hx hb hg inG2 tyX2 tyX2_ok nmX2 hown hK hP hD hS 0 rfl rfl 8 (by decide) (hg _ wd_45) (fun _ h9 => h9) rfl hin rfl (by decide +kernel) rfl rfl (Nat.le_of_ble_eq_true rfl) dX2_init_35 (fun H_16 locs hP hD hS => ?_)
  have hP : va_P D vwCl [(oa, .inr (2, [.int 0, .int 0, .int 0, .ref q_1, .int 0, .int 0, .ref q_5, .ref q_9, .ref q_13, .int 0, .null, .int 0, .null, .null, .long 0, .int 0, .null, .null, .null, .null])), (q_1, .inl (cA_3, 12, .inl (fun _ => 0))), (q_5, .inl (cA_7, 6, .inl (fun _ => 0))), (q_9, .inl (cA_11, 6, .inr (.inr (.inr (.inr (fun _ => none)))))), (q_13, .inl (cA_15, 24, .inr (.inr (.inr (.inr (fun _ => none))))))] H_16 := hP
  have hD : va_D A [(oa, .inr (2, [.int 0, .int 0, .int 0, .ref q_1, .int 0, .int 0, .ref q_5, .ref q_9, .ref q_13, .int 0, .null, .int 0, .null, .null, .long 0, .int 0, .null, .null, .null, .null])), (q_1, .inl (cA_3, 12, .inl (fun _ => 0))), (q_5, .inl (cA_7, 6, .inl (fun _ => 0))), (q_9, .inl (cA_11, 6, .inr (.inr (.inr (.inr (fun _ => none)))))), (q_13, .inl (cA_15, 24, .inr (.inr (.inr (.inr (fun _ => none))))))] := hD
  refine lv_aload_n hx hb dX2_init_38 rfl (lv_at hl 0 rfl) ?_
  refine lv_bipush (v := 16) hx hb dX2_init_39 (by decide) ?_
  refine va_newq (C := RX6) (N' := 16) hx hb hown (hg _ wd_599) (hN.ao RX6 63 rfl) hK hP hD hS hA (by decide) (by decide) (Nat.le_of_ble_eq_true rfl) (Nat.le_of_ble_eq_true rfl) (Nat.le_of_ble_eq_true rfl) dX2_init_41 (fun q_17 cA_19 H_18 hK hP hD hS => ?_)
  have hK : va_K D vwCl [(cA_3, .int), (cA_7, .int), (cA_11, .object RX9), (cA_15, .object RX9), (cA_19, .object RX6)] s := hK
  have hP : va_P D vwCl [(oa, .inr (2, [.int 0, .int 0, .int 0, .ref q_1, .int 0, .int 0, .ref q_5, .ref q_9, .ref q_13, .int 0, .null, .int 0, .null, .null, .long 0, .int 0, .null, .null, .null, .null])), (q_1, .inl (cA_3, 12, .inl (fun _ => 0))), (q_5, .inl (cA_7, 6, .inl (fun _ => 0))), (q_9, .inl (cA_11, 6, .inr (.inr (.inr (.inr (fun _ => none)))))), (q_13, .inl (cA_15, 24, .inr (.inr (.inr (.inr (fun _ => none)))))), (q_17, .inl (cA_19, 16, .inr (.inr (.inr (.inr (fun _ => none))))))] H_18 := hP
  have hD : va_D A [(oa, .inr (2, [.int 0, .int 0, .int 0, .ref q_1, .int 0, .int 0, .ref q_5, .ref q_9, .ref q_13, .int 0, .null, .int 0, .null, .null, .long 0, .int 0, .null, .null, .null, .null])), (q_1, .inl (cA_3, 12, .inl (fun _ => 0))), (q_5, .inl (cA_7, 6, .inl (fun _ => 0))), (q_9, .inl (cA_11, 6, .inr (.inr (.inr (.inr (fun _ => none)))))), (q_13, .inl (cA_15, 24, .inr (.inr (.inr (.inr (fun _ => none)))))), (q_17, .inl (cA_19, 16, .inr (.inr (.inr (.inr (fun _ => none))))))] := hD
  refine W.widen (k := 5) (n := 64) (Nat.le_of_ble_eq_true rfl) (Nat.le_of_ble_eq_true rfl) ?_
  refine va_putF (D := D) (ci := 2) (v := .ref q_17) (ty := .array (.object "PartnersBook$Rule")) (C := RX2) (T := TX2) (N := 20) hx hb hg inG2 tyX2 tyX2_ok nmX2 hown hK hP hD hS 0 rfl rfl 10 (by decide) (hg _ wd_67) (fun _ h9 => h9) rfl hin rfl (by decide +kernel) rfl rfl (Nat.le_of_ble_eq_true rfl) dX2_init_44 (fun H_20 locs hP hD hS => ?_)
  have hP : va_P D vwCl [(oa, .inr (2, [.int 0, .int 0, .int 0, .ref q_1, .int 0, .int 0, .ref q_5, .ref q_9, .ref q_13, .int 0, .ref q_17, .int 0, .null, .null, .long 0, .int 0, .null, .null, .null, .null])), (q_1, .inl (cA_3, 12, .inl (fun _ => 0))), (q_5, .inl (cA_7, 6, .inl (fun _ => 0))), (q_9, .inl (cA_11, 6, .inr (.inr (.inr (.inr (fun _ => none)))))), (q_13, .inl (cA_15, 24, .inr (.inr (.inr (.inr (fun _ => none)))))), (q_17, .inl (cA_19, 16, .inr (.inr (.inr (.inr (fun _ => none))))))] H_20 := hP
  have hD : va_D A [(oa, .inr (2, [.int 0, .int 0, .int 0, .ref q_1, .int 0, .int 0, .ref q_5, .ref q_9, .ref q_13, .int 0, .ref q_17, .int 0, .null, .null, .long 0, .int 0, .null, .null, .null, .null])), (q_1, .inl (cA_3, 12, .inl (fun _ => 0))), (q_5, .inl (cA_7, 6, .inl (fun _ => 0))), (q_9, .inl (cA_11, 6, .inr (.inr (.inr (.inr (fun _ => none)))))), (q_13, .inl (cA_15, 24, .inr (.inr (.inr (.inr (fun _ => none)))))), (q_17, .inl (cA_19, 16, .inr (.inr (.inr (.inr (fun _ => none))))))] := hD
  refine lv_aload_n hx hb dX2_init_47 rfl (lv_at hl 0 rfl) ?_
  refine lv_sipush (v := 1000) hx hb dX2_init_48 (by decide) ?_
  refine va_newq (C := RX3) (N' := 1000) hx hb hown (hg _ wd_600) (hN.ao RX3 64 rfl) hK hP hD hS hA (by decide) (by decide) (Nat.le_of_ble_eq_true rfl) (Nat.le_of_ble_eq_true rfl) (Nat.le_of_ble_eq_true rfl) dX2_init_51 (fun q_21 cA_23 H_22 hK hP hD hS => ?_)
  have hK : va_K D vwCl [(cA_3, .int), (cA_7, .int), (cA_11, .object RX9), (cA_15, .object RX9), (cA_19, .object RX6), (cA_23, .object RX3)] s := hK
  have hP : va_P D vwCl [(oa, .inr (2, [.int 0, .int 0, .int 0, .ref q_1, .int 0, .int 0, .ref q_5, .ref q_9, .ref q_13, .int 0, .ref q_17, .int 0, .null, .null, .long 0, .int 0, .null, .null, .null, .null])), (q_1, .inl (cA_3, 12, .inl (fun _ => 0))), (q_5, .inl (cA_7, 6, .inl (fun _ => 0))), (q_9, .inl (cA_11, 6, .inr (.inr (.inr (.inr (fun _ => none)))))), (q_13, .inl (cA_15, 24, .inr (.inr (.inr (.inr (fun _ => none)))))), (q_17, .inl (cA_19, 16, .inr (.inr (.inr (.inr (fun _ => none)))))), (q_21, .inl (cA_23, 1000, .inr (.inr (.inr (.inr (fun _ => none))))))] H_22 := hP
  have hD : va_D A [(oa, .inr (2, [.int 0, .int 0, .int 0, .ref q_1, .int 0, .int 0, .ref q_5, .ref q_9, .ref q_13, .int 0, .ref q_17, .int 0, .null, .null, .long 0, .int 0, .null, .null, .null, .null])), (q_1, .inl (cA_3, 12, .inl (fun _ => 0))), (q_5, .inl (cA_7, 6, .inl (fun _ => 0))), (q_9, .inl (cA_11, 6, .inr (.inr (.inr (.inr (fun _ => none)))))), (q_13, .inl (cA_15, 24, .inr (.inr (.inr (.inr (fun _ => none)))))), (q_17, .inl (cA_19, 16, .inr (.inr (.inr (.inr (fun _ => none)))))), (q_21, .inl (cA_23, 1000, .inr (.inr (.inr (.inr (fun _ => none))))))] := hD
  refine W.widen (k := 6) (n := 1064) (Nat.le_of_ble_eq_true rfl) (Nat.le_of_ble_eq_true rfl) ?_
  refine va_putF (D := D) (ci := 2) (v := .ref q_21) (ty := .array (.object "PartnersBook$Leaf")) (C := RX2) (T := TX2) (N := 20) hx hb hg inG2 tyX2 tyX2_ok nmX2 hown hK hP hD hS 0 rfl rfl 12 (by decide) (hg _ wd_69) (fun _ h9 => h9) rfl hin rfl (by decide +kernel) rfl rfl (Nat.le_of_ble_eq_true rfl) dX2_init_54 (fun H_24 locs hP hD hS => ?_)
  have hP : va_P D vwCl [(oa, .inr (2, [.int 0, .int 0, .int 0, .ref q_1, .int 0, .int 0, .ref q_5, .ref q_9, .ref q_13, .int 0, .ref q_17, .int 0, .ref q_21, .null, .long 0, .int 0, .null, .null, .null, .null])), (q_1, .inl (cA_3, 12, .inl (fun _ => 0))), (q_5, .inl (cA_7, 6, .inl (fun _ => 0))), (q_9, .inl (cA_11, 6, .inr (.inr (.inr (.inr (fun _ => none)))))), (q_13, .inl (cA_15, 24, .inr (.inr (.inr (.inr (fun _ => none)))))), (q_17, .inl (cA_19, 16, .inr (.inr (.inr (.inr (fun _ => none)))))), (q_21, .inl (cA_23, 1000, .inr (.inr (.inr (.inr (fun _ => none))))))] H_24 := hP
  have hD : va_D A [(oa, .inr (2, [.int 0, .int 0, .int 0, .ref q_1, .int 0, .int 0, .ref q_5, .ref q_9, .ref q_13, .int 0, .ref q_17, .int 0, .ref q_21, .null, .long 0, .int 0, .null, .null, .null, .null])), (q_1, .inl (cA_3, 12, .inl (fun _ => 0))), (q_5, .inl (cA_7, 6, .inl (fun _ => 0))), (q_9, .inl (cA_11, 6, .inr (.inr (.inr (.inr (fun _ => none)))))), (q_13, .inl (cA_15, 24, .inr (.inr (.inr (.inr (fun _ => none)))))), (q_17, .inl (cA_19, 16, .inr (.inr (.inr (.inr (fun _ => none)))))), (q_21, .inl (cA_23, 1000, .inr (.inr (.inr (.inr (fun _ => none))))))] := hD
  refine lv_aload_n hx hb dX2_init_57 rfl (lv_at hl 0 rfl) ?_
  refine lv_sipush (v := 1000) hx hb dX2_init_58 (by decide) ?_
  refine va_newa (atype := .long) (ty := .long) (a0 := (1000, .inr (.inl (fun _ => 0)))) hx hb (hg _ wd_527) rfl hK hP hD hS hA (fun cA => rfl) (by decide) (by decide) (Nat.le_of_ble_eq_true rfl) (Nat.le_of_ble_eq_true rfl) (Nat.le_of_ble_eq_true rfl) dX2_init_61 (fun q_25 cA_27 H_26 hK hP hD hS => ?_)
  have hK : va_K D vwCl [(cA_3, .int), (cA_7, .int), (cA_11, .object RX9), (cA_15, .object RX9), (cA_19, .object RX6), (cA_23, .object RX3), (cA_27, .long)] s := hK
  have hP : va_P D vwCl [(oa, .inr (2, [.int 0, .int 0, .int 0, .ref q_1, .int 0, .int 0, .ref q_5, .ref q_9, .ref q_13, .int 0, .ref q_17, .int 0, .ref q_21, .null, .long 0, .int 0, .null, .null, .null, .null])), (q_1, .inl (cA_3, 12, .inl (fun _ => 0))), (q_5, .inl (cA_7, 6, .inl (fun _ => 0))), (q_9, .inl (cA_11, 6, .inr (.inr (.inr (.inr (fun _ => none)))))), (q_13, .inl (cA_15, 24, .inr (.inr (.inr (.inr (fun _ => none)))))), (q_17, .inl (cA_19, 16, .inr (.inr (.inr (.inr (fun _ => none)))))), (q_21, .inl (cA_23, 1000, .inr (.inr (.inr (.inr (fun _ => none)))))), (q_25, .inl (cA_27, 1000, .inr (.inl (fun _ => 0))))] H_26 := hP
  have hD : va_D A [(oa, .inr (2, [.int 0, .int 0, .int 0, .ref q_1, .int 0, .int 0, .ref q_5, .ref q_9, .ref q_13, .int 0, .ref q_17, .int 0, .ref q_21, .null, .long 0, .int 0, .null, .null, .null, .null])), (q_1, .inl (cA_3, 12, .inl (fun _ => 0))), (q_5, .inl (cA_7, 6, .inl (fun _ => 0))), (q_9, .inl (cA_11, 6, .inr (.inr (.inr (.inr (fun _ => none)))))), (q_13, .inl (cA_15, 24, .inr (.inr (.inr (.inr (fun _ => none)))))), (q_17, .inl (cA_19, 16, .inr (.inr (.inr (.inr (fun _ => none)))))), (q_21, .inl (cA_23, 1000, .inr (.inr (.inr (.inr (fun _ => none)))))), (q_25, .inl (cA_27, 1000, .inr (.inl (fun _ => 0))))] := hD
  refine W.widen (k := 7) (n := 2064) (Nat.le_of_ble_eq_true rfl) (Nat.le_of_ble_eq_true rfl) ?_
  refine va_putF (D := D) (ci := 2) (v := .ref q_25) (ty := .array .long) (C := RX2) (T := TX2) (N := 20) hx hb hg inG2 tyX2 tyX2_ok nmX2 hown hK hP hD hS 0 rfl rfl 13 (by decide) (hg _ wd_102) (fun _ h9 => h9) rfl hin rfl (by decide +kernel) rfl rfl (Nat.le_of_ble_eq_true rfl) dX2_init_63 (fun H_28 locs hP hD hS => ?_)
  have hP : va_P D vwCl [(oa, .inr (2, [.int 0, .int 0, .int 0, .ref q_1, .int 0, .int 0, .ref q_5, .ref q_9, .ref q_13, .int 0, .ref q_17, .int 0, .ref q_21, .ref q_25, .long 0, .int 0, .null, .null, .null, .null])), (q_1, .inl (cA_3, 12, .inl (fun _ => 0))), (q_5, .inl (cA_7, 6, .inl (fun _ => 0))), (q_9, .inl (cA_11, 6, .inr (.inr (.inr (.inr (fun _ => none)))))), (q_13, .inl (cA_15, 24, .inr (.inr (.inr (.inr (fun _ => none)))))), (q_17, .inl (cA_19, 16, .inr (.inr (.inr (.inr (fun _ => none)))))), (q_21, .inl (cA_23, 1000, .inr (.inr (.inr (.inr (fun _ => none)))))), (q_25, .inl (cA_27, 1000, .inr (.inl (fun _ => 0))))] H_28 := hP
  have hD : va_D A [(oa, .inr (2, [.int 0, .int 0, .int 0, .ref q_1, .int 0, .int 0, .ref q_5, .ref q_9, .ref q_13, .int 0, .ref q_17, .int 0, .ref q_21, .ref q_25, .long 0, .int 0, .null, .null, .null, .null])), (q_1, .inl (cA_3, 12, .inl (fun _ => 0))), (q_5, .inl (cA_7, 6, .inl (fun _ => 0))), (q_9, .inl (cA_11, 6, .inr (.inr (.inr (.inr (fun _ => none)))))), (q_13, .inl (cA_15, 24, .inr (.inr (.inr (.inr (fun _ => none)))))), (q_17, .inl (cA_19, 16, .inr (.inr (.inr (.inr (fun _ => none)))))), (q_21, .inl (cA_23, 1000, .inr (.inr (.inr (.inr (fun _ => none)))))), (q_25, .inl (cA_27, 1000, .inr (.inl (fun _ => 0))))] := hD
  refine lv_aload_n hx hb dX2_init_66 rfl (lv_at hl 0 rfl) ?_
  refine va_new (ci := 1) (fs := [.null, .null, .null, .int 0]) (C := RX1) (T := TX1) (N := 4) hx hb hg inG1 tyX1 tyX1_ok hown (hg _ wd_601) (hg _ wd_602) (hg _ wd_123) hK hP hD hS hA rfl dfX1 (Nat.le_of_ble_eq_true rfl) (Nat.le_of_ble_eq_true rfl) dX2_init_67 (fun q_29 H_30 hP hD hS => ?_)
  have hP : va_P D vwCl [(oa, .inr (2, [.int 0, .int 0, .int 0, .ref q_1, .int 0, .int 0, .ref q_5, .ref q_9, .ref q_13, .int 0, .ref q_17, .int 0, .ref q_21, .ref q_25, .long 0, .int 0, .null, .null, .null, .null])), (q_1, .inl (cA_3, 12, .inl (fun _ => 0))), (q_5, .inl (cA_7, 6, .inl (fun _ => 0))), (q_9, .inl (cA_11, 6, .inr (.inr (.inr (.inr (fun _ => none)))))), (q_13, .inl (cA_15, 24, .inr (.inr (.inr (.inr (fun _ => none)))))), (q_17, .inl (cA_19, 16, .inr (.inr (.inr (.inr (fun _ => none)))))), (q_21, .inl (cA_23, 1000, .inr (.inr (.inr (.inr (fun _ => none)))))), (q_25, .inl (cA_27, 1000, .inr (.inl (fun _ => 0)))), (q_29, .inr (1, [.null, .null, .null, .int 0]))] H_30 := hP
  have hD : va_D A [(oa, .inr (2, [.int 0, .int 0, .int 0, .ref q_1, .int 0, .int 0, .ref q_5, .ref q_9, .ref q_13, .int 0, .ref q_17, .int 0, .ref q_21, .ref q_25, .long 0, .int 0, .null, .null, .null, .null])), (q_1, .inl (cA_3, 12, .inl (fun _ => 0))), (q_5, .inl (cA_7, 6, .inl (fun _ => 0))), (q_9, .inl (cA_11, 6, .inr (.inr (.inr (.inr (fun _ => none)))))), (q_13, .inl (cA_15, 24, .inr (.inr (.inr (.inr (fun _ => none)))))), (q_17, .inl (cA_19, 16, .inr (.inr (.inr (.inr (fun _ => none)))))), (q_21, .inl (cA_23, 1000, .inr (.inr (.inr (.inr (fun _ => none)))))), (q_25, .inl (cA_27, 1000, .inr (.inl (fun _ => 0)))), (q_29, .inr (1, [.null, .null, .null, .int 0]))] := hD
  refine W.widen (k := 8) (n := 2068) (Nat.le_of_ble_eq_true rfl) (Nat.le_of_ble_eq_true rfl) ?_
  refine lv_dup hx hb dX2_init_70 rfl ?_
  refine lv_bipush (v := 120) hx hb dX2_init_71 (by decide) ?_
  have hPc := hP.sub (ws' := [(q_29, .inr (1, [.null, .null, .null, .int 0]))]) [8] rfl
  have hDc := hD.sub (ws' := [(q_29, .inr (1, [.null, .null, .null, .int 0]))]) [8] (by decide) rfl
  have hKc := hK.sub (tys' := []) [] rfl
  have hFc := va_free (wc := [(q_29, .inr (1, [.null, .null, .null, .int 0]))]) hD hS hA [8] rfl
  refine va_callv (va_runI (As := [.int 120]) (rest := [.ref q_29, .ref oa]) ⟨hx, hb, hml, hown, hg⟩ (k_Days_120 l D H_30.size q_29) (cwI 1 hg (gB wd_603) rfl rfl rfl (hg _ wd_123) (hg _ wd_604) (hg _ wd_605) rfl (by decide +kernel) ⟨(Nat.le_of_ble_eq_true rfl), (Nat.le_of_ble_eq_true rfl)⟩) ⟨Pr.blind, fun U hU hW => ⟨rfl, Pr.at hPc hKc hDc hN hU hW⟩⟩ rfl rfl hl.1 rfl (lv_room (Nat.le_of_ble_eq_true rfl)) dX2_init_73 ⟨(Nat.le_of_ble_eq_true rfl), (Nat.le_of_ble_eq_true rfl)⟩) hS (fun q _ h => hFc q h) hFc (fun u t H_31 locs ht hvm hw hB hz1 hk1 hS => ?_)
  obtain ⟨e0_33, e1_34, e2_35, c0_36, c1_37, c2_38, hP1, hK1, hD1⟩ := hB
  rw [ht] at hP1
  have hK1 := va_K.moved hvm.symm hK1
  obtain ⟨hP, hD⟩ := va_join (wr := [(oa, .inr (2, [.int 0, .int 0, .int 0, .ref q_1, .int 0, .int 0, .ref q_5, .ref q_9, .ref q_13, .int 0, .ref q_17, .int 0, .ref q_21, .ref q_25, .long 0, .int 0, .null, .null, .null, .null])), (q_1, .inl (cA_3, 12, .inl (fun _ => 0))), (q_5, .inl (cA_7, 6, .inl (fun _ => 0))), (q_9, .inl (cA_11, 6, .inr (.inr (.inr (.inr (fun _ => none)))))), (q_13, .inl (cA_15, 24, .inr (.inr (.inr (.inr (fun _ => none)))))), (q_17, .inl (cA_19, 16, .inr (.inr (.inr (.inr (fun _ => none)))))), (q_21, .inl (cA_23, 1000, .inr (.inr (.inr (.inr (fun _ => none)))))), (q_25, .inl (cA_27, 1000, .inr (.inl (fun _ => 0))))]) (w1 := [(q_29, (b1_4 e0_33 e1_34 e2_35 0)), (e0_33, .inl (c0_36, 120, .inr (.inr (.inr (.inr (fun _ => none)))))), (e1_34, .inl (c1_37, 120, .inl (fun _ => 0))), (e2_35, .inl (c2_38, 120, .inl (fun _ => 0)))]) hP hD [8] [0, 1, 2, 3, 4, 5, 6, 7] rfl rfl (by decide) (by decide) hk1 hFc hP1 hD1
  have hK := hK.app hK1
  have hK : va_K D vwCl [(cA_3, .int), (cA_7, .int), (cA_11, .object RX9), (cA_15, .object RX9), (cA_19, .object RX6), (cA_23, .object RX3), (cA_27, .long), (c0_36, .object RX9), (c1_37, .int), (c2_38, .int)] s := hK
  have hP : va_P D vwCl [(oa, .inr (2, [.int 0, .int 0, .int 0, .ref q_1, .int 0, .int 0, .ref q_5, .ref q_9, .ref q_13, .int 0, .ref q_17, .int 0, .ref q_21, .ref q_25, .long 0, .int 0, .null, .null, .null, .null])), (q_1, .inl (cA_3, 12, .inl (fun _ => 0))), (q_5, .inl (cA_7, 6, .inl (fun _ => 0))), (q_9, .inl (cA_11, 6, .inr (.inr (.inr (.inr (fun _ => none)))))), (q_13, .inl (cA_15, 24, .inr (.inr (.inr (.inr (fun _ => none)))))), (q_17, .inl (cA_19, 16, .inr (.inr (.inr (.inr (fun _ => none)))))), (q_21, .inl (cA_23, 1000, .inr (.inr (.inr (.inr (fun _ => none)))))), (q_25, .inl (cA_27, 1000, .inr (.inl (fun _ => 0)))), (q_29, (b1_4 e0_33 e1_34 e2_35 0)), (e0_33, .inl (c0_36, 120, .inr (.inr (.inr (.inr (fun _ => none)))))), (e1_34, .inl (c1_37, 120, .inl (fun _ => 0))), (e2_35, .inl (c2_38, 120, .inl (fun _ => 0)))] H_31 := hP
  have hD : va_D A [(oa, .inr (2, [.int 0, .int 0, .int 0, .ref q_1, .int 0, .int 0, .ref q_5, .ref q_9, .ref q_13, .int 0, .ref q_17, .int 0, .ref q_21, .ref q_25, .long 0, .int 0, .null, .null, .null, .null])), (q_1, .inl (cA_3, 12, .inl (fun _ => 0))), (q_5, .inl (cA_7, 6, .inl (fun _ => 0))), (q_9, .inl (cA_11, 6, .inr (.inr (.inr (.inr (fun _ => none)))))), (q_13, .inl (cA_15, 24, .inr (.inr (.inr (.inr (fun _ => none)))))), (q_17, .inl (cA_19, 16, .inr (.inr (.inr (.inr (fun _ => none)))))), (q_21, .inl (cA_23, 1000, .inr (.inr (.inr (.inr (fun _ => none)))))), (q_25, .inl (cA_27, 1000, .inr (.inl (fun _ => 0)))), (q_29, (b1_4 e0_33 e1_34 e2_35 0)), (e0_33, .inl (c0_36, 120, .inr (.inr (.inr (.inr (fun _ => none)))))), (e1_34, .inl (c1_37, 120, .inl (fun _ => 0))), (e2_35, .inl (c2_38, 120, .inl (fun _ => 0)))] := hD
  refine W.widen (k := 11) (n := 2428) (Nat.le_of_ble_eq_true rfl) (Nat.le_of_ble_eq_true rfl) ?_
  refine va_putF (D := D) (ci := 2) (v := .ref q_29) (ty := .object "PartnersBook$DaySums") (C := RX2) (T := TX2) (N := 20) hx hb hg inG2 tyX2 tyX2_ok nmX2 hown hK hP hD hS 0 rfl rfl 16 (by decide) (hg _ wd_321) (fun _ h9 => h9) rfl hin rfl (by decide +kernel) rfl rfl (Nat.le_of_ble_eq_true rfl) dX2_init_76 (fun H_39 locs hP hD hS => ?_)
  have hP : va_P D vwCl [(oa, .inr (2, [.int 0, .int 0, .int 0, .ref q_1, .int 0, .int 0, .ref q_5, .ref q_9, .ref q_13, .int 0, .ref q_17, .int 0, .ref q_21, .ref q_25, .long 0, .int 0, .ref q_29, .null, .null, .null])), (q_1, .inl (cA_3, 12, .inl (fun _ => 0))), (q_5, .inl (cA_7, 6, .inl (fun _ => 0))), (q_9, .inl (cA_11, 6, .inr (.inr (.inr (.inr (fun _ => none)))))), (q_13, .inl (cA_15, 24, .inr (.inr (.inr (.inr (fun _ => none)))))), (q_17, .inl (cA_19, 16, .inr (.inr (.inr (.inr (fun _ => none)))))), (q_21, .inl (cA_23, 1000, .inr (.inr (.inr (.inr (fun _ => none)))))), (q_25, .inl (cA_27, 1000, .inr (.inl (fun _ => 0)))), (q_29, (b1_4 e0_33 e1_34 e2_35 0)), (e0_33, .inl (c0_36, 120, .inr (.inr (.inr (.inr (fun _ => none)))))), (e1_34, .inl (c1_37, 120, .inl (fun _ => 0))), (e2_35, .inl (c2_38, 120, .inl (fun _ => 0)))] H_39 := hP
  have hD : va_D A [(oa, .inr (2, [.int 0, .int 0, .int 0, .ref q_1, .int 0, .int 0, .ref q_5, .ref q_9, .ref q_13, .int 0, .ref q_17, .int 0, .ref q_21, .ref q_25, .long 0, .int 0, .ref q_29, .null, .null, .null])), (q_1, .inl (cA_3, 12, .inl (fun _ => 0))), (q_5, .inl (cA_7, 6, .inl (fun _ => 0))), (q_9, .inl (cA_11, 6, .inr (.inr (.inr (.inr (fun _ => none)))))), (q_13, .inl (cA_15, 24, .inr (.inr (.inr (.inr (fun _ => none)))))), (q_17, .inl (cA_19, 16, .inr (.inr (.inr (.inr (fun _ => none)))))), (q_21, .inl (cA_23, 1000, .inr (.inr (.inr (.inr (fun _ => none)))))), (q_25, .inl (cA_27, 1000, .inr (.inl (fun _ => 0)))), (q_29, (b1_4 e0_33 e1_34 e2_35 0)), (e0_33, .inl (c0_36, 120, .inr (.inr (.inr (.inr (fun _ => none)))))), (e1_34, .inl (c1_37, 120, .inl (fun _ => 0))), (e2_35, .inl (c2_38, 120, .inl (fun _ => 0)))] := hD
  refine lv_aload_n hx hb dX2_init_79 rfl (lv_at hl 0 rfl) ?_
  refine va_new (ci := 1) (fs := [.null, .null, .null, .int 0]) (C := RX1) (T := TX1) (N := 4) hx hb hg inG1 tyX1 tyX1_ok hown (hg _ wd_601) (hg _ wd_602) (hg _ wd_123) hK hP hD hS hA rfl dfX1 (Nat.le_of_ble_eq_true rfl) (Nat.le_of_ble_eq_true rfl) dX2_init_80 (fun q_40 H_41 hP hD hS => ?_)
  have hP : va_P D vwCl [(oa, .inr (2, [.int 0, .int 0, .int 0, .ref q_1, .int 0, .int 0, .ref q_5, .ref q_9, .ref q_13, .int 0, .ref q_17, .int 0, .ref q_21, .ref q_25, .long 0, .int 0, .ref q_29, .null, .null, .null])), (q_1, .inl (cA_3, 12, .inl (fun _ => 0))), (q_5, .inl (cA_7, 6, .inl (fun _ => 0))), (q_9, .inl (cA_11, 6, .inr (.inr (.inr (.inr (fun _ => none)))))), (q_13, .inl (cA_15, 24, .inr (.inr (.inr (.inr (fun _ => none)))))), (q_17, .inl (cA_19, 16, .inr (.inr (.inr (.inr (fun _ => none)))))), (q_21, .inl (cA_23, 1000, .inr (.inr (.inr (.inr (fun _ => none)))))), (q_25, .inl (cA_27, 1000, .inr (.inl (fun _ => 0)))), (q_29, (b1_4 e0_33 e1_34 e2_35 0)), (e0_33, .inl (c0_36, 120, .inr (.inr (.inr (.inr (fun _ => none)))))), (e1_34, .inl (c1_37, 120, .inl (fun _ => 0))), (e2_35, .inl (c2_38, 120, .inl (fun _ => 0))), (q_40, .inr (1, [.null, .null, .null, .int 0]))] H_41 := hP
  have hD : va_D A [(oa, .inr (2, [.int 0, .int 0, .int 0, .ref q_1, .int 0, .int 0, .ref q_5, .ref q_9, .ref q_13, .int 0, .ref q_17, .int 0, .ref q_21, .ref q_25, .long 0, .int 0, .ref q_29, .null, .null, .null])), (q_1, .inl (cA_3, 12, .inl (fun _ => 0))), (q_5, .inl (cA_7, 6, .inl (fun _ => 0))), (q_9, .inl (cA_11, 6, .inr (.inr (.inr (.inr (fun _ => none)))))), (q_13, .inl (cA_15, 24, .inr (.inr (.inr (.inr (fun _ => none)))))), (q_17, .inl (cA_19, 16, .inr (.inr (.inr (.inr (fun _ => none)))))), (q_21, .inl (cA_23, 1000, .inr (.inr (.inr (.inr (fun _ => none)))))), (q_25, .inl (cA_27, 1000, .inr (.inl (fun _ => 0)))), (q_29, (b1_4 e0_33 e1_34 e2_35 0)), (e0_33, .inl (c0_36, 120, .inr (.inr (.inr (.inr (fun _ => none)))))), (e1_34, .inl (c1_37, 120, .inl (fun _ => 0))), (e2_35, .inl (c2_38, 120, .inl (fun _ => 0))), (q_40, .inr (1, [.null, .null, .null, .int 0]))] := hD
  refine W.widen (k := 12) (n := 2432) (Nat.le_of_ble_eq_true rfl) (Nat.le_of_ble_eq_true rfl) ?_
  refine lv_dup hx hb dX2_init_83 rfl ?_
  refine lv_bipush (v := 20) hx hb dX2_init_84 (by decide) ?_
  have hPc := hP.sub (ws' := [(q_40, .inr (1, [.null, .null, .null, .int 0]))]) [12] rfl
  have hDc := hD.sub (ws' := [(q_40, .inr (1, [.null, .null, .null, .int 0]))]) [12] (by decide) rfl
  have hKc := hK.sub (tys' := []) [] rfl
  have hFc := va_free (wc := [(q_40, .inr (1, [.null, .null, .null, .int 0]))]) hD hS hA [12] rfl
  refine va_callv (va_runI (As := [.int 20]) (rest := [.ref q_40, .ref oa]) ⟨hx, hb, hml, hown, hg⟩ (k_Days_20 l D H_41.size q_40) (cwI 1 hg (gB wd_603) rfl rfl rfl (hg _ wd_123) (hg _ wd_604) (hg _ wd_605) rfl (by decide +kernel) ⟨(Nat.le_of_ble_eq_true rfl), (Nat.le_of_ble_eq_true rfl)⟩) ⟨Pr.blind, fun U hU hW => ⟨rfl, Pr.at hPc hKc hDc hN hU hW⟩⟩ rfl rfl hl.1 rfl (lv_room (Nat.le_of_ble_eq_true rfl)) dX2_init_86 ⟨(Nat.le_of_ble_eq_true rfl), (Nat.le_of_ble_eq_true rfl)⟩) hS (fun q _ h => hFc q h) hFc (fun u t H_42 locs ht hvm hw hB hz1 hk1 hS => ?_)
  obtain ⟨e0_44, e1_45, e2_46, c0_47, c1_48, c2_49, hP1, hK1, hD1⟩ := hB
  rw [ht] at hP1
  have hK1 := va_K.moved hvm.symm hK1
  obtain ⟨hP, hD⟩ := va_join (wr := [(oa, .inr (2, [.int 0, .int 0, .int 0, .ref q_1, .int 0, .int 0, .ref q_5, .ref q_9, .ref q_13, .int 0, .ref q_17, .int 0, .ref q_21, .ref q_25, .long 0, .int 0, .ref q_29, .null, .null, .null])), (q_1, .inl (cA_3, 12, .inl (fun _ => 0))), (q_5, .inl (cA_7, 6, .inl (fun _ => 0))), (q_9, .inl (cA_11, 6, .inr (.inr (.inr (.inr (fun _ => none)))))), (q_13, .inl (cA_15, 24, .inr (.inr (.inr (.inr (fun _ => none)))))), (q_17, .inl (cA_19, 16, .inr (.inr (.inr (.inr (fun _ => none)))))), (q_21, .inl (cA_23, 1000, .inr (.inr (.inr (.inr (fun _ => none)))))), (q_25, .inl (cA_27, 1000, .inr (.inl (fun _ => 0)))), (q_29, (b1_4 e0_33 e1_34 e2_35 0)), (e0_33, .inl (c0_36, 120, .inr (.inr (.inr (.inr (fun _ => none)))))), (e1_34, .inl (c1_37, 120, .inl (fun _ => 0))), (e2_35, .inl (c2_38, 120, .inl (fun _ => 0)))]) (w1 := [(q_40, (b1_4 e0_44 e1_45 e2_46 0)), (e0_44, .inl (c0_47, 20, .inr (.inr (.inr (.inr (fun _ => none)))))), (e1_45, .inl (c1_48, 20, .inl (fun _ => 0))), (e2_46, .inl (c2_49, 20, .inl (fun _ => 0)))]) hP hD [12] [0, 1, 2, 3, 4, 5, 6, 7, 8, 9, 10, 11] rfl rfl (by decide) (by decide) hk1 hFc hP1 hD1
  have hK := hK.app hK1
  have hK : va_K D vwCl [(cA_3, .int), (cA_7, .int), (cA_11, .object RX9), (cA_15, .object RX9), (cA_19, .object RX6), (cA_23, .object RX3), (cA_27, .long), (c0_36, .object RX9), (c1_37, .int), (c2_38, .int), (c0_47, .object RX9), (c1_48, .int), (c2_49, .int)] s := hK
  have hP : va_P D vwCl [(oa, .inr (2, [.int 0, .int 0, .int 0, .ref q_1, .int 0, .int 0, .ref q_5, .ref q_9, .ref q_13, .int 0, .ref q_17, .int 0, .ref q_21, .ref q_25, .long 0, .int 0, .ref q_29, .null, .null, .null])), (q_1, .inl (cA_3, 12, .inl (fun _ => 0))), (q_5, .inl (cA_7, 6, .inl (fun _ => 0))), (q_9, .inl (cA_11, 6, .inr (.inr (.inr (.inr (fun _ => none)))))), (q_13, .inl (cA_15, 24, .inr (.inr (.inr (.inr (fun _ => none)))))), (q_17, .inl (cA_19, 16, .inr (.inr (.inr (.inr (fun _ => none)))))), (q_21, .inl (cA_23, 1000, .inr (.inr (.inr (.inr (fun _ => none)))))), (q_25, .inl (cA_27, 1000, .inr (.inl (fun _ => 0)))), (q_29, (b1_4 e0_33 e1_34 e2_35 0)), (e0_33, .inl (c0_36, 120, .inr (.inr (.inr (.inr (fun _ => none)))))), (e1_34, .inl (c1_37, 120, .inl (fun _ => 0))), (e2_35, .inl (c2_38, 120, .inl (fun _ => 0))), (q_40, (b1_4 e0_44 e1_45 e2_46 0)), (e0_44, .inl (c0_47, 20, .inr (.inr (.inr (.inr (fun _ => none)))))), (e1_45, .inl (c1_48, 20, .inl (fun _ => 0))), (e2_46, .inl (c2_49, 20, .inl (fun _ => 0)))] H_42 := hP
  have hD : va_D A [(oa, .inr (2, [.int 0, .int 0, .int 0, .ref q_1, .int 0, .int 0, .ref q_5, .ref q_9, .ref q_13, .int 0, .ref q_17, .int 0, .ref q_21, .ref q_25, .long 0, .int 0, .ref q_29, .null, .null, .null])), (q_1, .inl (cA_3, 12, .inl (fun _ => 0))), (q_5, .inl (cA_7, 6, .inl (fun _ => 0))), (q_9, .inl (cA_11, 6, .inr (.inr (.inr (.inr (fun _ => none)))))), (q_13, .inl (cA_15, 24, .inr (.inr (.inr (.inr (fun _ => none)))))), (q_17, .inl (cA_19, 16, .inr (.inr (.inr (.inr (fun _ => none)))))), (q_21, .inl (cA_23, 1000, .inr (.inr (.inr (.inr (fun _ => none)))))), (q_25, .inl (cA_27, 1000, .inr (.inl (fun _ => 0)))), (q_29, (b1_4 e0_33 e1_34 e2_35 0)), (e0_33, .inl (c0_36, 120, .inr (.inr (.inr (.inr (fun _ => none)))))), (e1_34, .inl (c1_37, 120, .inl (fun _ => 0))), (e2_35, .inl (c2_38, 120, .inl (fun _ => 0))), (q_40, (b1_4 e0_44 e1_45 e2_46 0)), (e0_44, .inl (c0_47, 20, .inr (.inr (.inr (.inr (fun _ => none)))))), (e1_45, .inl (c1_48, 20, .inl (fun _ => 0))), (e2_46, .inl (c2_49, 20, .inl (fun _ => 0)))] := hD
  refine W.widen (k := 15) (n := 2492) (Nat.le_of_ble_eq_true rfl) (Nat.le_of_ble_eq_true rfl) ?_
  refine va_putF (D := D) (ci := 2) (v := .ref q_40) (ty := .object "PartnersBook$DaySums") (C := RX2) (T := TX2) (N := 20) hx hb hg inG2 tyX2 tyX2_ok nmX2 hown hK hP hD hS 0 rfl rfl 17 (by decide) (hg _ wd_323) (fun _ h9 => h9) rfl hin rfl (by decide +kernel) rfl rfl (Nat.le_of_ble_eq_true rfl) dX2_init_89 (fun H_50 locs hP hD hS => ?_)
  have hP : va_P D vwCl [(oa, .inr (2, [.int 0, .int 0, .int 0, .ref q_1, .int 0, .int 0, .ref q_5, .ref q_9, .ref q_13, .int 0, .ref q_17, .int 0, .ref q_21, .ref q_25, .long 0, .int 0, .ref q_29, .ref q_40, .null, .null])), (q_1, .inl (cA_3, 12, .inl (fun _ => 0))), (q_5, .inl (cA_7, 6, .inl (fun _ => 0))), (q_9, .inl (cA_11, 6, .inr (.inr (.inr (.inr (fun _ => none)))))), (q_13, .inl (cA_15, 24, .inr (.inr (.inr (.inr (fun _ => none)))))), (q_17, .inl (cA_19, 16, .inr (.inr (.inr (.inr (fun _ => none)))))), (q_21, .inl (cA_23, 1000, .inr (.inr (.inr (.inr (fun _ => none)))))), (q_25, .inl (cA_27, 1000, .inr (.inl (fun _ => 0)))), (q_29, (b1_4 e0_33 e1_34 e2_35 0)), (e0_33, .inl (c0_36, 120, .inr (.inr (.inr (.inr (fun _ => none)))))), (e1_34, .inl (c1_37, 120, .inl (fun _ => 0))), (e2_35, .inl (c2_38, 120, .inl (fun _ => 0))), (q_40, (b1_4 e0_44 e1_45 e2_46 0)), (e0_44, .inl (c0_47, 20, .inr (.inr (.inr (.inr (fun _ => none)))))), (e1_45, .inl (c1_48, 20, .inl (fun _ => 0))), (e2_46, .inl (c2_49, 20, .inl (fun _ => 0)))] H_50 := hP
  have hD : va_D A [(oa, .inr (2, [.int 0, .int 0, .int 0, .ref q_1, .int 0, .int 0, .ref q_5, .ref q_9, .ref q_13, .int 0, .ref q_17, .int 0, .ref q_21, .ref q_25, .long 0, .int 0, .ref q_29, .ref q_40, .null, .null])), (q_1, .inl (cA_3, 12, .inl (fun _ => 0))), (q_5, .inl (cA_7, 6, .inl (fun _ => 0))), (q_9, .inl (cA_11, 6, .inr (.inr (.inr (.inr (fun _ => none)))))), (q_13, .inl (cA_15, 24, .inr (.inr (.inr (.inr (fun _ => none)))))), (q_17, .inl (cA_19, 16, .inr (.inr (.inr (.inr (fun _ => none)))))), (q_21, .inl (cA_23, 1000, .inr (.inr (.inr (.inr (fun _ => none)))))), (q_25, .inl (cA_27, 1000, .inr (.inl (fun _ => 0)))), (q_29, (b1_4 e0_33 e1_34 e2_35 0)), (e0_33, .inl (c0_36, 120, .inr (.inr (.inr (.inr (fun _ => none)))))), (e1_34, .inl (c1_37, 120, .inl (fun _ => 0))), (e2_35, .inl (c2_38, 120, .inl (fun _ => 0))), (q_40, (b1_4 e0_44 e1_45 e2_46 0)), (e0_44, .inl (c0_47, 20, .inr (.inr (.inr (.inr (fun _ => none)))))), (e1_45, .inl (c1_48, 20, .inl (fun _ => 0))), (e2_46, .inl (c2_49, 20, .inl (fun _ => 0)))] := hD
  refine lv_aload_n hx hb dX2_init_92 rfl (lv_at hl 0 rfl) ?_
  refine va_new (ci := 10) (fs := [.null, .int 0, .int 0]) (C := RX10) (T := TX10) (N := 3) hx hb hg inG10 tyX10 tyX10_ok hown (hg _ wd_606) (hg _ wd_607) (hg _ wd_114) hK hP hD hS hA rfl dfX10 (Nat.le_of_ble_eq_true rfl) (Nat.le_of_ble_eq_true rfl) dX2_init_93 (fun q_51 H_52 hP hD hS => ?_)
  have hP : va_P D vwCl [(oa, .inr (2, [.int 0, .int 0, .int 0, .ref q_1, .int 0, .int 0, .ref q_5, .ref q_9, .ref q_13, .int 0, .ref q_17, .int 0, .ref q_21, .ref q_25, .long 0, .int 0, .ref q_29, .ref q_40, .null, .null])), (q_1, .inl (cA_3, 12, .inl (fun _ => 0))), (q_5, .inl (cA_7, 6, .inl (fun _ => 0))), (q_9, .inl (cA_11, 6, .inr (.inr (.inr (.inr (fun _ => none)))))), (q_13, .inl (cA_15, 24, .inr (.inr (.inr (.inr (fun _ => none)))))), (q_17, .inl (cA_19, 16, .inr (.inr (.inr (.inr (fun _ => none)))))), (q_21, .inl (cA_23, 1000, .inr (.inr (.inr (.inr (fun _ => none)))))), (q_25, .inl (cA_27, 1000, .inr (.inl (fun _ => 0)))), (q_29, (b1_4 e0_33 e1_34 e2_35 0)), (e0_33, .inl (c0_36, 120, .inr (.inr (.inr (.inr (fun _ => none)))))), (e1_34, .inl (c1_37, 120, .inl (fun _ => 0))), (e2_35, .inl (c2_38, 120, .inl (fun _ => 0))), (q_40, (b1_4 e0_44 e1_45 e2_46 0)), (e0_44, .inl (c0_47, 20, .inr (.inr (.inr (.inr (fun _ => none)))))), (e1_45, .inl (c1_48, 20, .inl (fun _ => 0))), (e2_46, .inl (c2_49, 20, .inl (fun _ => 0))), (q_51, .inr (10, [.null, .int 0, .int 0]))] H_52 := hP
  have hD : va_D A [(oa, .inr (2, [.int 0, .int 0, .int 0, .ref q_1, .int 0, .int 0, .ref q_5, .ref q_9, .ref q_13, .int 0, .ref q_17, .int 0, .ref q_21, .ref q_25, .long 0, .int 0, .ref q_29, .ref q_40, .null, .null])), (q_1, .inl (cA_3, 12, .inl (fun _ => 0))), (q_5, .inl (cA_7, 6, .inl (fun _ => 0))), (q_9, .inl (cA_11, 6, .inr (.inr (.inr (.inr (fun _ => none)))))), (q_13, .inl (cA_15, 24, .inr (.inr (.inr (.inr (fun _ => none)))))), (q_17, .inl (cA_19, 16, .inr (.inr (.inr (.inr (fun _ => none)))))), (q_21, .inl (cA_23, 1000, .inr (.inr (.inr (.inr (fun _ => none)))))), (q_25, .inl (cA_27, 1000, .inr (.inl (fun _ => 0)))), (q_29, (b1_4 e0_33 e1_34 e2_35 0)), (e0_33, .inl (c0_36, 120, .inr (.inr (.inr (.inr (fun _ => none)))))), (e1_34, .inl (c1_37, 120, .inl (fun _ => 0))), (e2_35, .inl (c2_38, 120, .inl (fun _ => 0))), (q_40, (b1_4 e0_44 e1_45 e2_46 0)), (e0_44, .inl (c0_47, 20, .inr (.inr (.inr (.inr (fun _ => none)))))), (e1_45, .inl (c1_48, 20, .inl (fun _ => 0))), (e2_46, .inl (c2_49, 20, .inl (fun _ => 0))), (q_51, .inr (10, [.null, .int 0, .int 0]))] := hD
  refine W.widen (k := 16) (n := 2495) (Nat.le_of_ble_eq_true rfl) (Nat.le_of_ble_eq_true rfl) ?_
  refine lv_dup hx hb dX2_init_96 rfl ?_
  have hPc := hP.sub (ws' := [(q_51, .inr (10, [.null, .int 0, .int 0]))]) [16] rfl
  have hDc := hD.sub (ws' := [(q_51, .inr (10, [.null, .int 0, .int 0]))]) [16] (by decide) rfl
  have hKc := hK.sub (tys' := []) [] rfl
  have hFc := va_free (wc := [(q_51, .inr (10, [.null, .int 0, .int 0]))]) hD hS hA [16] rfl
  refine va_callv (va_runIN (As := []) (rest := [.ref q_51, .ref oa]) ⟨hx, hb, hml, hown, hg⟩ (k_Undo l D H_52.size q_51) ⟨va_cnB 0 hg (gB wd_608) rfl rfl rfl (hN _ (List.mem_of_getElem? (i := 2) rfl) : va_Nw (Cond.methodLinkNest RX2 57 yX10_init RX11) s) (hg _ wd_114) (by decide +kernel) ⟨(Nat.le_of_ble_eq_true rfl), (Nat.le_of_ble_eq_true rfl)⟩, rfl, hg _ wd_609⟩ ⟨Pr.blind, fun U hU hW => ⟨rfl, Pr.at hPc hKc hDc hN hU hW⟩⟩ rfl rfl hl.1 rfl (lv_room (Nat.le_of_ble_eq_true rfl)) dX2_init_97 ⟨(Nat.le_of_ble_eq_true rfl), (Nat.le_of_ble_eq_true rfl)⟩) hS (fun q _ h => hFc q h) hFc (fun u t H_53 locs ht hvm hw hB hz1 hk1 hS => ?_)
  obtain ⟨e0_55, c0_56, hP1, hK1, hD1⟩ := hB
  rw [ht] at hP1
  have hK1 := va_K.moved hvm.symm hK1
  obtain ⟨hP, hD⟩ := va_join (wr := [(oa, .inr (2, [.int 0, .int 0, .int 0, .ref q_1, .int 0, .int 0, .ref q_5, .ref q_9, .ref q_13, .int 0, .ref q_17, .int 0, .ref q_21, .ref q_25, .long 0, .int 0, .ref q_29, .ref q_40, .null, .null])), (q_1, .inl (cA_3, 12, .inl (fun _ => 0))), (q_5, .inl (cA_7, 6, .inl (fun _ => 0))), (q_9, .inl (cA_11, 6, .inr (.inr (.inr (.inr (fun _ => none)))))), (q_13, .inl (cA_15, 24, .inr (.inr (.inr (.inr (fun _ => none)))))), (q_17, .inl (cA_19, 16, .inr (.inr (.inr (.inr (fun _ => none)))))), (q_21, .inl (cA_23, 1000, .inr (.inr (.inr (.inr (fun _ => none)))))), (q_25, .inl (cA_27, 1000, .inr (.inl (fun _ => 0)))), (q_29, (b1_4 e0_33 e1_34 e2_35 0)), (e0_33, .inl (c0_36, 120, .inr (.inr (.inr (.inr (fun _ => none)))))), (e1_34, .inl (c1_37, 120, .inl (fun _ => 0))), (e2_35, .inl (c2_38, 120, .inl (fun _ => 0))), (q_40, (b1_4 e0_44 e1_45 e2_46 0)), (e0_44, .inl (c0_47, 20, .inr (.inr (.inr (.inr (fun _ => none)))))), (e1_45, .inl (c1_48, 20, .inl (fun _ => 0))), (e2_46, .inl (c2_49, 20, .inl (fun _ => 0)))]) (w1 := [(q_51, (b10_15 e0_55 0 0)), (e0_55, .inl (c0_56, 60, .inl (fun _ => 0)))]) hP hD [16] [0, 1, 2, 3, 4, 5, 6, 7, 8, 9, 10, 11, 12, 13, 14, 15] rfl rfl (by decide) (by decide) hk1 hFc hP1 hD1
  have hK := hK.app hK1
  have hK : va_K D vwCl [(cA_3, .int), (cA_7, .int), (cA_11, .object RX9), (cA_15, .object RX9), (cA_19, .object RX6), (cA_23, .object RX3), (cA_27, .long), (c0_36, .object RX9), (c1_37, .int), (c2_38, .int), (c0_47, .object RX9), (c1_48, .int), (c2_49, .int), (c0_56, .int)] s := hK
  have hP : va_P D vwCl [(oa, .inr (2, [.int 0, .int 0, .int 0, .ref q_1, .int 0, .int 0, .ref q_5, .ref q_9, .ref q_13, .int 0, .ref q_17, .int 0, .ref q_21, .ref q_25, .long 0, .int 0, .ref q_29, .ref q_40, .null, .null])), (q_1, .inl (cA_3, 12, .inl (fun _ => 0))), (q_5, .inl (cA_7, 6, .inl (fun _ => 0))), (q_9, .inl (cA_11, 6, .inr (.inr (.inr (.inr (fun _ => none)))))), (q_13, .inl (cA_15, 24, .inr (.inr (.inr (.inr (fun _ => none)))))), (q_17, .inl (cA_19, 16, .inr (.inr (.inr (.inr (fun _ => none)))))), (q_21, .inl (cA_23, 1000, .inr (.inr (.inr (.inr (fun _ => none)))))), (q_25, .inl (cA_27, 1000, .inr (.inl (fun _ => 0)))), (q_29, (b1_4 e0_33 e1_34 e2_35 0)), (e0_33, .inl (c0_36, 120, .inr (.inr (.inr (.inr (fun _ => none)))))), (e1_34, .inl (c1_37, 120, .inl (fun _ => 0))), (e2_35, .inl (c2_38, 120, .inl (fun _ => 0))), (q_40, (b1_4 e0_44 e1_45 e2_46 0)), (e0_44, .inl (c0_47, 20, .inr (.inr (.inr (.inr (fun _ => none)))))), (e1_45, .inl (c1_48, 20, .inl (fun _ => 0))), (e2_46, .inl (c2_49, 20, .inl (fun _ => 0))), (q_51, (b10_15 e0_55 0 0)), (e0_55, .inl (c0_56, 60, .inl (fun _ => 0)))] H_53 := hP
  have hD : va_D A [(oa, .inr (2, [.int 0, .int 0, .int 0, .ref q_1, .int 0, .int 0, .ref q_5, .ref q_9, .ref q_13, .int 0, .ref q_17, .int 0, .ref q_21, .ref q_25, .long 0, .int 0, .ref q_29, .ref q_40, .null, .null])), (q_1, .inl (cA_3, 12, .inl (fun _ => 0))), (q_5, .inl (cA_7, 6, .inl (fun _ => 0))), (q_9, .inl (cA_11, 6, .inr (.inr (.inr (.inr (fun _ => none)))))), (q_13, .inl (cA_15, 24, .inr (.inr (.inr (.inr (fun _ => none)))))), (q_17, .inl (cA_19, 16, .inr (.inr (.inr (.inr (fun _ => none)))))), (q_21, .inl (cA_23, 1000, .inr (.inr (.inr (.inr (fun _ => none)))))), (q_25, .inl (cA_27, 1000, .inr (.inl (fun _ => 0)))), (q_29, (b1_4 e0_33 e1_34 e2_35 0)), (e0_33, .inl (c0_36, 120, .inr (.inr (.inr (.inr (fun _ => none)))))), (e1_34, .inl (c1_37, 120, .inl (fun _ => 0))), (e2_35, .inl (c2_38, 120, .inl (fun _ => 0))), (q_40, (b1_4 e0_44 e1_45 e2_46 0)), (e0_44, .inl (c0_47, 20, .inr (.inr (.inr (.inr (fun _ => none)))))), (e1_45, .inl (c1_48, 20, .inl (fun _ => 0))), (e2_46, .inl (c2_49, 20, .inl (fun _ => 0))), (q_51, (b10_15 e0_55 0 0)), (e0_55, .inl (c0_56, 60, .inl (fun _ => 0)))] := hD
  refine W.widen (k := 17) (n := 2555) (Nat.le_of_ble_eq_true rfl) (Nat.le_of_ble_eq_true rfl) ?_
  refine va_putF (D := D) (ci := 2) (v := .ref q_51) (ty := .object "PartnersBook$UndoLog") (C := RX2) (T := TX2) (N := 20) hx hb hg inG2 tyX2 tyX2_ok nmX2 hown hK hP hD hS 0 rfl rfl 18 (by decide) (hg _ wd_610) (fun _ h9 => h9) rfl hin rfl (by decide +kernel) rfl rfl (Nat.le_of_ble_eq_true rfl) dX2_init_100 (fun H_57 locs hP hD hS => ?_)
  have hP : va_P D vwCl [(oa, .inr (2, [.int 0, .int 0, .int 0, .ref q_1, .int 0, .int 0, .ref q_5, .ref q_9, .ref q_13, .int 0, .ref q_17, .int 0, .ref q_21, .ref q_25, .long 0, .int 0, .ref q_29, .ref q_40, .ref q_51, .null])), (q_1, .inl (cA_3, 12, .inl (fun _ => 0))), (q_5, .inl (cA_7, 6, .inl (fun _ => 0))), (q_9, .inl (cA_11, 6, .inr (.inr (.inr (.inr (fun _ => none)))))), (q_13, .inl (cA_15, 24, .inr (.inr (.inr (.inr (fun _ => none)))))), (q_17, .inl (cA_19, 16, .inr (.inr (.inr (.inr (fun _ => none)))))), (q_21, .inl (cA_23, 1000, .inr (.inr (.inr (.inr (fun _ => none)))))), (q_25, .inl (cA_27, 1000, .inr (.inl (fun _ => 0)))), (q_29, (b1_4 e0_33 e1_34 e2_35 0)), (e0_33, .inl (c0_36, 120, .inr (.inr (.inr (.inr (fun _ => none)))))), (e1_34, .inl (c1_37, 120, .inl (fun _ => 0))), (e2_35, .inl (c2_38, 120, .inl (fun _ => 0))), (q_40, (b1_4 e0_44 e1_45 e2_46 0)), (e0_44, .inl (c0_47, 20, .inr (.inr (.inr (.inr (fun _ => none)))))), (e1_45, .inl (c1_48, 20, .inl (fun _ => 0))), (e2_46, .inl (c2_49, 20, .inl (fun _ => 0))), (q_51, (b10_15 e0_55 0 0)), (e0_55, .inl (c0_56, 60, .inl (fun _ => 0)))] H_57 := hP
  have hD : va_D A [(oa, .inr (2, [.int 0, .int 0, .int 0, .ref q_1, .int 0, .int 0, .ref q_5, .ref q_9, .ref q_13, .int 0, .ref q_17, .int 0, .ref q_21, .ref q_25, .long 0, .int 0, .ref q_29, .ref q_40, .ref q_51, .null])), (q_1, .inl (cA_3, 12, .inl (fun _ => 0))), (q_5, .inl (cA_7, 6, .inl (fun _ => 0))), (q_9, .inl (cA_11, 6, .inr (.inr (.inr (.inr (fun _ => none)))))), (q_13, .inl (cA_15, 24, .inr (.inr (.inr (.inr (fun _ => none)))))), (q_17, .inl (cA_19, 16, .inr (.inr (.inr (.inr (fun _ => none)))))), (q_21, .inl (cA_23, 1000, .inr (.inr (.inr (.inr (fun _ => none)))))), (q_25, .inl (cA_27, 1000, .inr (.inl (fun _ => 0)))), (q_29, (b1_4 e0_33 e1_34 e2_35 0)), (e0_33, .inl (c0_36, 120, .inr (.inr (.inr (.inr (fun _ => none)))))), (e1_34, .inl (c1_37, 120, .inl (fun _ => 0))), (e2_35, .inl (c2_38, 120, .inl (fun _ => 0))), (q_40, (b1_4 e0_44 e1_45 e2_46 0)), (e0_44, .inl (c0_47, 20, .inr (.inr (.inr (.inr (fun _ => none)))))), (e1_45, .inl (c1_48, 20, .inl (fun _ => 0))), (e2_46, .inl (c2_49, 20, .inl (fun _ => 0))), (q_51, (b10_15 e0_55 0 0)), (e0_55, .inl (c0_56, 60, .inl (fun _ => 0)))] := hD
  refine lv_aload_n hx hb dX2_init_103 rfl (lv_at hl 0 rfl) ?_
  refine lv_iload_n hx hb dX2_init_104 rfl (lv_at hl 1 rfl) ?_
  refine va_putF (D := D) (ci := 2) (v := .int k1) (ty := .int) (C := RX2) (T := TX2) (N := 20) hx hb hg inG2 tyX2 tyX2_ok nmX2 hown hK hP hD hS 0 rfl rfl 0 (by decide) (hg _ wd_548) (fun _ h9 => h9) rfl hin rfl (by decide +kernel) rfl rfl (Nat.le_of_ble_eq_true rfl) dX2_init_105 (fun H_58 locs hP hD hS => ?_)
  have hP : va_P D vwCl [(oa, .inr (2, [.int k1, .int 0, .int 0, .ref q_1, .int 0, .int 0, .ref q_5, .ref q_9, .ref q_13, .int 0, .ref q_17, .int 0, .ref q_21, .ref q_25, .long 0, .int 0, .ref q_29, .ref q_40, .ref q_51, .null])), (q_1, .inl (cA_3, 12, .inl (fun _ => 0))), (q_5, .inl (cA_7, 6, .inl (fun _ => 0))), (q_9, .inl (cA_11, 6, .inr (.inr (.inr (.inr (fun _ => none)))))), (q_13, .inl (cA_15, 24, .inr (.inr (.inr (.inr (fun _ => none)))))), (q_17, .inl (cA_19, 16, .inr (.inr (.inr (.inr (fun _ => none)))))), (q_21, .inl (cA_23, 1000, .inr (.inr (.inr (.inr (fun _ => none)))))), (q_25, .inl (cA_27, 1000, .inr (.inl (fun _ => 0)))), (q_29, (b1_4 e0_33 e1_34 e2_35 0)), (e0_33, .inl (c0_36, 120, .inr (.inr (.inr (.inr (fun _ => none)))))), (e1_34, .inl (c1_37, 120, .inl (fun _ => 0))), (e2_35, .inl (c2_38, 120, .inl (fun _ => 0))), (q_40, (b1_4 e0_44 e1_45 e2_46 0)), (e0_44, .inl (c0_47, 20, .inr (.inr (.inr (.inr (fun _ => none)))))), (e1_45, .inl (c1_48, 20, .inl (fun _ => 0))), (e2_46, .inl (c2_49, 20, .inl (fun _ => 0))), (q_51, (b10_15 e0_55 0 0)), (e0_55, .inl (c0_56, 60, .inl (fun _ => 0)))] H_58 := hP
  have hD : va_D A [(oa, .inr (2, [.int k1, .int 0, .int 0, .ref q_1, .int 0, .int 0, .ref q_5, .ref q_9, .ref q_13, .int 0, .ref q_17, .int 0, .ref q_21, .ref q_25, .long 0, .int 0, .ref q_29, .ref q_40, .ref q_51, .null])), (q_1, .inl (cA_3, 12, .inl (fun _ => 0))), (q_5, .inl (cA_7, 6, .inl (fun _ => 0))), (q_9, .inl (cA_11, 6, .inr (.inr (.inr (.inr (fun _ => none)))))), (q_13, .inl (cA_15, 24, .inr (.inr (.inr (.inr (fun _ => none)))))), (q_17, .inl (cA_19, 16, .inr (.inr (.inr (.inr (fun _ => none)))))), (q_21, .inl (cA_23, 1000, .inr (.inr (.inr (.inr (fun _ => none)))))), (q_25, .inl (cA_27, 1000, .inr (.inl (fun _ => 0)))), (q_29, (b1_4 e0_33 e1_34 e2_35 0)), (e0_33, .inl (c0_36, 120, .inr (.inr (.inr (.inr (fun _ => none)))))), (e1_34, .inl (c1_37, 120, .inl (fun _ => 0))), (e2_35, .inl (c2_38, 120, .inl (fun _ => 0))), (q_40, (b1_4 e0_44 e1_45 e2_46 0)), (e0_44, .inl (c0_47, 20, .inr (.inr (.inr (.inr (fun _ => none)))))), (e1_45, .inl (c1_48, 20, .inl (fun _ => 0))), (e2_46, .inl (c2_49, 20, .inl (fun _ => 0))), (q_51, (b10_15 e0_55 0 0)), (e0_55, .inl (c0_56, 60, .inl (fun _ => 0)))] := hD
  refine lv_aload_n hx hb dX2_init_108 rfl (lv_at hl 0 rfl) ?_
  refine lv_iload_n hx hb dX2_init_109 rfl (lv_at hl 2 rfl) ?_
  refine va_putF (D := D) (ci := 2) (v := .int k2) (ty := .int) (C := RX2) (T := TX2) (N := 20) hx hb hg inG2 tyX2 tyX2_ok nmX2 hown hK hP hD hS 0 rfl rfl 1 (by decide) (hg _ wd_83) (fun _ h9 => h9) rfl hin rfl (by decide +kernel) rfl rfl (Nat.le_of_ble_eq_true rfl) dX2_init_110 (fun H_59 locs hP hD hS => ?_)
  have hP : va_P D vwCl [(oa, .inr (2, [.int k1, .int k2, .int 0, .ref q_1, .int 0, .int 0, .ref q_5, .ref q_9, .ref q_13, .int 0, .ref q_17, .int 0, .ref q_21, .ref q_25, .long 0, .int 0, .ref q_29, .ref q_40, .ref q_51, .null])), (q_1, .inl (cA_3, 12, .inl (fun _ => 0))), (q_5, .inl (cA_7, 6, .inl (fun _ => 0))), (q_9, .inl (cA_11, 6, .inr (.inr (.inr (.inr (fun _ => none)))))), (q_13, .inl (cA_15, 24, .inr (.inr (.inr (.inr (fun _ => none)))))), (q_17, .inl (cA_19, 16, .inr (.inr (.inr (.inr (fun _ => none)))))), (q_21, .inl (cA_23, 1000, .inr (.inr (.inr (.inr (fun _ => none)))))), (q_25, .inl (cA_27, 1000, .inr (.inl (fun _ => 0)))), (q_29, (b1_4 e0_33 e1_34 e2_35 0)), (e0_33, .inl (c0_36, 120, .inr (.inr (.inr (.inr (fun _ => none)))))), (e1_34, .inl (c1_37, 120, .inl (fun _ => 0))), (e2_35, .inl (c2_38, 120, .inl (fun _ => 0))), (q_40, (b1_4 e0_44 e1_45 e2_46 0)), (e0_44, .inl (c0_47, 20, .inr (.inr (.inr (.inr (fun _ => none)))))), (e1_45, .inl (c1_48, 20, .inl (fun _ => 0))), (e2_46, .inl (c2_49, 20, .inl (fun _ => 0))), (q_51, (b10_15 e0_55 0 0)), (e0_55, .inl (c0_56, 60, .inl (fun _ => 0)))] H_59 := hP
  have hD : va_D A [(oa, .inr (2, [.int k1, .int k2, .int 0, .ref q_1, .int 0, .int 0, .ref q_5, .ref q_9, .ref q_13, .int 0, .ref q_17, .int 0, .ref q_21, .ref q_25, .long 0, .int 0, .ref q_29, .ref q_40, .ref q_51, .null])), (q_1, .inl (cA_3, 12, .inl (fun _ => 0))), (q_5, .inl (cA_7, 6, .inl (fun _ => 0))), (q_9, .inl (cA_11, 6, .inr (.inr (.inr (.inr (fun _ => none)))))), (q_13, .inl (cA_15, 24, .inr (.inr (.inr (.inr (fun _ => none)))))), (q_17, .inl (cA_19, 16, .inr (.inr (.inr (.inr (fun _ => none)))))), (q_21, .inl (cA_23, 1000, .inr (.inr (.inr (.inr (fun _ => none)))))), (q_25, .inl (cA_27, 1000, .inr (.inl (fun _ => 0)))), (q_29, (b1_4 e0_33 e1_34 e2_35 0)), (e0_33, .inl (c0_36, 120, .inr (.inr (.inr (.inr (fun _ => none)))))), (e1_34, .inl (c1_37, 120, .inl (fun _ => 0))), (e2_35, .inl (c2_38, 120, .inl (fun _ => 0))), (q_40, (b1_4 e0_44 e1_45 e2_46 0)), (e0_44, .inl (c0_47, 20, .inr (.inr (.inr (.inr (fun _ => none)))))), (e1_45, .inl (c1_48, 20, .inl (fun _ => 0))), (e2_46, .inl (c2_49, 20, .inl (fun _ => 0))), (q_51, (b10_15 e0_55 0 0)), (e0_55, .inl (c0_56, 60, .inl (fun _ => 0)))] := hD
  refine lv_aload_n hx hb dX2_init_113 rfl (lv_at hl 0 rfl) ?_
  refine lv_iload_n hx hb dX2_init_114 rfl (lv_at hl 2 rfl) ?_
  refine lv_iconst (v := 1) hx hb dX2_init_115 (by decide) ?_
  refine lv_isub hx hb dX2_init_116 ?_
  refine lv_topi (fun f_60 ef_60 => ?_)
  refine va_put (D := D) (ci := 2) (v := .int f_60) (ty := .int) (C := RX2) (T := TX2) (N := 20) hx hb hg inG2 tyX2 tyX2_ok nmX2 hown hK hP hD hS 0 rfl rfl 2 (by decide) (hg _ wd_41) (fun _ h9 => h9) rfl (by decide +kernel) rfl rfl (Nat.le_of_ble_eq_true rfl) dX2_init_117 (fun H_61 locs hP hD hS => ?_)
  have hP : va_P D vwCl [(oa, .inr (2, [.int k1, .int k2, .int f_60, .ref q_1, .int 0, .int 0, .ref q_5, .ref q_9, .ref q_13, .int 0, .ref q_17, .int 0, .ref q_21, .ref q_25, .long 0, .int 0, .ref q_29, .ref q_40, .ref q_51, .null])), (q_1, .inl (cA_3, 12, .inl (fun _ => 0))), (q_5, .inl (cA_7, 6, .inl (fun _ => 0))), (q_9, .inl (cA_11, 6, .inr (.inr (.inr (.inr (fun _ => none)))))), (q_13, .inl (cA_15, 24, .inr (.inr (.inr (.inr (fun _ => none)))))), (q_17, .inl (cA_19, 16, .inr (.inr (.inr (.inr (fun _ => none)))))), (q_21, .inl (cA_23, 1000, .inr (.inr (.inr (.inr (fun _ => none)))))), (q_25, .inl (cA_27, 1000, .inr (.inl (fun _ => 0)))), (q_29, (b1_4 e0_33 e1_34 e2_35 0)), (e0_33, .inl (c0_36, 120, .inr (.inr (.inr (.inr (fun _ => none)))))), (e1_34, .inl (c1_37, 120, .inl (fun _ => 0))), (e2_35, .inl (c2_38, 120, .inl (fun _ => 0))), (q_40, (b1_4 e0_44 e1_45 e2_46 0)), (e0_44, .inl (c0_47, 20, .inr (.inr (.inr (.inr (fun _ => none)))))), (e1_45, .inl (c1_48, 20, .inl (fun _ => 0))), (e2_46, .inl (c2_49, 20, .inl (fun _ => 0))), (q_51, (b10_15 e0_55 0 0)), (e0_55, .inl (c0_56, 60, .inl (fun _ => 0)))] H_61 := hP
  have hD : va_D A [(oa, .inr (2, [.int k1, .int k2, .int f_60, .ref q_1, .int 0, .int 0, .ref q_5, .ref q_9, .ref q_13, .int 0, .ref q_17, .int 0, .ref q_21, .ref q_25, .long 0, .int 0, .ref q_29, .ref q_40, .ref q_51, .null])), (q_1, .inl (cA_3, 12, .inl (fun _ => 0))), (q_5, .inl (cA_7, 6, .inl (fun _ => 0))), (q_9, .inl (cA_11, 6, .inr (.inr (.inr (.inr (fun _ => none)))))), (q_13, .inl (cA_15, 24, .inr (.inr (.inr (.inr (fun _ => none)))))), (q_17, .inl (cA_19, 16, .inr (.inr (.inr (.inr (fun _ => none)))))), (q_21, .inl (cA_23, 1000, .inr (.inr (.inr (.inr (fun _ => none)))))), (q_25, .inl (cA_27, 1000, .inr (.inl (fun _ => 0)))), (q_29, (b1_4 e0_33 e1_34 e2_35 0)), (e0_33, .inl (c0_36, 120, .inr (.inr (.inr (.inr (fun _ => none)))))), (e1_34, .inl (c1_37, 120, .inl (fun _ => 0))), (e2_35, .inl (c2_38, 120, .inl (fun _ => 0))), (q_40, (b1_4 e0_44 e1_45 e2_46 0)), (e0_44, .inl (c0_47, 20, .inr (.inr (.inr (.inr (fun _ => none)))))), (e1_45, .inl (c1_48, 20, .inl (fun _ => 0))), (e2_46, .inl (c2_49, 20, .inl (fun _ => 0))), (q_51, (b10_15 e0_55 0 0)), (e0_55, .inl (c0_56, 60, .inl (fun _ => 0)))] := hD
  refine lv_aload_n hx hb dX2_init_120 rfl (lv_at hl 0 rfl) ?_
  refine va_new (ci := 0) (fs := [.null, .null, .null, .int 0, .long 0]) (C := RX0) (T := TX0) (N := 5) hx hb hg inG0 tyX0 tyX0_ok hown (hg _ wd_611) (hg _ wd_612) (hg _ wd_204) hK hP hD hS hA rfl dfX0 (Nat.le_of_ble_eq_true rfl) (Nat.le_of_ble_eq_true rfl) dX2_init_121 (fun q_62 H_63 hP hD hS => ?_)
  have hP : va_P D vwCl [(oa, .inr (2, [.int k1, .int k2, .int f_60, .ref q_1, .int 0, .int 0, .ref q_5, .ref q_9, .ref q_13, .int 0, .ref q_17, .int 0, .ref q_21, .ref q_25, .long 0, .int 0, .ref q_29, .ref q_40, .ref q_51, .null])), (q_1, .inl (cA_3, 12, .inl (fun _ => 0))), (q_5, .inl (cA_7, 6, .inl (fun _ => 0))), (q_9, .inl (cA_11, 6, .inr (.inr (.inr (.inr (fun _ => none)))))), (q_13, .inl (cA_15, 24, .inr (.inr (.inr (.inr (fun _ => none)))))), (q_17, .inl (cA_19, 16, .inr (.inr (.inr (.inr (fun _ => none)))))), (q_21, .inl (cA_23, 1000, .inr (.inr (.inr (.inr (fun _ => none)))))), (q_25, .inl (cA_27, 1000, .inr (.inl (fun _ => 0)))), (q_29, (b1_4 e0_33 e1_34 e2_35 0)), (e0_33, .inl (c0_36, 120, .inr (.inr (.inr (.inr (fun _ => none)))))), (e1_34, .inl (c1_37, 120, .inl (fun _ => 0))), (e2_35, .inl (c2_38, 120, .inl (fun _ => 0))), (q_40, (b1_4 e0_44 e1_45 e2_46 0)), (e0_44, .inl (c0_47, 20, .inr (.inr (.inr (.inr (fun _ => none)))))), (e1_45, .inl (c1_48, 20, .inl (fun _ => 0))), (e2_46, .inl (c2_49, 20, .inl (fun _ => 0))), (q_51, (b10_15 e0_55 0 0)), (e0_55, .inl (c0_56, 60, .inl (fun _ => 0))), (q_62, .inr (0, [.null, .null, .null, .int 0, .long 0]))] H_63 := hP
  have hD : va_D A [(oa, .inr (2, [.int k1, .int k2, .int f_60, .ref q_1, .int 0, .int 0, .ref q_5, .ref q_9, .ref q_13, .int 0, .ref q_17, .int 0, .ref q_21, .ref q_25, .long 0, .int 0, .ref q_29, .ref q_40, .ref q_51, .null])), (q_1, .inl (cA_3, 12, .inl (fun _ => 0))), (q_5, .inl (cA_7, 6, .inl (fun _ => 0))), (q_9, .inl (cA_11, 6, .inr (.inr (.inr (.inr (fun _ => none)))))), (q_13, .inl (cA_15, 24, .inr (.inr (.inr (.inr (fun _ => none)))))), (q_17, .inl (cA_19, 16, .inr (.inr (.inr (.inr (fun _ => none)))))), (q_21, .inl (cA_23, 1000, .inr (.inr (.inr (.inr (fun _ => none)))))), (q_25, .inl (cA_27, 1000, .inr (.inl (fun _ => 0)))), (q_29, (b1_4 e0_33 e1_34 e2_35 0)), (e0_33, .inl (c0_36, 120, .inr (.inr (.inr (.inr (fun _ => none)))))), (e1_34, .inl (c1_37, 120, .inl (fun _ => 0))), (e2_35, .inl (c2_38, 120, .inl (fun _ => 0))), (q_40, (b1_4 e0_44 e1_45 e2_46 0)), (e0_44, .inl (c0_47, 20, .inr (.inr (.inr (.inr (fun _ => none)))))), (e1_45, .inl (c1_48, 20, .inl (fun _ => 0))), (e2_46, .inl (c2_49, 20, .inl (fun _ => 0))), (q_51, (b10_15 e0_55 0 0)), (e0_55, .inl (c0_56, 60, .inl (fun _ => 0))), (q_62, .inr (0, [.null, .null, .null, .int 0, .long 0]))] := hD
  refine W.widen (k := 18) (n := 2560) (Nat.le_of_ble_eq_true rfl) (Nat.le_of_ble_eq_true rfl) ?_
  refine lv_dup hx hb dX2_init_124 rfl ?_
  refine lv_aload_n hx hb dX2_init_125 rfl (lv_at hl 3 rfl) ?_
  have hPc := hP.sub (ws' := [(q_62, .inr (0, [.null, .null, .null, .int 0, .long 0]))]) [18] rfl
  have hDc := hD.sub (ws' := [(q_62, .inr (0, [.null, .null, .null, .int 0, .long 0]))]) [18] (by decide) rfl
  have hKc := hK.sub (tys' := []) [] rfl
  have hFc := va_free (wc := [(q_62, .inr (0, [.null, .null, .null, .int 0, .long 0]))]) hD hS hA [18] rfl
  refine va_callv (va_runI (As := [.ref k3]) (rest := [.ref q_62, .ref oa]) ⟨hx, hb, hml, hown, hg⟩ (k_Closing l D H_63.size q_62 k3) (cwI 1 hg (gB wd_613) rfl rfl rfl (hg _ wd_204) (hg _ wd_614) (hg _ wd_615) rfl (by decide +kernel) ⟨(Nat.le_of_ble_eq_true rfl), (Nat.le_of_ble_eq_true rfl)⟩) ⟨Pr.blind, fun U hU hW => ⟨rfl, Pr.at hPc hKc hDc hN hU hW⟩⟩ rfl rfl hl.1 rfl (lv_room (Nat.le_of_ble_eq_true rfl)) dX2_init_126 ⟨(Nat.le_of_ble_eq_true rfl), (Nat.le_of_ble_eq_true rfl)⟩) hS (fun q _ h => hFc q h) hFc (fun u t H_64 locs ht hvm hw hB hz1 hk1 hS => ?_)
  obtain ⟨e0_66, e1_67, c0_68, c1_69, hP1, hK1, hD1⟩ := hB
  rw [ht] at hP1
  have hK1 := va_K.moved hvm.symm hK1
  obtain ⟨hP, hD⟩ := va_join (wr := [(oa, .inr (2, [.int k1, .int k2, .int f_60, .ref q_1, .int 0, .int 0, .ref q_5, .ref q_9, .ref q_13, .int 0, .ref q_17, .int 0, .ref q_21, .ref q_25, .long 0, .int 0, .ref q_29, .ref q_40, .ref q_51, .null])), (q_1, .inl (cA_3, 12, .inl (fun _ => 0))), (q_5, .inl (cA_7, 6, .inl (fun _ => 0))), (q_9, .inl (cA_11, 6, .inr (.inr (.inr (.inr (fun _ => none)))))), (q_13, .inl (cA_15, 24, .inr (.inr (.inr (.inr (fun _ => none)))))), (q_17, .inl (cA_19, 16, .inr (.inr (.inr (.inr (fun _ => none)))))), (q_21, .inl (cA_23, 1000, .inr (.inr (.inr (.inr (fun _ => none)))))), (q_25, .inl (cA_27, 1000, .inr (.inl (fun _ => 0)))), (q_29, (b1_4 e0_33 e1_34 e2_35 0)), (e0_33, .inl (c0_36, 120, .inr (.inr (.inr (.inr (fun _ => none)))))), (e1_34, .inl (c1_37, 120, .inl (fun _ => 0))), (e2_35, .inl (c2_38, 120, .inl (fun _ => 0))), (q_40, (b1_4 e0_44 e1_45 e2_46 0)), (e0_44, .inl (c0_47, 20, .inr (.inr (.inr (.inr (fun _ => none)))))), (e1_45, .inl (c1_48, 20, .inl (fun _ => 0))), (e2_46, .inl (c2_49, 20, .inl (fun _ => 0))), (q_51, (b10_15 e0_55 0 0)), (e0_55, .inl (c0_56, 60, .inl (fun _ => 0)))]) (w1 := [(q_62, (b0_7 e0_66 e1_67 k3 0 0)), (e0_66, .inl (c0_68, 120, .inr (.inr (.inr (.inr (fun _ => none)))))), (e1_67, .inl (c1_69, 100, .inr (.inl (fun _ => 0))))]) hP hD [18] [0, 1, 2, 3, 4, 5, 6, 7, 8, 9, 10, 11, 12, 13, 14, 15, 16, 17] rfl rfl (by decide) (by decide) hk1 hFc hP1 hD1
  have hK := hK.app hK1
  have hK : va_K D vwCl [(cA_3, .int), (cA_7, .int), (cA_11, .object RX9), (cA_15, .object RX9), (cA_19, .object RX6), (cA_23, .object RX3), (cA_27, .long), (c0_36, .object RX9), (c1_37, .int), (c2_38, .int), (c0_47, .object RX9), (c1_48, .int), (c2_49, .int), (c0_56, .int), (c0_68, .object RX8), (c1_69, .long)] s := hK
  have hP : va_P D vwCl [(oa, .inr (2, [.int k1, .int k2, .int f_60, .ref q_1, .int 0, .int 0, .ref q_5, .ref q_9, .ref q_13, .int 0, .ref q_17, .int 0, .ref q_21, .ref q_25, .long 0, .int 0, .ref q_29, .ref q_40, .ref q_51, .null])), (q_1, .inl (cA_3, 12, .inl (fun _ => 0))), (q_5, .inl (cA_7, 6, .inl (fun _ => 0))), (q_9, .inl (cA_11, 6, .inr (.inr (.inr (.inr (fun _ => none)))))), (q_13, .inl (cA_15, 24, .inr (.inr (.inr (.inr (fun _ => none)))))), (q_17, .inl (cA_19, 16, .inr (.inr (.inr (.inr (fun _ => none)))))), (q_21, .inl (cA_23, 1000, .inr (.inr (.inr (.inr (fun _ => none)))))), (q_25, .inl (cA_27, 1000, .inr (.inl (fun _ => 0)))), (q_29, (b1_4 e0_33 e1_34 e2_35 0)), (e0_33, .inl (c0_36, 120, .inr (.inr (.inr (.inr (fun _ => none)))))), (e1_34, .inl (c1_37, 120, .inl (fun _ => 0))), (e2_35, .inl (c2_38, 120, .inl (fun _ => 0))), (q_40, (b1_4 e0_44 e1_45 e2_46 0)), (e0_44, .inl (c0_47, 20, .inr (.inr (.inr (.inr (fun _ => none)))))), (e1_45, .inl (c1_48, 20, .inl (fun _ => 0))), (e2_46, .inl (c2_49, 20, .inl (fun _ => 0))), (q_51, (b10_15 e0_55 0 0)), (e0_55, .inl (c0_56, 60, .inl (fun _ => 0))), (q_62, (b0_7 e0_66 e1_67 k3 0 0)), (e0_66, .inl (c0_68, 120, .inr (.inr (.inr (.inr (fun _ => none)))))), (e1_67, .inl (c1_69, 100, .inr (.inl (fun _ => 0))))] H_64 := hP
  have hD : va_D A [(oa, .inr (2, [.int k1, .int k2, .int f_60, .ref q_1, .int 0, .int 0, .ref q_5, .ref q_9, .ref q_13, .int 0, .ref q_17, .int 0, .ref q_21, .ref q_25, .long 0, .int 0, .ref q_29, .ref q_40, .ref q_51, .null])), (q_1, .inl (cA_3, 12, .inl (fun _ => 0))), (q_5, .inl (cA_7, 6, .inl (fun _ => 0))), (q_9, .inl (cA_11, 6, .inr (.inr (.inr (.inr (fun _ => none)))))), (q_13, .inl (cA_15, 24, .inr (.inr (.inr (.inr (fun _ => none)))))), (q_17, .inl (cA_19, 16, .inr (.inr (.inr (.inr (fun _ => none)))))), (q_21, .inl (cA_23, 1000, .inr (.inr (.inr (.inr (fun _ => none)))))), (q_25, .inl (cA_27, 1000, .inr (.inl (fun _ => 0)))), (q_29, (b1_4 e0_33 e1_34 e2_35 0)), (e0_33, .inl (c0_36, 120, .inr (.inr (.inr (.inr (fun _ => none)))))), (e1_34, .inl (c1_37, 120, .inl (fun _ => 0))), (e2_35, .inl (c2_38, 120, .inl (fun _ => 0))), (q_40, (b1_4 e0_44 e1_45 e2_46 0)), (e0_44, .inl (c0_47, 20, .inr (.inr (.inr (.inr (fun _ => none)))))), (e1_45, .inl (c1_48, 20, .inl (fun _ => 0))), (e2_46, .inl (c2_49, 20, .inl (fun _ => 0))), (q_51, (b10_15 e0_55 0 0)), (e0_55, .inl (c0_56, 60, .inl (fun _ => 0))), (q_62, (b0_7 e0_66 e1_67 k3 0 0)), (e0_66, .inl (c0_68, 120, .inr (.inr (.inr (.inr (fun _ => none)))))), (e1_67, .inl (c1_69, 100, .inr (.inl (fun _ => 0))))] := hD
  refine W.widen (k := 20) (n := 2780) (Nat.le_of_ble_eq_true rfl) (Nat.le_of_ble_eq_true rfl) ?_
  refine va_putF (D := D) (ci := 2) (v := .ref q_62) (ty := .object "PartnersBook$Closing") (C := RX2) (T := TX2) (N := 20) hx hb hg inG2 tyX2 tyX2_ok nmX2 hown hK hP hD hS 0 rfl rfl 19 (by decide) (hg _ wd_324) (fun _ h9 => h9) rfl hin rfl (by decide +kernel) rfl rfl (Nat.le_of_ble_eq_true rfl) dX2_init_129 (fun H_70 locs hP hD hS => ?_)
  have hP : va_P D vwCl [(oa, (b2_2 k1 k2 f_60 q_1 0 0 q_5 q_9 q_13 0 q_17 0 q_21 q_25 0 0 q_29 q_40 q_51 q_62)), (q_1, .inl (cA_3, 12, .inl (fun _ => 0))), (q_5, .inl (cA_7, 6, .inl (fun _ => 0))), (q_9, .inl (cA_11, 6, .inr (.inr (.inr (.inr (fun _ => none)))))), (q_13, .inl (cA_15, 24, .inr (.inr (.inr (.inr (fun _ => none)))))), (q_17, .inl (cA_19, 16, .inr (.inr (.inr (.inr (fun _ => none)))))), (q_21, .inl (cA_23, 1000, .inr (.inr (.inr (.inr (fun _ => none)))))), (q_25, .inl (cA_27, 1000, .inr (.inl (fun _ => 0)))), (q_29, (b1_4 e0_33 e1_34 e2_35 0)), (e0_33, .inl (c0_36, 120, .inr (.inr (.inr (.inr (fun _ => none)))))), (e1_34, .inl (c1_37, 120, .inl (fun _ => 0))), (e2_35, .inl (c2_38, 120, .inl (fun _ => 0))), (q_40, (b1_4 e0_44 e1_45 e2_46 0)), (e0_44, .inl (c0_47, 20, .inr (.inr (.inr (.inr (fun _ => none)))))), (e1_45, .inl (c1_48, 20, .inl (fun _ => 0))), (e2_46, .inl (c2_49, 20, .inl (fun _ => 0))), (q_51, (b10_15 e0_55 0 0)), (e0_55, .inl (c0_56, 60, .inl (fun _ => 0))), (q_62, (b0_7 e0_66 e1_67 k3 0 0)), (e0_66, .inl (c0_68, 120, .inr (.inr (.inr (.inr (fun _ => none)))))), (e1_67, .inl (c1_69, 100, .inr (.inl (fun _ => 0))))] H_70 := hP
  have hD : va_D A [(oa, (b2_2 k1 k2 f_60 q_1 0 0 q_5 q_9 q_13 0 q_17 0 q_21 q_25 0 0 q_29 q_40 q_51 q_62)), (q_1, .inl (cA_3, 12, .inl (fun _ => 0))), (q_5, .inl (cA_7, 6, .inl (fun _ => 0))), (q_9, .inl (cA_11, 6, .inr (.inr (.inr (.inr (fun _ => none)))))), (q_13, .inl (cA_15, 24, .inr (.inr (.inr (.inr (fun _ => none)))))), (q_17, .inl (cA_19, 16, .inr (.inr (.inr (.inr (fun _ => none)))))), (q_21, .inl (cA_23, 1000, .inr (.inr (.inr (.inr (fun _ => none)))))), (q_25, .inl (cA_27, 1000, .inr (.inl (fun _ => 0)))), (q_29, (b1_4 e0_33 e1_34 e2_35 0)), (e0_33, .inl (c0_36, 120, .inr (.inr (.inr (.inr (fun _ => none)))))), (e1_34, .inl (c1_37, 120, .inl (fun _ => 0))), (e2_35, .inl (c2_38, 120, .inl (fun _ => 0))), (q_40, (b1_4 e0_44 e1_45 e2_46 0)), (e0_44, .inl (c0_47, 20, .inr (.inr (.inr (.inr (fun _ => none)))))), (e1_45, .inl (c1_48, 20, .inl (fun _ => 0))), (e2_46, .inl (c2_49, 20, .inl (fun _ => 0))), (q_51, (b10_15 e0_55 0 0)), (e0_55, .inl (c0_56, 60, .inl (fun _ => 0))), (q_62, (b0_7 e0_66 e1_67 k3 0 0)), (e0_66, .inl (c0_68, 120, .inr (.inr (.inr (.inr (fun _ => none)))))), (e1_67, .inl (c1_69, 100, .inr (.inl (fun _ => 0))))] := hD
  have hP9 := hP.sub (ws' := [(oa, (b2_2 k1 k2 f_60 q_1 0 0 q_5 q_9 q_13 0 q_17 0 q_21 q_25 0 0 q_29 q_40 q_51 q_62)), (q_1, .inl (cA_3, 12, .inl (fun _ => 0))), (q_5, .inl (cA_7, 6, .inl (fun _ => 0))), (q_9, .inl (cA_11, 6, .inr (.inr (.inr (.inr (fun _ => none)))))), (q_13, .inl (cA_15, 24, .inr (.inr (.inr (.inr (fun _ => none)))))), (q_17, .inl (cA_19, 16, .inr (.inr (.inr (.inr (fun _ => none)))))), (q_21, .inl (cA_23, 1000, .inr (.inr (.inr (.inr (fun _ => none)))))), (q_25, .inl (cA_27, 1000, .inr (.inl (fun _ => 0)))), (e0_33, .inl (c0_36, 120, .inr (.inr (.inr (.inr (fun _ => none)))))), (e1_34, .inl (c1_37, 120, .inl (fun _ => 0))), (e2_35, .inl (c2_38, 120, .inl (fun _ => 0))), (q_29, (b1_4 e0_33 e1_34 e2_35 0)), (e0_44, .inl (c0_47, 20, .inr (.inr (.inr (.inr (fun _ => none)))))), (e1_45, .inl (c1_48, 20, .inl (fun _ => 0))), (e2_46, .inl (c2_49, 20, .inl (fun _ => 0))), (q_40, (b1_4 e0_44 e1_45 e2_46 0)), (e0_55, .inl (c0_56, 60, .inl (fun _ => 0))), (q_51, (b10_15 e0_55 0 0)), (e0_66, .inl (c0_68, 120, .inr (.inr (.inr (.inr (fun _ => none)))))), (e1_67, .inl (c1_69, 100, .inr (.inl (fun _ => 0)))), (q_62, (b0_7 e0_66 e1_67 k3 0 0))]) [0, 1, 2, 3, 4, 5, 6, 7, 9, 10, 11, 8, 13, 14, 15, 12, 17, 16, 19, 20, 18] rfl
  have hD9 := hD.sub (ws' := [(oa, (b2_2 k1 k2 f_60 q_1 0 0 q_5 q_9 q_13 0 q_17 0 q_21 q_25 0 0 q_29 q_40 q_51 q_62)), (q_1, .inl (cA_3, 12, .inl (fun _ => 0))), (q_5, .inl (cA_7, 6, .inl (fun _ => 0))), (q_9, .inl (cA_11, 6, .inr (.inr (.inr (.inr (fun _ => none)))))), (q_13, .inl (cA_15, 24, .inr (.inr (.inr (.inr (fun _ => none)))))), (q_17, .inl (cA_19, 16, .inr (.inr (.inr (.inr (fun _ => none)))))), (q_21, .inl (cA_23, 1000, .inr (.inr (.inr (.inr (fun _ => none)))))), (q_25, .inl (cA_27, 1000, .inr (.inl (fun _ => 0)))), (e0_33, .inl (c0_36, 120, .inr (.inr (.inr (.inr (fun _ => none)))))), (e1_34, .inl (c1_37, 120, .inl (fun _ => 0))), (e2_35, .inl (c2_38, 120, .inl (fun _ => 0))), (q_29, (b1_4 e0_33 e1_34 e2_35 0)), (e0_44, .inl (c0_47, 20, .inr (.inr (.inr (.inr (fun _ => none)))))), (e1_45, .inl (c1_48, 20, .inl (fun _ => 0))), (e2_46, .inl (c2_49, 20, .inl (fun _ => 0))), (q_40, (b1_4 e0_44 e1_45 e2_46 0)), (e0_55, .inl (c0_56, 60, .inl (fun _ => 0))), (q_51, (b10_15 e0_55 0 0)), (e0_66, .inl (c0_68, 120, .inr (.inr (.inr (.inr (fun _ => none)))))), (e1_67, .inl (c1_69, 100, .inr (.inl (fun _ => 0)))), (q_62, (b0_7 e0_66 e1_67 k3 0 0))]) [0, 1, 2, 3, 4, 5, 6, 7, 9, 10, 11, 8, 13, 14, 15, 12, 17, 16, 19, 20, 18] (by decide) rfl
  have hK9 := hK.sub (tys' := [(cA_3, .int), (cA_7, .int), (cA_11, .object RX9), (cA_15, .object RX9), (cA_19, .object RX6), (cA_23, .object RX3), (cA_27, .long), (c0_36, .object RX9), (c1_37, .int), (c2_38, .int), (c0_47, .object RX9), (c1_48, .int), (c2_49, .int), (c0_56, .int), (c0_68, .object RX8), (c1_69, .long)]) [0, 1, 2, 3, 4, 5, 6, 7, 8, 9, 10, 11, 12, 13, 14, 15] rfl
  exact W.vret hx hb hr (fun t ht hW => ⟨⟨(), rfl, trivial, ⟨f_60, q_1, q_5, q_9, q_13, q_17, q_21, q_25, q_29, e0_33, e1_34, e2_35, q_40, e0_44, e1_45, e2_46, q_51, e0_55, q_62, e0_66, e1_67, cA_3, cA_7, cA_11, cA_15, cA_19, cA_23, cA_27, c0_36, c1_37, c2_38, c0_47, c1_48, c2_49, c0_56, c0_68, c1_69, ef_60, by rw [ht]; exact hP9, va_K.moved hW.alike hK9, hD9⟩⟩, hS.F ht⟩) hS.2.2 dX2_init_132
set_option maxHeartbeats 4000000 in
set_option maxRecDepth 100000 in
theorem x_house (l : Launch) (D : va_G) (cy : Nat → ClassId) (K0 : Kp) (L0 : List Nat) (M0 : Hp) (sz : Nat) (xa : Nat) (x0 : Nat) (x1 : Nat) (x2 : Nat) (x3 : Nat) (x4 : Nat) (x5 : Nat) (x6 : Nat) (x7 : Int32) (x8 : Nat) (x9 : Int32) (x10 : Int32) (k1 : Int32) (Bo : Nat → Nat × Nat) (T : Int) (PK : Nat → Int32) (PT : Nat → Int32) (SX : Nat → Nat → Int) (SY : Nat → Nat → Nat → Int32) (hW : WOK cy K0 L0 M0) (i0 : isk K0 L0 x0 17 8) (b1 : x1 ≤ 8) (i2 : isk K0 L0 x2 19 40) (b3 : x3 ≤ 40) (i4 : isk K0 L0 x4 7 0) (i5 : isk K0 L0 x5 5 0) (i6 : isk K0 L0 x6 60 24) (i8 : isk K0 L0 x8 73 25) (hC : CX Bo K0 L0 x0 x1 T x3 PK PT SX SY M0) (hSV : ∀ k, k < x1 → SV (SX k) (SY k)) (hHI : ∀ k, k < x1 → HI (SX k) (SY k)) (hT : (0 ≤ T ∧ T ≤ 900000)) (hPX : PX x0 x1 x2 x3 PK PT M0) (hSC : SCX x0 x1 SX M0) : Met l yX11_house (wsM yX11_house cX11_house 2 (some .int)) ({ frames := 3, cells := 21, slots := 2800, locals := 58 }) (va_Pc [.ref xa, .int k1] (PG D cy [(xa, (b11_1 x0 (nI x1) x2 (nI x3) x4 x5 x6 x7 x8 x9 x10))] L0 M0 sz)) (va_Qi (fun (r : Int32) (u : Kp × List Nat × Hp) => ext K0 L0 u.1 u.2.1 ∧ WOK cy u.1 u.2.1 u.2.2 ∧ fr K0 L0 [17] M0 u.2.2 ∧ ((r = ansH k1 x1))) (fun u t => ∃ (w9 : Int32), (∀ X9 Y9, (okHo x1 k1 → HOUSF k1 X9 Y9) → ∃ B9, CX B9 u.1 u.2.1 x0 (cntH k1 x1) (T + 1) x3 PK PT (sxHo x1 SX k1 X9) (syHo x1 SY k1 Y9) u.2.2) ∧ PX x0 (cntH k1 x1) x2 x3 PK PT u.2.2 ∧ (∀ (X9 : Nat → Int) (Y9 : Nat → Nat → Int32), (okHo x1 k1 → HOUSF k1 X9 Y9) → SCX x0 (cntH k1 x1) (sxHo x1 SX k1 X9) u.2.2) ∧ PQ D [(xa, (b11_1 x0 (nI (cntH k1 x1)) x2 (nI x3) x4 x5 x6 x7 x8 w9 (-1)))] u.2.1 u.2.2 (va_A ([(xa, (b11_1 x0 (nI x1) x2 (nI x3) x4 x5 x6 x7 x8 x9 x10))] ++ va_pl L0 M0) sz) t) (va_A ([(xa, (b11_1 x0 (nI x1) x2 (nI x3) x4 x5 x6 x7 x8 x9 x10))] ++ va_pl L0 M0) sz)) 21 2800 (va_A ([(xa, (b11_1 x0 (nI x1) x2 (nI x3) x4 x5 x6 x7 x8 x9 x10))] ++ va_pl L0 M0) sz) := by
  refine Met.ofW (cc := cX11_house) (maxL := 2) (ret := (some .int)) (by decide) rfl ?_
  intro p e s m args below meth c s₁ B hml hv
  obtain ⟨rfl, hsz, hP, hK, hD0, hN⟩ := hv
  have hx := B.exec
  have hb := B.bytes
  have hr := B.returns
  have hts := atoms_spec (ws := (wsM yX11_house cX11_house 2 (some .int))) B.pre
  have hg : ∀ w ∈ lw_good, w.before _ s = true := fun w h => hts w (List.mem_cons_of_mem _ h)
  have hown : s.vm.findClass RX11 = some m.cls := findClass_of_methodNamed B.named
  have hlocks := B.notSynchronized
  subst hsz
  have hD := hD0.self (sz := s.heap.size)
  generalize hAe : va_A ([(xa, (b11_1 x0 (nI x1) x2 (nI x3) x4 x5 x6 x7 x8 x9 x10))] ++ va_pl L0 M0) s.heap.size = A at hD ⊢
  have hA : ∀ q : Nat, s.heap.size ≤ q → A q := fun q h => by rw [← hAe]; exact Or.inr h
  have hS : va_S A s.heap s.heap [] := va_S.rf
  have hl := lv_entry ([.ref xa, .int k1]) (n := 2) (Nat.le_of_ble_eq_true rfl)
  rw [lg_entry_eq]
  generalize (lg_sl ([.ref xa, .int k1]) ++ List.replicate (2 - (lg_sl ([.ref xa, .int k1])).length) Slot.unset).toArray = ls at hl ⊢
  refine W.nameQ (fun Q hQ => ?_)
  refine W.nameR (fun R hR => ?_)
  have hRf : 3 ≤ R.frames := by rw [hR]; exact Nat.le_of_ble_eq_true rfl
  have hRl : 58 ≤ R.locals := by rw [hR]; exact Nat.le_of_ble_eq_true rfl
  have hRc : 21 ≤ R.cells := by rw [hR]; exact Nat.le_of_ble_eq_true rfl
  have hRs : 2800 ≤ R.slots := by rw [hR]; exact Nat.le_of_ble_eq_true rfl
  have hW00 := hW
  have i000 := i0
  have i200 := i2
  have i400 := i4
  have i500 := i5
  have i600 := i6
  have i800 := i8
  have hC00 := hC
  have hPX00 := hPX
  have hSC00 := hSC
  obtain ⟨K, L, M, hX0, hF, hW, hP, hD, i0, i2, i4, i5, i6, i8, hC, hPX, hSC, hMe, hKe, hLe⟩ : ∃ (K : Kp) (L : List Nat) (M : Hp), ext K0 L0 K L ∧ fr K0 L0 [17] M0 M ∧ WOK cy K L M ∧ va_P D vwCl ([(xa, (b11_1 x0 (nI x1) x2 (nI x3) x4 x5 x6 x7 x8 x9 x10))] ++ va_pl L M) s.heap ∧ va_D A ([(xa, (b11_1 x0 (nI x1) x2 (nI x3) x4 x5 x6 x7 x8 x9 x10))] ++ va_pl L M) ∧ isk K L x0 17 8 ∧ isk K L x2 19 40 ∧ isk K L x4 7 0 ∧ isk K L x5 5 0 ∧ isk K L x6 60 24 ∧ isk K L x8 73 25 ∧ CX Bo K L x0 x1 T x3 PK PT SX SY M ∧ PX x0 x1 x2 x3 PK PT M ∧ SCX x0 x1 SX M ∧ M = M0 ∧ K = K0 ∧ L = L0 := ⟨K0, L0, M0, ext.rf, fr.rf, hW, hP, hD, i0, i2, i4, i5, i6, i8, hC, hPX, hSC, rfl, rfl, rfl⟩
  have hl : lv_has ls 2 [(0, .ref xa), (1, .int k1)] := hl
  obtain ⟨f1, hM1, hf1⟩ := hW.open_17 i0
  have hM0z : M0 x0 = .inl (cy 17, 8, .inr (.inr (.inr (.inr (f1))))) := by rw [← hMe]; exact hM1
  refine lv_iload_n hx hb dX11_house_0 rfl (lv_at hl 1 rfl) ?_
  refine lv_if_lt (tgt := 11) hx hb dX11_house_1 (by decide) (fun c_2 => ?_) (fun c_2 => ?_)
  · have hz := rfl (a := 0)
    refine lv_aload_n hx hb dX11_house_11 rfl (lv_at hl 0 rfl) ?_
    refine lv_iconst (v := 2) hx hb dX11_house_12 (by decide) ?_
    have hPc := hP.sub (ws' := [(xa, (b11_1 x0 (nI x1) x2 (nI x3) x4 x5 x6 x7 x8 x9 x10))]) [0] rfl
    have hDc := hD.sub (ws' := [(xa, (b11_1 x0 (nI x1) x2 (nI x3) x4 x5 x6 x7 x8 x9 x10))]) [0] (by decide) rfl
    have hKc := hK.sub (tys' := []) [] rfl
    have hFc := va_free (wc := [(xa, (b11_1 x0 (nI x1) x2 (nI x3) x4 x5 x6 x7 x8 x9 x10))]) hD hS hA [0] rfl
    refine va_calli (va_runV (As := [.int 2]) (rest := []) ⟨hx, hb, hml, hown, hg⟩ (k_refuse l D s.heap.size xa x0 (nI x1) x2 (nI x3) x4 x5 x6 x7 x8 x9 x10 2) (cwV 1 hg (gV wd_344 wd_345 wd_346 wd_3 wd_347) rfl rfl rfl (by decide +kernel) ⟨(Nat.le_trans (Nat.le_of_ble_eq_true rfl) hRf), (Nat.le_trans (Nat.le_of_ble_eq_true rfl) hRl)⟩) ⟨Pr.blind, va_recv hK hP (ci := 11) (q0 := 0) rfl rfl, fun U hU hW => ⟨rfl, Pr.at hPc hKc hDc hN hU hW⟩⟩ rfl rfl hl.1 rfl (lv_room (Nat.le_of_ble_eq_true rfl)) dX11_house_13 ⟨(Nat.le_trans (Nat.le_of_ble_eq_true rfl) hRc), (Nat.le_trans (Nat.le_of_ble_eq_true rfl) hRs)⟩) hS (fun q _ h => hFc q h) hFc (fun r_4 M_5 t H_3 locs ht hvm hw hB hz1 hk1 hS => ?_)
    have hp_6 := hw
    obtain ⟨hP1, hK1, hD1⟩ := hB
    rw [ht] at hP1
    obtain ⟨hP, hD⟩ := va_joinQ (X := [(xa, (b11_1 x0 (nI x1) x2 (nI x3) x4 x5 x6 x7 x8 x9 x10))]) (cx := [(xa, (b11_1 x0 (nI x1) x2 (nI x3) x4 x5 x6 x7 x8 x9 x10))]) (wr := []) (w1 := [(xa, (b11_1 x0 (nI x1) x2 (nI x3) x4 x5 x6 x7 x8 2 (-1)))]) (pl := va_pl L M) hP hD [0] [] rfl rfl (by decide) (by decide) hk1 hFc hP1 hD1
    have hP : va_P D vwCl ([(xa, (b11_1 x0 (nI x1) x2 (nI x3) x4 x5 x6 x7 x8 2 (-1)))] ++ va_pl L M) H_3 := hP
    have hD : va_D A ([(xa, (b11_1 x0 (nI x1) x2 (nI x3) x4 x5 x6 x7 x8 2 (-1)))] ++ va_pl L M) := hD
    have hq := Eq.symm hp_6
    subst hq
    refine W.widen (k := 21) (n := 2800) (Nat.le_of_ble_eq_true rfl) (Nat.le_of_ble_eq_true rfl) ?_
    have hE : cntH k1 x1 = x1 := by unfold cntH; rw [if_pos c_2]
    have hP : va_P D vwCl ([(xa, (b11_1 x0 (nI (cntH k1 x1)) x2 (nI x3) x4 x5 x6 x7 x8 2 (-1)))] ++ va_pl L M) H_3 := by rw [hE]; exact hP
    have hD : va_D A ([(xa, (b11_1 x0 (nI (cntH k1 x1)) x2 (nI x3) x4 x5 x6 x7 x8 2 (-1)))] ++ va_pl L M) := by rw [hE]; exact hD
    have hI_7 : (k1 : Int32).toInt < (0 : Int) := iltI rfl rfl c_2
    have hno : ¬ okHo x1 k1 := fun q9 => by unfold okHo at q9; omega
    rw [hQ]
    exact W.iret (v := (-1)) hx hb hr (fun t ht hW9 => ⟨⟨(-1), (K, L, M), rfl, ⟨hX0, hW, hF, (by unfold ansH; rw [if_pos c_2]; first | done | rfl)⟩, ⟨2, (fun X9 Y9 hF9 => ⟨_, by rw [hE]; unfold sxHo syHo; rw [if_neg hno, if_neg hno]; exact hC.mono⟩), (by rw [hE]; exact hPX), (fun X9 Y9 hF9 => by rw [hE]; unfold sxHo; rw [if_neg hno]; exact hSC), by rw [ht]; exact hP, hD⟩⟩, hS.F ht⟩) hS.2.2 dX11_house_16
  · have hz := rfl (a := 0)
    refine lv_iload_n hx hb dX11_house_4 rfl (lv_at hl 1 rfl) ?_
    refine lv_sipush (v := 900) hx hb dX11_house_5 (by decide) ?_
    refine lv_icmp_le (tgt := 17) hx hb dX11_house_8 (by decide) (fun c_8 => ?_) (fun c_8 => ?_)
    · have hz := rfl (a := 0)
      refine lv_aload_n hx hb dX11_house_17 rfl (lv_at hl 0 rfl) ?_
      refine va_get (D := D) (ci := 11) (v := .int (nI x1)) (C := RX11) (T := TX11) (N := 11) hx hb hg inG11 hown hK hP 0 rfl rfl 1 (by decide) (hg _ wd_336) (fun _ h9 => h9) rfl dX11_house_18 ?_
      refine lv_bipush (v := 8) hx hb dX11_house_21 (by decide) ?_
      refine lv_icmp_lt (tgt := 33) hx hb dX11_house_23 (by decide) (fun c_9 => ?_) (fun c_9 => ?_)
      · have hz := rfl (a := 0)
        have n_10 : x1 < 8 := (iLT (a := x1) (b := 8) (by omega) (by omega)).mp c_9
        refine lv_aload_n hx hb dX11_house_33 rfl (lv_at hl 0 rfl) ?_
        refine va_get (D := D) (ci := 11) (v := .ref x0) (C := RX11) (T := TX11) (N := 11) hx hb hg inG11 hown hK hP 0 rfl rfl 0 (by decide) (hg _ wd_337) (fun _ h9 => h9) rfl dX11_house_34 ?_
        refine lv_aload_n hx hb dX11_house_37 rfl (lv_at hl 0 rfl) ?_
        refine va_get (D := D) (ci := 11) (v := .int (nI x1)) (C := RX11) (T := TX11) (N := 11) hx hb hg inG11 hown hK hP 0 rfl rfl 1 (by decide) (hg _ wd_336) (fun _ h9 => h9) rfl dX11_house_38 ?_
        refine va_new (ci := 2) (fs := [.int 0, .int 0, .int 0, .null, .int 0, .int 0, .null, .null, .null, .int 0, .null, .int 0, .null, .null, .long 0, .int 0, .null, .null, .null, .null]) (C := RX2) (T := TX2) (N := 20) hx hb hg inG2 tyX2 tyX2_ok hown (hg _ wd_616) (hg _ wd_617) (hg _ wd_57) hK hP hD hS hA rfl dfX2 (Nat.le_trans (Nat.le_of_ble_eq_true rfl) hRc) (Nat.le_trans (Nat.le_of_ble_eq_true rfl) hRs) dX11_house_41 (fun q_11 H_12 hP hD hS => ?_)
        have hP : va_P D vwCl ([(xa, (b11_1 x0 (nI x1) x2 (nI x3) x4 x5 x6 x7 x8 x9 x10)), (q_11, .inr (2, [.int 0, .int 0, .int 0, .null, .int 0, .int 0, .null, .null, .null, .int 0, .null, .int 0, .null, .null, .long 0, .int 0, .null, .null, .null, .null]))] ++ va_pl L M) H_12 := hP.swap
        have hD : va_D A ([(xa, (b11_1 x0 (nI x1) x2 (nI x3) x4 x5 x6 x7 x8 x9 x10)), (q_11, .inr (2, [.int 0, .int 0, .int 0, .null, .int 0, .int 0, .null, .null, .null, .int 0, .null, .int 0, .null, .null, .long 0, .int 0, .null, .null, .null, .null]))] ++ va_pl L M) := hD.swap
        refine W.widen (k := 1) (n := 20) (Nat.le_of_ble_eq_true rfl) (Nat.le_of_ble_eq_true rfl) ?_
        refine lv_dup hx hb dX11_house_44 rfl ?_
        refine lv_aload_n hx hb dX11_house_45 rfl (lv_at hl 0 rfl) ?_
        refine va_get (D := D) (ci := 11) (v := .int (nI x1)) (C := RX11) (T := TX11) (N := 11) hx hb hg inG11 hown hK hP 0 rfl rfl 1 (by decide) (hg _ wd_336) (fun _ h9 => h9) rfl dX11_house_46 ?_
        refine lv_iload_n hx hb dX11_house_49 rfl (lv_at hl 1 rfl) ?_
        refine lv_aload_n hx hb dX11_house_50 rfl (lv_at hl 0 rfl) ?_
        refine va_get (D := D) (ci := 11) (v := .ref x4) (C := RX11) (T := TX11) (N := 11) hx hb hg inG11 hown hK hP 0 rfl rfl 4 (by decide) (hg _ wd_443) (fun _ h9 => h9) rfl dX11_house_51 ?_
        have hPc := hP.sub (ws' := [(q_11, .inr (2, [.int 0, .int 0, .int 0, .null, .int 0, .int 0, .null, .null, .null, .int 0, .null, .int 0, .null, .null, .long 0, .int 0, .null, .null, .null, .null]))]) [1] rfl
        have hDc := hD.sub (ws' := [(q_11, .inr (2, [.int 0, .int 0, .int 0, .null, .int 0, .int 0, .null, .null, .null, .int 0, .null, .int 0, .null, .null, .long 0, .int 0, .null, .null, .null, .null]))]) [1] (by decide) rfl
        have hKc := hK.sub (tys' := []) [] rfl
        have hFc := va_free (wc := [(q_11, .inr (2, [.int 0, .int 0, .int 0, .null, .int 0, .int 0, .null, .null, .null, .int 0, .null, .int 0, .null, .null, .long 0, .int 0, .null, .null, .null, .null]))]) hD hS hA [1] rfl
        refine va_callv (va_runI (As := [.int (nI x1), .int k1, .ref x4]) (rest := [.ref q_11, .int (nI x1), .ref x0]) ⟨hx, hb, hml, hown, hg⟩ (k_House2 l D H_12.size q_11 (nI x1) k1 x4) (cwI 3 hg (gB wd_618) rfl rfl rfl (hg _ wd_57) (hg _ wd_619) (hg _ wd_620) rfl (by decide +kernel) ⟨(Nat.le_trans (Nat.le_of_ble_eq_true rfl) hRf), (Nat.le_trans (Nat.le_of_ble_eq_true rfl) hRl)⟩) ⟨Pr.blind, fun U hU hW => ⟨rfl, Pr.at hPc hKc hDc hN hU hW⟩⟩ rfl rfl hl.1 rfl (lv_room (Nat.le_of_ble_eq_true rfl)) dX11_house_54 ⟨(Nat.le_trans (Nat.le_of_ble_eq_true rfl) hRc), (Nat.le_trans (Nat.le_of_ble_eq_true rfl) hRs)⟩) hS (fun q _ h => hFc q h) hFc (fun M_15 t H_13 locs ht hvm hw hB hz1 hk1 hS => ?_)
        have hp_16 := hw
        obtain ⟨e2_17, e3_18, e6_19, e7_20, e8_21, e10_22, e12_23, e13_24, e16_25, e16a_26, e16b_27, e16c_28, e17_29, e17a_30, e17b_31, e17c_32, e18_33, e18a_34, e19_35, e19a_36, e19b_37, ce3_38, ce6_39, ce7_40, ce8_41, ce10_42, ce12_43, ce13_44, ce16a_45, ce16b_46, ce16c_47, ce17a_48, ce17b_49, ce17c_50, ce18a_51, ce19a_52, ce19b_53, hg_54, hP1, hK1, hD1⟩ := hB
        rw [ht] at hP1
        have hK1 := va_K.moved hvm.symm hK1
        obtain ⟨hP, hD⟩ := va_joinQ (X := [(xa, (b11_1 x0 (nI x1) x2 (nI x3) x4 x5 x6 x7 x8 x9 x10)), (q_11, .inr (2, [.int 0, .int 0, .int 0, .null, .int 0, .int 0, .null, .null, .null, .int 0, .null, .int 0, .null, .null, .long 0, .int 0, .null, .null, .null, .null]))]) (cx := [(q_11, .inr (2, [.int 0, .int 0, .int 0, .null, .int 0, .int 0, .null, .null, .null, .int 0, .null, .int 0, .null, .null, .long 0, .int 0, .null, .null, .null, .null]))]) (wr := [(xa, (b11_1 x0 (nI x1) x2 (nI x3) x4 x5 x6 x7 x8 x9 x10))]) (w1 := [(q_11, (b2_2 (nI x1) k1 e2_17 e3_18 0 0 e6_19 e7_20 e8_21 0 e10_22 0 e12_23 e13_24 0 0 e16_25 e17_29 e18_33 e19_35)), (e3_18, .inl (ce3_38, 12, .inl (fun _ => 0))), (e6_19, .inl (ce6_39, 6, .inl (fun _ => 0))), (e7_20, .inl (ce7_40, 6, .inr (.inr (.inr (.inr (fun _ => none)))))), (e8_21, .inl (ce8_41, 24, .inr (.inr (.inr (.inr (fun _ => none)))))), (e10_22, .inl (ce10_42, 16, .inr (.inr (.inr (.inr (fun _ => none)))))), (e12_23, .inl (ce12_43, 1000, .inr (.inr (.inr (.inr (fun _ => none)))))), (e13_24, .inl (ce13_44, 1000, .inr (.inl (fun _ => 0)))), (e16a_26, .inl (ce16a_45, 120, .inr (.inr (.inr (.inr (fun _ => none)))))), (e16b_27, .inl (ce16b_46, 120, .inl (fun _ => 0))), (e16c_28, .inl (ce16c_47, 120, .inl (fun _ => 0))), (e16_25, (b1_4 e16a_26 e16b_27 e16c_28 0)), (e17a_30, .inl (ce17a_48, 20, .inr (.inr (.inr (.inr (fun _ => none)))))), (e17b_31, .inl (ce17b_49, 20, .inl (fun _ => 0))), (e17c_32, .inl (ce17c_50, 20, .inl (fun _ => 0))), (e17_29, (b1_4 e17a_30 e17b_31 e17c_32 0)), (e18a_34, .inl (ce18a_51, 60, .inl (fun _ => 0))), (e18_33, (b10_15 e18a_34 0 0)), (e19a_36, .inl (ce19a_52, 120, .inr (.inr (.inr (.inr (fun _ => none)))))), (e19b_37, .inl (ce19b_53, 100, .inr (.inl (fun _ => 0)))), (e19_35, (b0_7 e19a_36 e19b_37 x4 0 0))]) (pl := va_pl L M) hP hD [1] [0] rfl rfl (by decide) (by decide) hk1 hFc hP1 hD1
        have hP : va_P D vwCl ([(xa, (b11_1 x0 (nI x1) x2 (nI x3) x4 x5 x6 x7 x8 x9 x10)), (q_11, (b2_2 (nI x1) k1 e2_17 e3_18 0 0 e6_19 e7_20 e8_21 0 e10_22 0 e12_23 e13_24 0 0 e16_25 e17_29 e18_33 e19_35)), (e3_18, .inl (ce3_38, 12, .inl (fun _ => 0))), (e6_19, .inl (ce6_39, 6, .inl (fun _ => 0))), (e7_20, .inl (ce7_40, 6, .inr (.inr (.inr (.inr (fun _ => none)))))), (e8_21, .inl (ce8_41, 24, .inr (.inr (.inr (.inr (fun _ => none)))))), (e10_22, .inl (ce10_42, 16, .inr (.inr (.inr (.inr (fun _ => none)))))), (e12_23, .inl (ce12_43, 1000, .inr (.inr (.inr (.inr (fun _ => none)))))), (e13_24, .inl (ce13_44, 1000, .inr (.inl (fun _ => 0)))), (e16a_26, .inl (ce16a_45, 120, .inr (.inr (.inr (.inr (fun _ => none)))))), (e16b_27, .inl (ce16b_46, 120, .inl (fun _ => 0))), (e16c_28, .inl (ce16c_47, 120, .inl (fun _ => 0))), (e16_25, (b1_4 e16a_26 e16b_27 e16c_28 0)), (e17a_30, .inl (ce17a_48, 20, .inr (.inr (.inr (.inr (fun _ => none)))))), (e17b_31, .inl (ce17b_49, 20, .inl (fun _ => 0))), (e17c_32, .inl (ce17c_50, 20, .inl (fun _ => 0))), (e17_29, (b1_4 e17a_30 e17b_31 e17c_32 0)), (e18a_34, .inl (ce18a_51, 60, .inl (fun _ => 0))), (e18_33, (b10_15 e18a_34 0 0)), (e19a_36, .inl (ce19a_52, 120, .inr (.inr (.inr (.inr (fun _ => none)))))), (e19b_37, .inl (ce19b_53, 100, .inr (.inl (fun _ => 0)))), (e19_35, (b0_7 e19a_36 e19b_37 x4 0 0))] ++ va_pl L M) H_13 := hP
        have hD : va_D A ([(xa, (b11_1 x0 (nI x1) x2 (nI x3) x4 x5 x6 x7 x8 x9 x10)), (q_11, (b2_2 (nI x1) k1 e2_17 e3_18 0 0 e6_19 e7_20 e8_21 0 e10_22 0 e12_23 e13_24 0 0 e16_25 e17_29 e18_33 e19_35)), (e3_18, .inl (ce3_38, 12, .inl (fun _ => 0))), (e6_19, .inl (ce6_39, 6, .inl (fun _ => 0))), (e7_20, .inl (ce7_40, 6, .inr (.inr (.inr (.inr (fun _ => none)))))), (e8_21, .inl (ce8_41, 24, .inr (.inr (.inr (.inr (fun _ => none)))))), (e10_22, .inl (ce10_42, 16, .inr (.inr (.inr (.inr (fun _ => none)))))), (e12_23, .inl (ce12_43, 1000, .inr (.inr (.inr (.inr (fun _ => none)))))), (e13_24, .inl (ce13_44, 1000, .inr (.inl (fun _ => 0)))), (e16a_26, .inl (ce16a_45, 120, .inr (.inr (.inr (.inr (fun _ => none)))))), (e16b_27, .inl (ce16b_46, 120, .inl (fun _ => 0))), (e16c_28, .inl (ce16c_47, 120, .inl (fun _ => 0))), (e16_25, (b1_4 e16a_26 e16b_27 e16c_28 0)), (e17a_30, .inl (ce17a_48, 20, .inr (.inr (.inr (.inr (fun _ => none)))))), (e17b_31, .inl (ce17b_49, 20, .inl (fun _ => 0))), (e17c_32, .inl (ce17c_50, 20, .inl (fun _ => 0))), (e17_29, (b1_4 e17a_30 e17b_31 e17c_32 0)), (e18a_34, .inl (ce18a_51, 60, .inl (fun _ => 0))), (e18_33, (b10_15 e18a_34 0 0)), (e19a_36, .inl (ce19a_52, 120, .inr (.inr (.inr (.inr (fun _ => none)))))), (e19b_37, .inl (ce19b_53, 100, .inr (.inl (fun _ => 0)))), (e19_35, (b0_7 e19a_36 e19b_37 x4 0 0))] ++ va_pl L M) := hD
        have hK2 := hK.app hK1
        obtain rfl : ce3_38 = cy 14 := cls_eq hK2 10 0 rfl rfl
        obtain rfl : ce6_39 = cy 14 := cls_eq hK2 11 0 rfl rfl
        obtain rfl : ce7_40 = cy 22 := cls_eq hK2 12 8 rfl rfl
        obtain rfl : ce8_41 = cy 22 := cls_eq hK2 13 8 rfl rfl
        obtain rfl : ce10_42 = cy 20 := cls_eq hK2 14 6 rfl rfl
        obtain rfl : ce12_43 = cy 18 := cls_eq hK2 15 4 rfl rfl
        obtain rfl : ce13_44 = cy 15 := cls_eq hK2 16 1 rfl rfl
        obtain rfl : ce16a_45 = cy 22 := cls_eq hK2 17 8 rfl rfl
        obtain rfl : ce16b_46 = cy 14 := cls_eq hK2 18 0 rfl rfl
        obtain rfl : ce16c_47 = cy 14 := cls_eq hK2 19 0 rfl rfl
        obtain rfl : ce17a_48 = cy 22 := cls_eq hK2 20 8 rfl rfl
        obtain rfl : ce17b_49 = cy 14 := cls_eq hK2 21 0 rfl rfl
        obtain rfl : ce17c_50 = cy 14 := cls_eq hK2 22 0 rfl rfl
        obtain rfl : ce18a_51 = cy 14 := cls_eq hK2 23 0 rfl rfl
        obtain rfl : ce19a_52 = cy 21 := cls_eq hK2 24 7 rfl rfl
        obtain rfl : ce19b_53 = cy 15 := cls_eq hK2 25 1 rfl rfl
        refine W.widen (k := 21) (n := 2800) (Nat.le_of_ble_eq_true rfl) (Nat.le_of_ble_eq_true rfl) ?_
        have hP : va_P D vwCl (([(xa, (b11_1 x0 (nI x1) x2 (nI x3) x4 x5 x6 x7 x8 x9 x10))] ++ ([((zrI cy 14 e3_18 12), (51, 12)), ((zrI cy 14 e6_19 6), (52, 6)), ((e7_20, .inl ((cy 22), 6, .inr (.inr (.inr (.inr (fun _ => none)))))), (61, 6)), ((e8_21, .inl ((cy 22), 24, .inr (.inr (.inr (.inr (fun _ => none)))))), (62, 24)), ((e10_22, .inl ((cy 20), 16, .inr (.inr (.inr (.inr (fun _ => none)))))), (20, 16)), ((e12_23, .inl ((cy 18), 1000, .inr (.inr (.inr (.inr (fun _ => none)))))), (18, 1000)), ((zrJ cy 15 e13_24 1000), (67, 1000)), ((e16a_26, .inl ((cy 22), 120, .inr (.inr (.inr (.inr (fun _ => none)))))), (63, 120)), ((zrI cy 14 e16b_27 120), (56, 120)), ((zrI cy 14 e16c_28 120), (57, 120)), ((e16_25, (b1_4 e16a_26 e16b_27 e16c_28 0)), (1, 0)), ((e17a_30, .inl ((cy 22), 20, .inr (.inr (.inr (.inr (fun _ => none)))))), (63, 20)), ((zrI cy 14 e17b_31 20), (56, 20)), ((zrI cy 14 e17c_32 20), (57, 20)), ((e17_29, (b1_4 e17a_30 e17b_31 e17c_32 0)), (1, 0)), ((zrI cy 14 e18a_34 60), (55, 60)), ((e18_33, (b10_15 e18a_34 0 0)), (10, 0)), ((e19a_36, .inl ((cy 21), 120, .inr (.inr (.inr (.inr (fun _ => none)))))), (21, 120)), ((zrJ cy 15 e19b_37 100), (66, 100)), ((e19_35, (b0_7 e19a_36 e19b_37 x4 0 0)), (0, 0)), ((q_11, (b2_2 (nI x1) k1 e2_17 e3_18 0 0 e6_19 e7_20 e8_21 0 e10_22 0 e12_23 e13_24 0 0 e16_25 e17_29 e18_33 e19_35)), (2, 0))]).map Prod.fst) ++ va_pl L M) H_13 := hP.part (cx := [(xa, (b11_1 x0 (nI x1) x2 (nI x3) x4 x5 x6 x7 x8 x9 x10)), (zrI cy 14 e3_18 12), (zrI cy 14 e6_19 6), (e7_20, .inl ((cy 22), 6, .inr (.inr (.inr (.inr (fun _ => none)))))), (e8_21, .inl ((cy 22), 24, .inr (.inr (.inr (.inr (fun _ => none)))))), (e10_22, .inl ((cy 20), 16, .inr (.inr (.inr (.inr (fun _ => none)))))), (e12_23, .inl ((cy 18), 1000, .inr (.inr (.inr (.inr (fun _ => none)))))), (zrJ cy 15 e13_24 1000), (e16a_26, .inl ((cy 22), 120, .inr (.inr (.inr (.inr (fun _ => none)))))), (zrI cy 14 e16b_27 120), (zrI cy 14 e16c_28 120), (e16_25, (b1_4 e16a_26 e16b_27 e16c_28 0)), (e17a_30, .inl ((cy 22), 20, .inr (.inr (.inr (.inr (fun _ => none)))))), (zrI cy 14 e17b_31 20), (zrI cy 14 e17c_32 20), (e17_29, (b1_4 e17a_30 e17b_31 e17c_32 0)), (zrI cy 14 e18a_34 60), (e18_33, (b10_15 e18a_34 0 0)), (e19a_36, .inl ((cy 21), 120, .inr (.inr (.inr (.inr (fun _ => none)))))), (zrJ cy 15 e19b_37 100), (e19_35, (b0_7 e19a_36 e19b_37 x4 0 0)), (q_11, (b2_2 (nI x1) k1 e2_17 e3_18 0 0 e6_19 e7_20 e8_21 0 e10_22 0 e12_23 e13_24 0 0 e16_25 e17_29 e18_33 e19_35))]) [0, 2, 3, 4, 5, 6, 7, 8, 9, 10, 11, 12, 13, 14, 15, 16, 17, 18, 19, 20, 21, 1] rfl
        have hD : va_D A (([(xa, (b11_1 x0 (nI x1) x2 (nI x3) x4 x5 x6 x7 x8 x9 x10))] ++ ([((zrI cy 14 e3_18 12), (51, 12)), ((zrI cy 14 e6_19 6), (52, 6)), ((e7_20, .inl ((cy 22), 6, .inr (.inr (.inr (.inr (fun _ => none)))))), (61, 6)), ((e8_21, .inl ((cy 22), 24, .inr (.inr (.inr (.inr (fun _ => none)))))), (62, 24)), ((e10_22, .inl ((cy 20), 16, .inr (.inr (.inr (.inr (fun _ => none)))))), (20, 16)), ((e12_23, .inl ((cy 18), 1000, .inr (.inr (.inr (.inr (fun _ => none)))))), (18, 1000)), ((zrJ cy 15 e13_24 1000), (67, 1000)), ((e16a_26, .inl ((cy 22), 120, .inr (.inr (.inr (.inr (fun _ => none)))))), (63, 120)), ((zrI cy 14 e16b_27 120), (56, 120)), ((zrI cy 14 e16c_28 120), (57, 120)), ((e16_25, (b1_4 e16a_26 e16b_27 e16c_28 0)), (1, 0)), ((e17a_30, .inl ((cy 22), 20, .inr (.inr (.inr (.inr (fun _ => none)))))), (63, 20)), ((zrI cy 14 e17b_31 20), (56, 20)), ((zrI cy 14 e17c_32 20), (57, 20)), ((e17_29, (b1_4 e17a_30 e17b_31 e17c_32 0)), (1, 0)), ((zrI cy 14 e18a_34 60), (55, 60)), ((e18_33, (b10_15 e18a_34 0 0)), (10, 0)), ((e19a_36, .inl ((cy 21), 120, .inr (.inr (.inr (.inr (fun _ => none)))))), (21, 120)), ((zrJ cy 15 e19b_37 100), (66, 100)), ((e19_35, (b0_7 e19a_36 e19b_37 x4 0 0)), (0, 0)), ((q_11, (b2_2 (nI x1) k1 e2_17 e3_18 0 0 e6_19 e7_20 e8_21 0 e10_22 0 e12_23 e13_24 0 0 e16_25 e17_29 e18_33 e19_35)), (2, 0))]).map Prod.fst) ++ va_pl L M) := hD.part (cx := [(xa, (b11_1 x0 (nI x1) x2 (nI x3) x4 x5 x6 x7 x8 x9 x10)), (zrI cy 14 e3_18 12), (zrI cy 14 e6_19 6), (e7_20, .inl ((cy 22), 6, .inr (.inr (.inr (.inr (fun _ => none)))))), (e8_21, .inl ((cy 22), 24, .inr (.inr (.inr (.inr (fun _ => none)))))), (e10_22, .inl ((cy 20), 16, .inr (.inr (.inr (.inr (fun _ => none)))))), (e12_23, .inl ((cy 18), 1000, .inr (.inr (.inr (.inr (fun _ => none)))))), (zrJ cy 15 e13_24 1000), (e16a_26, .inl ((cy 22), 120, .inr (.inr (.inr (.inr (fun _ => none)))))), (zrI cy 14 e16b_27 120), (zrI cy 14 e16c_28 120), (e16_25, (b1_4 e16a_26 e16b_27 e16c_28 0)), (e17a_30, .inl ((cy 22), 20, .inr (.inr (.inr (.inr (fun _ => none)))))), (zrI cy 14 e17b_31 20), (zrI cy 14 e17c_32 20), (e17_29, (b1_4 e17a_30 e17b_31 e17c_32 0)), (zrI cy 14 e18a_34 60), (e18_33, (b10_15 e18a_34 0 0)), (e19a_36, .inl ((cy 21), 120, .inr (.inr (.inr (.inr (fun _ => none)))))), (zrJ cy 15 e19b_37 100), (e19_35, (b0_7 e19a_36 e19b_37 x4 0 0)), (q_11, (b2_2 (nI x1) k1 e2_17 e3_18 0 0 e6_19 e7_20 e8_21 0 e10_22 0 e12_23 e13_24 0 0 e16_25 e17_29 e18_33 e19_35))]) [0, 2, 3, 4, 5, 6, 7, 8, 9, 10, 11, 12, 13, 14, 15, 16, 17, 18, 19, 20, 21, 1] (by decide) rfl
        obtain ⟨K9, L9, M_55, hx9, hB9, hfr9, hN9, hP, hD⟩ := adoptB (K := K) ([((zrI cy 14 e3_18 12), (51, 12)), ((zrI cy 14 e6_19 6), (52, 6)), ((e7_20, .inl ((cy 22), 6, .inr (.inr (.inr (.inr (fun _ => none)))))), (61, 6)), ((e8_21, .inl ((cy 22), 24, .inr (.inr (.inr (.inr (fun _ => none)))))), (62, 24)), ((e10_22, .inl ((cy 20), 16, .inr (.inr (.inr (.inr (fun _ => none)))))), (20, 16)), ((e12_23, .inl ((cy 18), 1000, .inr (.inr (.inr (.inr (fun _ => none)))))), (18, 1000)), ((zrJ cy 15 e13_24 1000), (67, 1000)), ((e16a_26, .inl ((cy 22), 120, .inr (.inr (.inr (.inr (fun _ => none)))))), (63, 120)), ((zrI cy 14 e16b_27 120), (56, 120)), ((zrI cy 14 e16c_28 120), (57, 120)), ((e16_25, (b1_4 e16a_26 e16b_27 e16c_28 0)), (1, 0)), ((e17a_30, .inl ((cy 22), 20, .inr (.inr (.inr (.inr (fun _ => none)))))), (63, 20)), ((zrI cy 14 e17b_31 20), (56, 20)), ((zrI cy 14 e17c_32 20), (57, 20)), ((e17_29, (b1_4 e17a_30 e17b_31 e17c_32 0)), (1, 0)), ((zrI cy 14 e18a_34 60), (55, 60)), ((e18_33, (b10_15 e18a_34 0 0)), (10, 0)), ((e19a_36, .inl ((cy 21), 120, .inr (.inr (.inr (.inr (fun _ => none)))))), (21, 120)), ((zrJ cy 15 e19b_37 100), (66, 100)), ((e19_35, (b0_7 e19a_36 e19b_37 x4 0 0)), (0, 0)), ((q_11, (b2_2 (nI x1) k1 e2_17 e3_18 0 0 e6_19 e7_20 e8_21 0 e10_22 0 e12_23 e13_24 0 0 e16_25 e17_29 e18_33 e19_35)), (2, 0))]) ([(xa, (b11_1 x0 (nI x1) x2 (nI x3) x4 x5 x6 x7 x8 x9 x10))]) hP hD
        have jh0 := hB9 _ (List.mem_of_getElem? (i := 0) rfl)
        have jh1 := hB9 _ (List.mem_of_getElem? (i := 1) rfl)
        have jh2 := hB9 _ (List.mem_of_getElem? (i := 2) rfl)
        have jh3 := hB9 _ (List.mem_of_getElem? (i := 3) rfl)
        have jh4 := hB9 _ (List.mem_of_getElem? (i := 4) rfl)
        have jh5 := hB9 _ (List.mem_of_getElem? (i := 5) rfl)
        have jh6 := hB9 _ (List.mem_of_getElem? (i := 6) rfl)
        have jh7 := hB9 _ (List.mem_of_getElem? (i := 7) rfl)
        have jh8 := hB9 _ (List.mem_of_getElem? (i := 8) rfl)
        have jh9 := hB9 _ (List.mem_of_getElem? (i := 9) rfl)
        have jh10 := hB9 _ (List.mem_of_getElem? (i := 10) rfl)
        have jh11 := hB9 _ (List.mem_of_getElem? (i := 11) rfl)
        have jh12 := hB9 _ (List.mem_of_getElem? (i := 12) rfl)
        have jh13 := hB9 _ (List.mem_of_getElem? (i := 13) rfl)
        have jh14 := hB9 _ (List.mem_of_getElem? (i := 14) rfl)
        have jh15 := hB9 _ (List.mem_of_getElem? (i := 15) rfl)
        have jh16 := hB9 _ (List.mem_of_getElem? (i := 16) rfl)
        have jh17 := hB9 _ (List.mem_of_getElem? (i := 17) rfl)
        have jh18 := hB9 _ (List.mem_of_getElem? (i := 18) rfl)
        have jh19 := hB9 _ (List.mem_of_getElem? (i := 19) rfl)
        have jh20 := hB9 _ (List.mem_of_getElem? (i := 20) rfl)
        have hgB : ∀ x, x ∈ ([((zrI cy 14 e3_18 12), (51, 12)), ((zrI cy 14 e6_19 6), (52, 6)), ((e7_20, .inl ((cy 22), 6, .inr (.inr (.inr (.inr (fun _ => none)))))), (61, 6)), ((e8_21, .inl ((cy 22), 24, .inr (.inr (.inr (.inr (fun _ => none)))))), (62, 24)), ((e10_22, .inl ((cy 20), 16, .inr (.inr (.inr (.inr (fun _ => none)))))), (20, 16)), ((e12_23, .inl ((cy 18), 1000, .inr (.inr (.inr (.inr (fun _ => none)))))), (18, 1000)), ((zrJ cy 15 e13_24 1000), (67, 1000)), ((e16a_26, .inl ((cy 22), 120, .inr (.inr (.inr (.inr (fun _ => none)))))), (63, 120)), ((zrI cy 14 e16b_27 120), (56, 120)), ((zrI cy 14 e16c_28 120), (57, 120)), ((e16_25, (b1_4 e16a_26 e16b_27 e16c_28 0)), (1, 0)), ((e17a_30, .inl ((cy 22), 20, .inr (.inr (.inr (.inr (fun _ => none)))))), (63, 20)), ((zrI cy 14 e17b_31 20), (56, 20)), ((zrI cy 14 e17c_32 20), (57, 20)), ((e17_29, (b1_4 e17a_30 e17b_31 e17c_32 0)), (1, 0)), ((zrI cy 14 e18a_34 60), (55, 60)), ((e18_33, (b10_15 e18a_34 0 0)), (10, 0)), ((e19a_36, .inl ((cy 21), 120, .inr (.inr (.inr (.inr (fun _ => none)))))), (21, 120)), ((zrJ cy 15 e19b_37 100), (66, 100)), ((e19_35, (b0_7 e19a_36 e19b_37 x4 0 0)), (0, 0)), ((q_11, (b2_2 (nI x1) k1 e2_17 e3_18 0 0 e6_19 e7_20 e8_21 0 e10_22 0 e12_23 e13_24 0 0 e16_25 e17_29 e18_33 e19_35)), (2, 0))] : List ((Nat × va_E) × (Nat × Nat))) → gd cy K9 L9 x.2 x.1.2 := by
          refine mem_ix (fun i x hx => ?_)
          match i, hx with
          | 0, hx => cases hx; exact (show gd_51 cy K9 L9 12 _ from ⟨_, rfl⟩)
          | 1, hx => cases hx; exact (show gd_52 cy K9 L9 6 _ from ⟨_, rfl⟩)
          | 2, hx => cases hx; exact (show gd_61 cy K9 L9 6 _ from ⟨_, rfl, fun _ _ => iskN.none⟩)
          | 3, hx => cases hx; exact (show gd_62 cy K9 L9 24 _ from ⟨_, rfl, fun _ _ => iskN.none⟩)
          | 4, hx => cases hx; exact (show gd_20 cy K9 L9 16 _ from ⟨_, rfl, fun _ _ => iskN.none⟩)
          | 5, hx => cases hx; exact (show gd_18 cy K9 L9 1000 _ from ⟨_, rfl, fun _ _ => iskN.none⟩)
          | 6, hx => cases hx; exact (show gd_67 cy K9 L9 1000 _ from ⟨_, rfl⟩)
          | 7, hx => cases hx; exact (show gd_63 cy K9 L9 120 _ from ⟨_, rfl, fun _ _ => iskN.none⟩)
          | 8, hx => cases hx; exact (show gd_56 cy K9 L9 120 _ from ⟨_, rfl⟩)
          | 9, hx => cases hx; exact (show gd_57 cy K9 L9 120 _ from ⟨_, rfl⟩)
          | 10, hx => cases hx; exact (show gd_1 K9 L9 _ from ⟨120, e16a_26, e16b_27, e16c_28, 0, rfl, jh7.1, jh8.1, jh9.1, (by omega), (by decide)⟩)
          | 11, hx => cases hx; exact (show gd_63 cy K9 L9 20 _ from ⟨_, rfl, fun _ _ => iskN.none⟩)
          | 12, hx => cases hx; exact (show gd_56 cy K9 L9 20 _ from ⟨_, rfl⟩)
          | 13, hx => cases hx; exact (show gd_57 cy K9 L9 20 _ from ⟨_, rfl⟩)
          | 14, hx => cases hx; exact (show gd_1 K9 L9 _ from ⟨20, e17a_30, e17b_31, e17c_32, 0, rfl, jh11.1, jh12.1, jh13.1, (by omega), (by decide)⟩)
          | 15, hx => cases hx; exact (show gd_55 cy K9 L9 60 _ from ⟨_, rfl⟩)
          | 16, hx => cases hx; exact (show gd_10 K9 L9 _ from ⟨e18a_34, 0, 0, rfl, jh15.1⟩)
          | 17, hx => cases hx; exact (show gd_21 cy K9 L9 120 _ from ⟨_, rfl, fun _ _ => iskN.none⟩)
          | 18, hx => cases hx; exact (show gd_66 cy K9 L9 100 _ from ⟨_, rfl⟩)
          | 19, hx => cases hx; exact (show gd_0 K9 L9 _ from ⟨e19a_36, e19b_37, x4, 0, 0, rfl, jh17.1, jh18.1, (i4.ext hx9), (by omega)⟩)
          | 20, hx => cases hx; exact (show gd_2 K9 L9 _ from ⟨(nI x1), k1, e2_17, e3_18, 0, 0, e6_19, e7_20, e8_21, 0, e10_22, 0, e12_23, e13_24, 0, 0, e16_25, e17_29, e18_33, e19_35, rfl, jh0.1, (by omega), (by omega), jh1.1, jh2.1, jh3.1, (by omega), jh4.1, (by omega), jh5.1, jh6.1, jh10.1, jh14.1, jh16.1, jh19.1⟩)
          | n + 21, hx => exact absurd hx (by rw [show ([((zrI cy 14 e3_18 12), (51, 12)), ((zrI cy 14 e6_19 6), (52, 6)), ((e7_20, .inl ((cy 22), 6, .inr (.inr (.inr (.inr (fun _ => none)))))), (61, 6)), ((e8_21, .inl ((cy 22), 24, .inr (.inr (.inr (.inr (fun _ => none)))))), (62, 24)), ((e10_22, .inl ((cy 20), 16, .inr (.inr (.inr (.inr (fun _ => none)))))), (20, 16)), ((e12_23, .inl ((cy 18), 1000, .inr (.inr (.inr (.inr (fun _ => none)))))), (18, 1000)), ((zrJ cy 15 e13_24 1000), (67, 1000)), ((e16a_26, .inl ((cy 22), 120, .inr (.inr (.inr (.inr (fun _ => none)))))), (63, 120)), ((zrI cy 14 e16b_27 120), (56, 120)), ((zrI cy 14 e16c_28 120), (57, 120)), ((e16_25, (b1_4 e16a_26 e16b_27 e16c_28 0)), (1, 0)), ((e17a_30, .inl ((cy 22), 20, .inr (.inr (.inr (.inr (fun _ => none)))))), (63, 20)), ((zrI cy 14 e17b_31 20), (56, 20)), ((zrI cy 14 e17c_32 20), (57, 20)), ((e17_29, (b1_4 e17a_30 e17b_31 e17c_32 0)), (1, 0)), ((zrI cy 14 e18a_34 60), (55, 60)), ((e18_33, (b10_15 e18a_34 0 0)), (10, 0)), ((e19a_36, .inl ((cy 21), 120, .inr (.inr (.inr (.inr (fun _ => none)))))), (21, 120)), ((zrJ cy 15 e19b_37 100), (66, 100)), ((e19_35, (b0_7 e19a_36 e19b_37 x4 0 0)), (0, 0)), ((q_11, (b2_2 (nI x1) k1 e2_17 e3_18 0 0 e6_19 e7_20 e8_21 0 e10_22 0 e12_23 e13_24 0 0 e16_25 e17_29 e18_33 e19_35)), (2, 0))] : List ((Nat × va_E) × (Nat × Nat)))[n + 21]? = none from rfl]; intro z; cases z)
        have h2B : ∀ x, x ∈ ([((zrI cy 14 e3_18 12), (51, 12)), ((zrI cy 14 e6_19 6), (52, 6)), ((e7_20, .inl ((cy 22), 6, .inr (.inr (.inr (.inr (fun _ => none)))))), (61, 6)), ((e8_21, .inl ((cy 22), 24, .inr (.inr (.inr (.inr (fun _ => none)))))), (62, 24)), ((e10_22, .inl ((cy 20), 16, .inr (.inr (.inr (.inr (fun _ => none)))))), (20, 16)), ((e12_23, .inl ((cy 18), 1000, .inr (.inr (.inr (.inr (fun _ => none)))))), (18, 1000)), ((zrJ cy 15 e13_24 1000), (67, 1000)), ((e16a_26, .inl ((cy 22), 120, .inr (.inr (.inr (.inr (fun _ => none)))))), (63, 120)), ((zrI cy 14 e16b_27 120), (56, 120)), ((zrI cy 14 e16c_28 120), (57, 120)), ((e16_25, (b1_4 e16a_26 e16b_27 e16c_28 0)), (1, 0)), ((e17a_30, .inl ((cy 22), 20, .inr (.inr (.inr (.inr (fun _ => none)))))), (63, 20)), ((zrI cy 14 e17b_31 20), (56, 20)), ((zrI cy 14 e17c_32 20), (57, 20)), ((e17_29, (b1_4 e17a_30 e17b_31 e17c_32 0)), (1, 0)), ((zrI cy 14 e18a_34 60), (55, 60)), ((e18_33, (b10_15 e18a_34 0 0)), (10, 0)), ((e19a_36, .inl ((cy 21), 120, .inr (.inr (.inr (.inr (fun _ => none)))))), (21, 120)), ((zrJ cy 15 e19b_37 100), (66, 100)), ((e19_35, (b0_7 e19a_36 e19b_37 x4 0 0)), (0, 0)), ((q_11, (b2_2 (nI x1) k1 e2_17 e3_18 0 0 e6_19 e7_20 e8_21 0 e10_22 0 e12_23 e13_24 0 0 e16_25 e17_29 e18_33 e19_35)), (2, 0))] : List ((Nat × va_E) × (Nat × Nat))) → x.2.1 = 2 → x.1.1 = q_11 := by
          refine mem_ix (fun i x hx => ?_)
          match i, hx with
          | 0, hx => cases hx; exact fun z => absurd z (show ¬ 51 = 2 by decide)
          | 1, hx => cases hx; exact fun z => absurd z (show ¬ 52 = 2 by decide)
          | 2, hx => cases hx; exact fun z => absurd z (show ¬ 61 = 2 by decide)
          | 3, hx => cases hx; exact fun z => absurd z (show ¬ 62 = 2 by decide)
          | 4, hx => cases hx; exact fun z => absurd z (show ¬ 20 = 2 by decide)
          | 5, hx => cases hx; exact fun z => absurd z (show ¬ 18 = 2 by decide)
          | 6, hx => cases hx; exact fun z => absurd z (show ¬ 67 = 2 by decide)
          | 7, hx => cases hx; exact fun z => absurd z (show ¬ 63 = 2 by decide)
          | 8, hx => cases hx; exact fun z => absurd z (show ¬ 56 = 2 by decide)
          | 9, hx => cases hx; exact fun z => absurd z (show ¬ 57 = 2 by decide)
          | 10, hx => cases hx; exact fun z => absurd z (show ¬ 1 = 2 by decide)
          | 11, hx => cases hx; exact fun z => absurd z (show ¬ 63 = 2 by decide)
          | 12, hx => cases hx; exact fun z => absurd z (show ¬ 56 = 2 by decide)
          | 13, hx => cases hx; exact fun z => absurd z (show ¬ 57 = 2 by decide)
          | 14, hx => cases hx; exact fun z => absurd z (show ¬ 1 = 2 by decide)
          | 15, hx => cases hx; exact fun z => absurd z (show ¬ 55 = 2 by decide)
          | 16, hx => cases hx; exact fun z => absurd z (show ¬ 10 = 2 by decide)
          | 17, hx => cases hx; exact fun z => absurd z (show ¬ 21 = 2 by decide)
          | 18, hx => cases hx; exact fun z => absurd z (show ¬ 66 = 2 by decide)
          | 19, hx => cases hx; exact fun z => absurd z (show ¬ 0 = 2 by decide)
          | 20, hx => cases hx; exact fun _ => rfl
          | n + 21, hx => exact absurd hx (by rw [show ([((zrI cy 14 e3_18 12), (51, 12)), ((zrI cy 14 e6_19 6), (52, 6)), ((e7_20, .inl ((cy 22), 6, .inr (.inr (.inr (.inr (fun _ => none)))))), (61, 6)), ((e8_21, .inl ((cy 22), 24, .inr (.inr (.inr (.inr (fun _ => none)))))), (62, 24)), ((e10_22, .inl ((cy 20), 16, .inr (.inr (.inr (.inr (fun _ => none)))))), (20, 16)), ((e12_23, .inl ((cy 18), 1000, .inr (.inr (.inr (.inr (fun _ => none)))))), (18, 1000)), ((zrJ cy 15 e13_24 1000), (67, 1000)), ((e16a_26, .inl ((cy 22), 120, .inr (.inr (.inr (.inr (fun _ => none)))))), (63, 120)), ((zrI cy 14 e16b_27 120), (56, 120)), ((zrI cy 14 e16c_28 120), (57, 120)), ((e16_25, (b1_4 e16a_26 e16b_27 e16c_28 0)), (1, 0)), ((e17a_30, .inl ((cy 22), 20, .inr (.inr (.inr (.inr (fun _ => none)))))), (63, 20)), ((zrI cy 14 e17b_31 20), (56, 20)), ((zrI cy 14 e17c_32 20), (57, 20)), ((e17_29, (b1_4 e17a_30 e17b_31 e17c_32 0)), (1, 0)), ((zrI cy 14 e18a_34 60), (55, 60)), ((e18_33, (b10_15 e18a_34 0 0)), (10, 0)), ((e19a_36, .inl ((cy 21), 120, .inr (.inr (.inr (.inr (fun _ => none)))))), (21, 120)), ((zrJ cy 15 e19b_37 100), (66, 100)), ((e19_35, (b0_7 e19a_36 e19b_37 x4 0 0)), (0, 0)), ((q_11, (b2_2 (nI x1) k1 e2_17 e3_18 0 0 e6_19 e7_20 e8_21 0 e10_22 0 e12_23 e13_24 0 0 e16_25 e17_29 e18_33 e19_35)), (2, 0))] : List ((Nat × va_E) × (Nat × Nat)))[n + 21]? = none from rfl]; intro z; cases z)
        have h4B : ∀ x, x ∈ ([((zrI cy 14 e3_18 12), (51, 12)), ((zrI cy 14 e6_19 6), (52, 6)), ((e7_20, .inl ((cy 22), 6, .inr (.inr (.inr (.inr (fun _ => none)))))), (61, 6)), ((e8_21, .inl ((cy 22), 24, .inr (.inr (.inr (.inr (fun _ => none)))))), (62, 24)), ((e10_22, .inl ((cy 20), 16, .inr (.inr (.inr (.inr (fun _ => none)))))), (20, 16)), ((e12_23, .inl ((cy 18), 1000, .inr (.inr (.inr (.inr (fun _ => none)))))), (18, 1000)), ((zrJ cy 15 e13_24 1000), (67, 1000)), ((e16a_26, .inl ((cy 22), 120, .inr (.inr (.inr (.inr (fun _ => none)))))), (63, 120)), ((zrI cy 14 e16b_27 120), (56, 120)), ((zrI cy 14 e16c_28 120), (57, 120)), ((e16_25, (b1_4 e16a_26 e16b_27 e16c_28 0)), (1, 0)), ((e17a_30, .inl ((cy 22), 20, .inr (.inr (.inr (.inr (fun _ => none)))))), (63, 20)), ((zrI cy 14 e17b_31 20), (56, 20)), ((zrI cy 14 e17c_32 20), (57, 20)), ((e17_29, (b1_4 e17a_30 e17b_31 e17c_32 0)), (1, 0)), ((zrI cy 14 e18a_34 60), (55, 60)), ((e18_33, (b10_15 e18a_34 0 0)), (10, 0)), ((e19a_36, .inl ((cy 21), 120, .inr (.inr (.inr (.inr (fun _ => none)))))), (21, 120)), ((zrJ cy 15 e19b_37 100), (66, 100)), ((e19_35, (b0_7 e19a_36 e19b_37 x4 0 0)), (0, 0)), ((q_11, (b2_2 (nI x1) k1 e2_17 e3_18 0 0 e6_19 e7_20 e8_21 0 e10_22 0 e12_23 e13_24 0 0 e16_25 e17_29 e18_33 e19_35)), (2, 0))] : List ((Nat × va_E) × (Nat × Nat))) → x.2.1 ≠ 4 := by
          refine mem_ix (fun i x hx => ?_)
          match i, hx with
          | 0, hx => cases hx; exact (show ¬ 51 = 4 by decide)
          | 1, hx => cases hx; exact (show ¬ 52 = 4 by decide)
          | 2, hx => cases hx; exact (show ¬ 61 = 4 by decide)
          | 3, hx => cases hx; exact (show ¬ 62 = 4 by decide)
          | 4, hx => cases hx; exact (show ¬ 20 = 4 by decide)
          | 5, hx => cases hx; exact (show ¬ 18 = 4 by decide)
          | 6, hx => cases hx; exact (show ¬ 67 = 4 by decide)
          | 7, hx => cases hx; exact (show ¬ 63 = 4 by decide)
          | 8, hx => cases hx; exact (show ¬ 56 = 4 by decide)
          | 9, hx => cases hx; exact (show ¬ 57 = 4 by decide)
          | 10, hx => cases hx; exact (show ¬ 1 = 4 by decide)
          | 11, hx => cases hx; exact (show ¬ 63 = 4 by decide)
          | 12, hx => cases hx; exact (show ¬ 56 = 4 by decide)
          | 13, hx => cases hx; exact (show ¬ 57 = 4 by decide)
          | 14, hx => cases hx; exact (show ¬ 1 = 4 by decide)
          | 15, hx => cases hx; exact (show ¬ 55 = 4 by decide)
          | 16, hx => cases hx; exact (show ¬ 10 = 4 by decide)
          | 17, hx => cases hx; exact (show ¬ 21 = 4 by decide)
          | 18, hx => cases hx; exact (show ¬ 66 = 4 by decide)
          | 19, hx => cases hx; exact (show ¬ 0 = 4 by decide)
          | 20, hx => cases hx; exact (show ¬ 2 = 4 by decide)
          | n + 21, hx => exact absurd hx (by rw [show ([((zrI cy 14 e3_18 12), (51, 12)), ((zrI cy 14 e6_19 6), (52, 6)), ((e7_20, .inl ((cy 22), 6, .inr (.inr (.inr (.inr (fun _ => none)))))), (61, 6)), ((e8_21, .inl ((cy 22), 24, .inr (.inr (.inr (.inr (fun _ => none)))))), (62, 24)), ((e10_22, .inl ((cy 20), 16, .inr (.inr (.inr (.inr (fun _ => none)))))), (20, 16)), ((e12_23, .inl ((cy 18), 1000, .inr (.inr (.inr (.inr (fun _ => none)))))), (18, 1000)), ((zrJ cy 15 e13_24 1000), (67, 1000)), ((e16a_26, .inl ((cy 22), 120, .inr (.inr (.inr (.inr (fun _ => none)))))), (63, 120)), ((zrI cy 14 e16b_27 120), (56, 120)), ((zrI cy 14 e16c_28 120), (57, 120)), ((e16_25, (b1_4 e16a_26 e16b_27 e16c_28 0)), (1, 0)), ((e17a_30, .inl ((cy 22), 20, .inr (.inr (.inr (.inr (fun _ => none)))))), (63, 20)), ((zrI cy 14 e17b_31 20), (56, 20)), ((zrI cy 14 e17c_32 20), (57, 20)), ((e17_29, (b1_4 e17a_30 e17b_31 e17c_32 0)), (1, 0)), ((zrI cy 14 e18a_34 60), (55, 60)), ((e18_33, (b10_15 e18a_34 0 0)), (10, 0)), ((e19a_36, .inl ((cy 21), 120, .inr (.inr (.inr (.inr (fun _ => none)))))), (21, 120)), ((zrJ cy 15 e19b_37 100), (66, 100)), ((e19_35, (b0_7 e19a_36 e19b_37 x4 0 0)), (0, 0)), ((q_11, (b2_2 (nI x1) k1 e2_17 e3_18 0 0 e6_19 e7_20 e8_21 0 e10_22 0 e12_23 e13_24 0 0 e16_25 e17_29 e18_33 e19_35)), (2, 0))] : List ((Nat × va_E) × (Nat × Nat)))[n + 21]? = none from rfl]; intro z; cases z)
        have hN20 : ∀ a, isk K9 L9 a 2 0 → isk K0 L0 a 2 0 ∨ a = q_11 := fun a ha => by
          rcases hN9 a ha.1 with q | ⟨x, g1, g2⟩
          · exact Or.inl (by have h9 : isk K L a 2 0 := ⟨q, ((hx9 a q).2).symm.trans ha.2⟩; rw [hKe, hLe] at h9; exact h9)
          · have g3 := (hB9 x g1).1
            rw [← g2] at g3
            exact Or.inr (g2.trans (h2B x g1 (g3.un ha)))
        have hN40 : ∀ a, isk K9 L9 a 4 0 → isk K0 L0 a 4 0 := fun a ha => by
          rcases hN9 a ha.1 with q | ⟨x, g1, g2⟩
          · have h9 : isk K L a 4 0 := ⟨q, ((hx9 a q).2).symm.trans ha.2⟩; rw [hKe, hLe] at h9; exact h9
          · have g3 := (hB9 x g1).1
            rw [← g2] at g3
            exact absurd (g3.un ha) (h4B x g1)
        have hfr0 : ∀ a, a ∈ L0 → M_55 a = M0 a := fun a q => (hfr9 a (by rw [hLe]; exact q)).trans (by rw [hMe])
        have hf17 : ∀ z, z ∈ [q_11, e3_18, e6_19, e7_20, e8_21, e10_22, e12_23, e16_25, e17_29, e18_33, e16a_26, e16b_27, e16c_28, e17a_30, e17b_31, e17c_32, e18a_34] → z ∉ L0 := fun z hz => by
          rw [← hLe]
          simp only [List.mem_cons, List.not_mem_nil, or_false] at hz
          rcases hz with hz | hz | hz | hz | hz | hz | hz | hz | hz | hz | hz | hz | hz | hz | hz | hz | hz
          · rw [hz]; exact jh20.2.2
          · rw [hz]; exact jh0.2.2
          · rw [hz]; exact jh1.2.2
          · rw [hz]; exact jh2.2.2
          · rw [hz]; exact jh3.2.2
          · rw [hz]; exact jh4.2.2
          · rw [hz]; exact jh5.2.2
          · rw [hz]; exact jh10.2.2
          · rw [hz]; exact jh14.2.2
          · rw [hz]; exact jh16.2.2
          · rw [hz]; exact jh7.2.2
          · rw [hz]; exact jh8.2.2
          · rw [hz]; exact jh9.2.2
          · rw [hz]; exact jh11.2.2
          · rw [hz]; exact jh12.2.2
          · rw [hz]; exact jh13.2.2
          · rw [hz]; exact jh15.2.2
        have hW := WOK.pushB hW hx9 hB9 hfr9 hN9 hgB
        have hF : fr K0 L0 [17] M0 M_55 := hF.adX hX0 hfr9
        have hX0 := hX0.tr hx9
        have hM_56 : M_55 x0 = .inl (cy 17, 8, .inr (.inr (.inr (.inr (f1))))) := (hfr9 _ i0.1).trans hM1
        have i_57 := i0.ext hx9
        have i_58 := i2.ext hx9
        have i_59 := i4.ext hx9
        have i_60 := i5.ext hx9
        have i_61 := i6.ext hx9
        have i_62 := i8.ext hx9
        have hf_63 := fun j q => (hf1 j q).ext hx9
        obtain ⟨K, L, hK9, hL9⟩ : ∃ (K : Kp) (L : List Nat), K = K9 ∧ L = L9 := ⟨_, _, rfl, rfl⟩
        subst hK9
        subst hL9
        have iHH : isk K L q_11 2 0 := jh20.1
        have hP : va_P D vwCl ([(xa, (b11_1 x0 (nI x1) x2 (nI x3) x4 x5 x6 x7 x8 x9 x10))] ++ va_pl L M_55) H_13 := hP
        have hD : va_D A ([(xa, (b11_1 x0 (nI x1) x2 (nI x3) x4 x5 x6 x7 x8 x9 x10))] ++ va_pl L M_55) := hD
        obtain ⟨v65_0, v65_1, v65_2, v65_3, v65_4, v65_5, v65_6, v65_7, v65_8, v65_9, v65_10, v65_11, v65_12, v65_13, v65_14, v65_15, v65_16, v65_17, v65_18, v65_19, hM65, h65_3, h65_4, h65_5, h65_6, h65_7, h65_8, h65_9, h65_10, h65_11, h65_12, h65_13, h65_16, h65_17, h65_18, h65_19⟩ := hW.open_2 iHH
        refine pg_astq (r := (RX2, TX2, 20)) hx hb hK hP hD hS i_57.1 3 2 hM_56 rfl iHH.1 hM65 rfl (inbN x1 8 (by omega) (by omega)) dX11_house_57 (fun H_64 locs hP hD hS => ?_)
        obtain ⟨M_66, eM_66⟩ : ∃ M1 : Hp, M1 = va_up M_55 x0 (.inl (cy 17, 8, .inr (.inr (.inr (.inr (va_up f1 ((nI x1) : Int32).toNatClampNeg (some q_11))))))) := ⟨_, rfl⟩
        have hP : va_P D vwCl ([(xa, (b11_1 x0 (nI x1) x2 (nI x3) x4 x5 x6 x7 x8 x9 x10))] ++ va_pl L M_66) H_64 := by rw [eM_66]; exact hP
        have hD : va_D A ([(xa, (b11_1 x0 (nI x1) x2 (nI x3) x4 x5 x6 x7 x8 x9 x10))] ++ va_pl L M_66) := by rw [eM_66]; exact hD
        have hW : WOK cy K L M_66 := by rw [eM_66]; exact hW.up_17 i_57 ⟨_, rfl, (upN hf_63 iHH)⟩
        have hF : fr K0 L0 [17] M0 M_66 := by rw [eM_66]; exact hF.upX hX0 i_57 (by decide)
        have hM_67 : M_66 x0 = .inl (cy 17, 8, .inr (.inr (.inr (.inr (va_up f1 ((nI x1) : Int32).toNatClampNeg (some q_11)))))) := by rw [eM_66]; exact va_up_self _ _ _
        have hM_68 : M_66 q_11 = (b2_2 v65_0 v65_1 v65_2 v65_3 (nI v65_4) (nI v65_5) v65_6 v65_7 v65_8 (nI v65_9) v65_10 (nI v65_11) v65_12 v65_13 v65_14 v65_15 v65_16 v65_17 v65_18 v65_19) := by rw [eM_66, va_up_ne _ _ (iHH.neT i_57 (by decide))]; exact hM65
        have hf_70 : ∀ j, j < 8 → iskN K L ((va_up f1 ((nI x1) : Int32).toNatClampNeg (some q_11)) j) 2 0 := (upN hf_63 iHH)
        obtain ⟨f_69, ef_69⟩ : ∃ f : Nat → Option Nat, f = va_up f1 ((nI x1) : Int32).toNatClampNeg (some q_11) := ⟨_, rfl⟩
        rw [← ef_69] at hM_67 hf_70
        have hk_71 : f_69 ((nI x1) : Int32).toNatClampNeg = some q_11 := by rw [ef_69]; exact va_up_self _ _ _
        refine lv_aload_n hx hb dX11_house_58 rfl (lv_at hl 0 rfl) ?_
        refine lv_dup hx hb dX11_house_59 rfl ?_
        refine va_get (D := D) (ci := 11) (v := .int (nI x1)) (C := RX11) (T := TX11) (N := 11) hx hb hg inG11 hown hK hP 0 rfl rfl 1 (by decide) (hg _ wd_336) (fun _ h9 => h9) rfl dX11_house_60 ?_
        refine lv_iconst (v := 1) hx hb dX11_house_63 (by decide) ?_
        refine lv_iadd hx hb dX11_house_64 ?_
        refine lv_topi (fun f_72 ef_72 => ?_)
        obtain rfl : f_72 = (nI (x1 + 1)) := ef_72.trans (nI_add x1 1)
        refine va_put (D := D) (ci := 11) (v := .int (nI (x1 + 1))) (ty := .int) (C := RX11) (T := TX11) (N := 11) hx hb hg inG11 tyX11 tyX11_ok nmX11 hown hK hP hD hS 0 rfl rfl 1 (by decide) (hg _ wd_336) (fun _ h9 => h9) rfl (by decide +kernel) rfl rfl (Nat.le_of_ble_eq_true rfl) dX11_house_65 (fun H_73 locs hP hD hS => ?_)
        have hP : va_P D vwCl ([(xa, (b11_1 x0 (nI (x1 + 1)) x2 (nI x3) x4 x5 x6 x7 x8 x9 x10))] ++ va_pl L M_66) H_73 := hP
        have hD : va_D A ([(xa, (b11_1 x0 (nI (x1 + 1)) x2 (nI x3) x4 x5 x6 x7 x8 x9 x10))] ++ va_pl L M_66) := hD
        refine lv_aload_n hx hb dX11_house_68 rfl (lv_at hl 0 rfl) ?_
        refine lv_aload_n hx hb dX11_house_69 rfl (lv_at hl 0 rfl) ?_
        refine va_get (D := D) (ci := 11) (v := .int (nI (x1 + 1))) (C := RX11) (T := TX11) (N := 11) hx hb hg inG11 hown hK hP 0 rfl rfl 1 (by decide) (hg _ wd_336) (fun _ h9 => h9) rfl dX11_house_70 ?_
        refine lv_iconst (v := 1) hx hb dX11_house_73 (by decide) ?_
        refine lv_isub hx hb dX11_house_74 ?_
        refine lv_topi (fun f_74 ef_74 => ?_)
        obtain rfl : f_74 = (nI ((x1 + 1) - 1)) := ef_74.trans (nI_prd (by omega))
        have hPc := hP.sub (ws' := [(xa, (b11_1 x0 (nI (x1 + 1)) x2 (nI x3) x4 x5 x6 x7 x8 x9 x10))]) [0] rfl
        have hDc := hD.sub (ws' := [(xa, (b11_1 x0 (nI (x1 + 1)) x2 (nI x3) x4 x5 x6 x7 x8 x9 x10))]) [0] (by decide) rfl
        have hKc := hK.sub (tys' := []) [] rfl
        have hFc := va_free (wc := [(xa, (b11_1 x0 (nI (x1 + 1)) x2 (nI x3) x4 x5 x6 x7 x8 x9 x10))]) hD hS hA [0] rfl
        refine va_calli (va_runV (As := [.int (nI ((x1 + 1) - 1))]) (rest := []) ⟨hx, hb, hml, hown, hg⟩ (k_accept l D H_73.size xa x0 (nI (x1 + 1)) x2 (nI x3) x4 x5 x6 x7 x8 x9 x10 (nI ((x1 + 1) - 1))) (cwV 1 hg (gV wd_356 wd_357 wd_358 wd_3 wd_359) rfl rfl rfl (by decide +kernel) ⟨(Nat.le_trans (Nat.le_of_ble_eq_true rfl) hRf), (Nat.le_trans (Nat.le_of_ble_eq_true rfl) hRl)⟩) ⟨Pr.blind, va_recv hK hP (ci := 11) (q0 := 0) rfl rfl, fun U hU hW => ⟨rfl, Pr.at hPc hKc hDc hN hU hW⟩⟩ rfl rfl hl.1 rfl (lv_room (Nat.le_of_ble_eq_true rfl)) dX11_house_75 ⟨(Nat.le_trans (Nat.le_of_ble_eq_true rfl) hRc), (Nat.le_trans (Nat.le_of_ble_eq_true rfl) hRs)⟩) hS (fun q _ h => hFc q h) hFc (fun r_76 M_77 t H_75 locs ht hvm hw hB hz1 hk1 hS => ?_)
        have hp_78 := hw
        obtain ⟨hP1, hK1, hD1⟩ := hB
        rw [ht] at hP1
        obtain ⟨hP, hD⟩ := va_joinQ (X := [(xa, (b11_1 x0 (nI (x1 + 1)) x2 (nI x3) x4 x5 x6 x7 x8 x9 x10))]) (cx := [(xa, (b11_1 x0 (nI (x1 + 1)) x2 (nI x3) x4 x5 x6 x7 x8 x9 x10))]) (wr := []) (w1 := [(xa, (b11_1 x0 (nI (x1 + 1)) x2 (nI x3) x4 x5 x6 x7 x8 0 (-1)))]) (pl := va_pl L M_66) hP hD [0] [] rfl rfl (by decide) (by decide) hk1 hFc hP1 hD1
        have hP : va_P D vwCl ([(xa, (b11_1 x0 (nI (x1 + 1)) x2 (nI x3) x4 x5 x6 x7 x8 0 (-1)))] ++ va_pl L M_66) H_75 := hP
        have hD : va_D A ([(xa, (b11_1 x0 (nI (x1 + 1)) x2 (nI x3) x4 x5 x6 x7 x8 0 (-1)))] ++ va_pl L M_66) := hD
        have hq := Eq.symm hp_78
        subst hq
        have hE : cntH k1 x1 = (x1 + 1) := by unfold cntH; rw [if_neg c_2, if_pos c_8, if_neg (by omega)]
        have hP : va_P D vwCl ([(xa, (b11_1 x0 (nI (cntH k1 x1)) x2 (nI x3) x4 x5 x6 x7 x8 0 (-1)))] ++ va_pl L M_66) H_75 := by rw [hE]; exact hP
        have hD : va_D A ([(xa, (b11_1 x0 (nI (cntH k1 x1)) x2 (nI x3) x4 x5 x6 x7 x8 0 (-1)))] ++ va_pl L M_66) := by rw [hE]; exact hD
        have hI_79 : (0 : Int) ≤ (k1 : Int32).toInt := inltI rfl rfl c_2
        have hI_80 : (k1 : Int32).toInt ≤ (900 : Int) := ileI rfl rfl c_8
        have hI_81 : ((x1 : Nat) : Int) < (8 : Int) := iltI (nI_toInt (by omega)) rfl c_9
        have hyes : okHo x1 k1 := by unfold okHo; omega
        have h09 : RFc (M_66 x0) = va_up (RFc (M0 x0)) x1 (some q_11) := by rw [RFc_of hM_67, ef_69, nI_cl (by omega), RFc_of hM0z]
        have hz9 : ∀ z t n, isk K L z t n → t ≠ 17 → M_66 z = M_55 z := fun z t n i q => by rw [eM_66]; exact va_up_ne _ _ (i.neT i_57 q)
        have hM9 : ∀ a, a ∈ L0 → a ≠ x0 → M_66 a = M0 a := fun a q z => by rw [eM_66, va_up_ne _ _ z]; exact hfr0 a q
        have he9 : (e2_17 : Int32).toInt = k1.toInt - 1 := isubI (a := k1.toInt) (b := 1) rfl rfl hg_54 (by omega) (by omega)
        rw [hQ]
        exact W.iret (v := (nI ((x1 + 1) - 1))) hx hb hr (fun t ht hW9 => ⟨⟨(nI ((x1 + 1) - 1)), (K, L, M_66), rfl, ⟨hX0, hW, hF, (by unfold ansH; rw [if_neg c_2, if_pos c_8, if_neg (by omega)]; first | done | rfl)⟩, ⟨0, (fun X9 Y9 hF9 => by rw [hE]; unfold sxHo syHo; rw [if_pos hyes, if_pos hyes]; exact CX.house hC00 hW00 i000 (by omega) hT.1 hM9 hX0 h09 hN20 hN40 ((hz9 _ 2 0 jh20.1 (by decide)).trans jh20.2.1) ((hz9 _ 1 0 jh10.1 (by decide)).trans jh10.2.1) ((hz9 _ 1 0 jh14.1 (by decide)).trans jh14.2.1) ((hz9 _ 10 0 jh16.1 (by decide)).trans jh16.2.1) (congrArg RFc ((hz9 _ 61 6 jh2.1 (by decide)).trans jh2.2.1)) (congrArg RFc ((hz9 _ 62 24 jh3.1 (by decide)).trans jh3.2.1)) (congrArg RFc ((hz9 _ 20 16 jh4.1 (by decide)).trans jh4.2.1)) (congrArg RFc ((hz9 _ 18 1000 jh5.1 (by decide)).trans jh5.2.1)) (congrArg IFc ((hz9 _ 52 6 jh1.1 (by decide)).trans jh1.2.1)) jh0.1 jh1.1 jh2.1 jh3.1 jh4.1 jh5.1 jh10.1 jh14.1 jh16.1 jh7.1 jh8.1 jh9.1 jh11.1 jh12.1 jh13.1 jh15.1 hf17 (hF9 hyes) he9), (by rw [hE]; exact PX.house hPX00 hW00 i000 i200 b3 hM9 h09), (fun X9 Y9 hF9 => by rw [hE]; unfold sxHo; rw [if_pos hyes]; exact SCX.house hSC00 hW00 i000 (by omega) hM9 h09 (cR_of (j := 19) ((hz9 _ 2 0 jh20.1 (by decide)).trans jh20.2.1) rfl) (by rw [← hLe]; exact jh19.2.2) (by rw [cV_of (j := 3) ((hz9 _ 0 0 jh19.1 (by decide)).trans jh19.2.1) rfl]; exact (hF9 hyes).2.2.2.2.2.2.symm)), by rw [ht]; exact hP, hD⟩⟩, hS.F ht⟩) hS.2.2 dX11_house_78
      · have hz := rfl (a := 0)
        have n_82 : ¬ (x1 < 8) := fun q => c_9 ((iLT (a := x1) (b := 8) (by omega) (by omega)).mpr q)
        refine lv_aload_n hx hb dX11_house_26 rfl (lv_at hl 0 rfl) ?_
        refine lv_bipush (v := 9) hx hb dX11_house_27 (by decide) ?_
        have hPc := hP.sub (ws' := [(xa, (b11_1 x0 (nI x1) x2 (nI x3) x4 x5 x6 x7 x8 x9 x10))]) [0] rfl
        have hDc := hD.sub (ws' := [(xa, (b11_1 x0 (nI x1) x2 (nI x3) x4 x5 x6 x7 x8 x9 x10))]) [0] (by decide) rfl
        have hKc := hK.sub (tys' := []) [] rfl
        have hFc := va_free (wc := [(xa, (b11_1 x0 (nI x1) x2 (nI x3) x4 x5 x6 x7 x8 x9 x10))]) hD hS hA [0] rfl
        refine va_calli (va_runV (As := [.int 9]) (rest := []) ⟨hx, hb, hml, hown, hg⟩ (k_refuse l D s.heap.size xa x0 (nI x1) x2 (nI x3) x4 x5 x6 x7 x8 x9 x10 9) (cwV 1 hg (gV wd_344 wd_345 wd_346 wd_3 wd_347) rfl rfl rfl (by decide +kernel) ⟨(Nat.le_trans (Nat.le_of_ble_eq_true rfl) hRf), (Nat.le_trans (Nat.le_of_ble_eq_true rfl) hRl)⟩) ⟨Pr.blind, va_recv hK hP (ci := 11) (q0 := 0) rfl rfl, fun U hU hW => ⟨rfl, Pr.at hPc hKc hDc hN hU hW⟩⟩ rfl rfl hl.1 rfl (lv_room (Nat.le_of_ble_eq_true rfl)) dX11_house_29 ⟨(Nat.le_trans (Nat.le_of_ble_eq_true rfl) hRc), (Nat.le_trans (Nat.le_of_ble_eq_true rfl) hRs)⟩) hS (fun q _ h => hFc q h) hFc (fun r_84 M_85 t H_83 locs ht hvm hw hB hz1 hk1 hS => ?_)
        have hp_86 := hw
        obtain ⟨hP1, hK1, hD1⟩ := hB
        rw [ht] at hP1
        obtain ⟨hP, hD⟩ := va_joinQ (X := [(xa, (b11_1 x0 (nI x1) x2 (nI x3) x4 x5 x6 x7 x8 x9 x10))]) (cx := [(xa, (b11_1 x0 (nI x1) x2 (nI x3) x4 x5 x6 x7 x8 x9 x10))]) (wr := []) (w1 := [(xa, (b11_1 x0 (nI x1) x2 (nI x3) x4 x5 x6 x7 x8 9 (-1)))]) (pl := va_pl L M) hP hD [0] [] rfl rfl (by decide) (by decide) hk1 hFc hP1 hD1
        have hP : va_P D vwCl ([(xa, (b11_1 x0 (nI x1) x2 (nI x3) x4 x5 x6 x7 x8 9 (-1)))] ++ va_pl L M) H_83 := hP
        have hD : va_D A ([(xa, (b11_1 x0 (nI x1) x2 (nI x3) x4 x5 x6 x7 x8 9 (-1)))] ++ va_pl L M) := hD
        have hq := Eq.symm hp_86
        subst hq
        refine W.widen (k := 21) (n := 2800) (Nat.le_of_ble_eq_true rfl) (Nat.le_of_ble_eq_true rfl) ?_
        have hE : cntH k1 x1 = x1 := by unfold cntH; rw [if_neg c_2, if_pos c_8, if_pos (by omega)]
        have hP : va_P D vwCl ([(xa, (b11_1 x0 (nI (cntH k1 x1)) x2 (nI x3) x4 x5 x6 x7 x8 9 (-1)))] ++ va_pl L M) H_83 := by rw [hE]; exact hP
        have hD : va_D A ([(xa, (b11_1 x0 (nI (cntH k1 x1)) x2 (nI x3) x4 x5 x6 x7 x8 9 (-1)))] ++ va_pl L M) := by rw [hE]; exact hD
        have hI_87 : (0 : Int) ≤ (k1 : Int32).toInt := inltI rfl rfl c_2
        have hI_88 : (k1 : Int32).toInt ≤ (900 : Int) := ileI rfl rfl c_8
        have hI_89 : (8 : Int) ≤ ((x1 : Nat) : Int) := inltI (nI_toInt (by omega)) rfl c_9
        have hno : ¬ okHo x1 k1 := fun q9 => by unfold okHo at q9; omega
        rw [hQ]
        exact W.iret (v := (-1)) hx hb hr (fun t ht hW9 => ⟨⟨(-1), (K, L, M), rfl, ⟨hX0, hW, hF, (by unfold ansH; rw [if_neg c_2, if_pos c_8, if_pos (by omega)]; first | done | rfl)⟩, ⟨9, (fun X9 Y9 hF9 => ⟨_, by rw [hE]; unfold sxHo syHo; rw [if_neg hno, if_neg hno]; exact hC.mono⟩), (by rw [hE]; exact hPX), (fun X9 Y9 hF9 => by rw [hE]; unfold sxHo; rw [if_neg hno]; exact hSC), by rw [ht]; exact hP, hD⟩⟩, hS.F ht⟩) hS.2.2 dX11_house_32
    · have hz := rfl (a := 0)
      refine lv_aload_n hx hb dX11_house_11 rfl (lv_at hl 0 rfl) ?_
      refine lv_iconst (v := 2) hx hb dX11_house_12 (by decide) ?_
      have hPc := hP.sub (ws' := [(xa, (b11_1 x0 (nI x1) x2 (nI x3) x4 x5 x6 x7 x8 x9 x10))]) [0] rfl
      have hDc := hD.sub (ws' := [(xa, (b11_1 x0 (nI x1) x2 (nI x3) x4 x5 x6 x7 x8 x9 x10))]) [0] (by decide) rfl
      have hKc := hK.sub (tys' := []) [] rfl
      have hFc := va_free (wc := [(xa, (b11_1 x0 (nI x1) x2 (nI x3) x4 x5 x6 x7 x8 x9 x10))]) hD hS hA [0] rfl
      refine va_calli (va_runV (As := [.int 2]) (rest := []) ⟨hx, hb, hml, hown, hg⟩ (k_refuse l D s.heap.size xa x0 (nI x1) x2 (nI x3) x4 x5 x6 x7 x8 x9 x10 2) (cwV 1 hg (gV wd_344 wd_345 wd_346 wd_3 wd_347) rfl rfl rfl (by decide +kernel) ⟨(Nat.le_trans (Nat.le_of_ble_eq_true rfl) hRf), (Nat.le_trans (Nat.le_of_ble_eq_true rfl) hRl)⟩) ⟨Pr.blind, va_recv hK hP (ci := 11) (q0 := 0) rfl rfl, fun U hU hW => ⟨rfl, Pr.at hPc hKc hDc hN hU hW⟩⟩ rfl rfl hl.1 rfl (lv_room (Nat.le_of_ble_eq_true rfl)) dX11_house_13 ⟨(Nat.le_trans (Nat.le_of_ble_eq_true rfl) hRc), (Nat.le_trans (Nat.le_of_ble_eq_true rfl) hRs)⟩) hS (fun q _ h => hFc q h) hFc (fun r_91 M_92 t H_90 locs ht hvm hw hB hz1 hk1 hS => ?_)
      have hp_93 := hw
      obtain ⟨hP1, hK1, hD1⟩ := hB
      rw [ht] at hP1
      obtain ⟨hP, hD⟩ := va_joinQ (X := [(xa, (b11_1 x0 (nI x1) x2 (nI x3) x4 x5 x6 x7 x8 x9 x10))]) (cx := [(xa, (b11_1 x0 (nI x1) x2 (nI x3) x4 x5 x6 x7 x8 x9 x10))]) (wr := []) (w1 := [(xa, (b11_1 x0 (nI x1) x2 (nI x3) x4 x5 x6 x7 x8 2 (-1)))]) (pl := va_pl L M) hP hD [0] [] rfl rfl (by decide) (by decide) hk1 hFc hP1 hD1
      have hP : va_P D vwCl ([(xa, (b11_1 x0 (nI x1) x2 (nI x3) x4 x5 x6 x7 x8 2 (-1)))] ++ va_pl L M) H_90 := hP
      have hD : va_D A ([(xa, (b11_1 x0 (nI x1) x2 (nI x3) x4 x5 x6 x7 x8 2 (-1)))] ++ va_pl L M) := hD
      have hq := Eq.symm hp_93
      subst hq
      refine W.widen (k := 21) (n := 2800) (Nat.le_of_ble_eq_true rfl) (Nat.le_of_ble_eq_true rfl) ?_
      have hE : cntH k1 x1 = x1 := by unfold cntH; rw [if_neg c_2, if_neg c_8]
      have hP : va_P D vwCl ([(xa, (b11_1 x0 (nI (cntH k1 x1)) x2 (nI x3) x4 x5 x6 x7 x8 2 (-1)))] ++ va_pl L M) H_90 := by rw [hE]; exact hP
      have hD : va_D A ([(xa, (b11_1 x0 (nI (cntH k1 x1)) x2 (nI x3) x4 x5 x6 x7 x8 2 (-1)))] ++ va_pl L M) := by rw [hE]; exact hD
      have hI_94 : (0 : Int) ≤ (k1 : Int32).toInt := inltI rfl rfl c_2
      have hI_95 : (900 : Int) < (k1 : Int32).toInt := inleI rfl rfl c_8
      have hno : ¬ okHo x1 k1 := fun q9 => by unfold okHo at q9; omega
      rw [hQ]
      exact W.iret (v := (-1)) hx hb hr (fun t ht hW9 => ⟨⟨(-1), (K, L, M), rfl, ⟨hX0, hW, hF, (by unfold ansH; rw [if_neg c_2, if_neg c_8]; first | done | rfl)⟩, ⟨2, (fun X9 Y9 hF9 => ⟨_, by rw [hE]; unfold sxHo syHo; rw [if_neg hno, if_neg hno]; exact hC.mono⟩), (by rw [hE]; exact hPX), (fun X9 Y9 hF9 => by rw [hE]; unfold sxHo; rw [if_neg hno]; exact hSC), by rw [ht]; exact hP, hD⟩⟩, hS.F ht⟩) hS.2.2 dX11_house_16
