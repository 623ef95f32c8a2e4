theorem CX.same0 {cy : Nat → ClassId} {B : Nat → Nat × Nat} {K : Kp} {L : List Nat} {x0 n : Nat} {T : Int} {np : Nat} {PK PT : Nat → Int32} {SX : Nat → Nat → Int} {SY : Nat → Nat → Nat → Int32} {M M1 : Hp} (h : CX B K L x0 n T np PK PT SX SY M) (hW : WOK cy K L M) (i0 : isk K L x0 17 8) (hn : n ≤ 8) (hS : SAME K L M M1) (hq : RFc (M1 x0) = RFc (M x0)) : CX B K L x0 n T np PK PT SX SY M1 := by
  refine ⟨fun j hj => ?_, SAME.oc hW hS h.oc, fun q iq b hb => ?_⟩
  · obtain ⟨b, e, g⟩ := h.hs j hj
    have ib := i17 hW i0 (by omega) e
    have hv := seenB hW hS b ib (h.oc.n16 b ib)
    refine ⟨b, by rw [hq]; exact e, ?_⟩
    rw [hv.1, hv.2]
    exact g
  · rw [cR_c (hS.2.2.2.2.2.2.1 q iq 3 rfl)] at hb
    rw [hq]
    exact h.ph q iq b hb
theorem VC.rb {cy : Nat → ClassId} {B : Nat → Nat × Nat} {K : Kp} {L : List Nat} {M0 M : Hp} (a : Nat) (hW : WOK cy K L M0) (hS : SAME K L M0 M) (hO : OC B K L M0) (hO1 : OC B K L M) : VC B K L M0 M a (cfx M a) (cax M a) := ⟨fun b hb _ => seenB hW hS b hb (hO.n16 b hb), rfl, rfl, hO1⟩
theorem fT.cv1 {t : Nat} {K : Kp} {L js : List Nat} {M M1 : Hp} {c j : Nat} (hg : ∀ c, isk K L c t 0 → ∃ fs, M c = .inr (t, fs)) (h : fT t K L js M M1) (hc : isk K L c t 0) (hj : j ∉ js) : cVt t M1 c j = cVt t M c j := by
  obtain ⟨fs, e⟩ := hg c hc
  obtain ⟨fs', e', g⟩ := h c hc fs e
  rw [cVt_of j e, cVt_of j e']
  exact g j hj
/-- the row of owners behind a new tenure -/
def owB (M : Hp) (a : Int32) (o : Option Nat) : Int := match o with
  | none => a.toInt
  | some u => (a ||| ((1 : Int32) <<< (cV 2 M u 0 &&& 31))).toInt
/-- what begins() makes of a House's rows -/
def begY (X : Nat → Int) (Y : Nat → Nat → Int32) (s p d w : Int32) : Nat → Nat → Int32 := va_up (va_up (va_up (va_up (va_up (va_up (va_up (va_up (va_up Y 19 (upd (Y 19) (X 10).toNat p)) 20 (upd (Y 20) (X 10).toNat s)) 21 (upd (Y 21) (X 10).toNat d)) 22 (upd (Y 22) (X 10).toNat (-1))) 23 (upd (Y 23) (X 10).toNat 0)) 24 (upd (Y 24) (X 10).toNat 0)) 25 (upd (Y 25) (X 10).toNat (-1))) 26 (upd (Y 26) (X 10).toNat w)) 9 (upd (Y 9) s.toNatClampNeg (nI ((X 10).toNat + 1)))
theorem SIM.ten0 {k : Nat} {T : Int} {np : Nat} {PK PT : Nat → Int32} {x : Nat → Int} {y : Nat → Nat → Int32} {X : Nat → Int} {Y : Nat → Nat → Int32} {p s d w : Int32} {f : Nat → Int32} {o18 : Int} (h : SIM k T np PK PT x y X Y) (hb : 0 ≤ X 10 ∧ X 10 < 24) (hs : 0 ≤ s.toInt ∧ s.toInt < 6) (h50 : y 50 s.toNatClampNeg = 0) (hp : 0 ≤ p.toInt ∧ p.toInt < (np : Int)) (f19 : f 19 = p) (f20 : f 20 = s) (f21 : f 21 = d) (f22 : f 22 = -1) (f23 : f 23 = 0) (f24 : f 24 = 0) (f25 : f 25 = -1) (f26 : f 26 = w) (f29 : f 29 = PK p.toNatClampNeg) (f27 : f 27 = ownP PK PT p) (f28 : f 28 = 1) (hl0 : x (lKey 3 (x 10).toNat) = 0) (ho : 0 ≤ o18 ∧ o18 < 256) (hbit : ∀ o : Nat, o < 8 → ((o18 / 2 ^ o) % 2 = 1 ↔ ((x 18 / 2 ^ o) % 2 = 1 ∨ (ownP PK PT p).toInt = (o : Int)))) : SIM k T np PK PT (va_up (va_up x 10 (x 10 + 1)) 18 o18) (va_up (ttY y (x 10).toNat f) 51 (upd (y 51) s.toNatClampNeg (nI (x 10).toNat))) (va_up X 10 (X 10 + 1)) (begY X Y s p d w) := by
  have e10 := h.x10
  have hsn : (s.toNatClampNeg : Int) = s.toInt := clT hs.1
  rw [e10]
  obtain ⟨i, hi⟩ : ∃ i : Nat, (i : Int) = X 10 := ⟨(X 10).toNat, by omega⟩
  have ei : (X 10).toNat = i := by omega
  unfold begY
  rw [ei]
  refine ⟨h.x0, h.x1, rfl, h.x11, h.x12, h.x13, h.x14, h.x15, h.x16, h.x20, h.pl, fun j hj => ?_, fun j hj => ?_, fun s' hs' => ?_, h.ru, h.en, h.mo, h.me, h.un, fun o ho' => ?_, ho, fun j hj => ?_, ⟨fun j hj => ?_, fun j hj => ?_, fun j hj => ?_, fun j h24 hj => ?_, fun j hj => ?_, fun d hd m hm => (h.ex.et d hd m hm).trans (lKup X 10 _ 10 _ (by decide)).symm⟩⟩
  · have hj' : (j : Int) < X 10 + 1 := hj
    show upd (y 19) i (f 19) j = upd (Y 19) i p j ∧ upd (y 20) i (f 20) j = upd (Y 20) i s j ∧ upd (y 21) i (f 21) j = upd (Y 21) i d j ∧ upd (y 22) i (f 22) j = upd (Y 22) i (-1) j ∧ upd (y 23) i (f 23) j = upd (Y 23) i 0 j ∧ upd (y 24) i (f 24) j = upd (Y 24) i 0 j ∧ upd (y 25) i (f 25) j = upd (Y 25) i (-1) j ∧ upd (y 27) i (f 27) j = ownP PK PT (upd (Y 19) i p j)
    by_cases z : j = i
    · subst z
      simp only [upd_self]
      exact ⟨f19, f20, f21, f22, f23, f24, f25, f27⟩
    · simp only [upd_ne _ _ z]
      exact h.te j (by omega)
  · show upd (y 28) i (f 28) j = 1 ↔ (j : Int) < X 10 + 1
    by_cases z : j = i
    · subst z
      rw [upd_self]
      exact ⟨fun _ => by omega, fun _ => f28⟩
    · rw [upd_ne _ _ z, h.tn j hj]
      omega
  · show (upd (Y 9) s.toNatClampNeg (nI (i + 1)) s').toInt = seatOf (y 50 s') (upd (y 51) s.toNatClampNeg (nI i) s') ∧ 0 ≤ (y 50 s').toInt ∧ (y 50 s').toInt ≤ 1000000 ∧ -1 ≤ (upd (y 51) s.toNatClampNeg (nI i) s').toInt ∧ (upd (y 51) s.toNatClampNeg (nI i) s').toInt < X 10 + 1 ∧ (y 50 s' ≠ 0 → upd (y 51) s.toNatClampNeg (nI i) s' = -1)
    have g := h.se s' hs'
    by_cases z : s' = s.toNatClampNeg
    · rw [z, upd_self, upd_self, h50, nI_toInt (by omega), nI_toInt (by omega)]
      refine ⟨?_, by decide, by decide, by omega, by omega, fun w => absurd rfl w⟩
      unfold seatOf
      rw [if_neg (fun w => w rfl), nI_toInt (by omega)]
      omega
    · rw [upd_ne _ _ z, upd_ne _ _ z]
      exact ⟨g.1, g.2.1, g.2.2.1, g.2.2.2.1, by omega, g.2.2.2.2.2⟩
  · show (o18 / 2 ^ o) % 2 = 1 ↔ ∃ j : Nat, (j : Int) < X 10 + 1 ∧ (ownP PK PT (upd (Y 19) i p j)).toInt = (o : Int)
    rw [hbit o ho', h.ow o ho']
    refine ⟨fun q => ?_, fun ⟨j, hj, q⟩ => ?_⟩
    · rcases q with ⟨j, hj, q⟩ | q
      · exact ⟨j, by omega, by rw [upd_ne _ _ (by omega)]; exact q⟩
      · exact ⟨i, by omega, by rw [upd_self]; exact q⟩
    · by_cases z : j = i
      · rw [z, upd_self] at q
        exact Or.inr q
      · rw [upd_ne _ _ z] at q
        exact Or.inl ⟨j, by omega, q⟩
  · have hj' : (j : Int) < X 10 + 1 := hj
    show 0 ≤ (upd (Y 19) i p j).toInt ∧ (upd (Y 19) i p j).toInt < (np : Int)
    by_cases z : j = i
    · rw [z, upd_self]
      exact hp
    · rw [upd_ne _ _ z]
      exact h.wh j (by omega)
  · have hj' : (j : Int) < X 10 + 1 := hj
    show upd (y 26) i (f 26) j = upd (Y 26) i w j ∧ upd (y 29) i (f 29) j = PK (upd (Y 19) i p j).toNatClampNeg
    by_cases z : j = i
    · rw [z, upd_self, upd_self, upd_self, upd_self]
      exact ⟨f26, f29⟩
    · rw [upd_ne _ _ z, upd_ne _ _ z, upd_ne _ _ z, upd_ne _ _ z]
      exact h.ex.tw j (by omega)
  · have hj' : (j : Int) < X 10 + 1 := hj
    show upd (Y 22) i (-1) j = -1 → upd (Y 23) i 0 j = 0
    by_cases z : j = i
    · rw [z, upd_self, upd_self]
      exact fun _ => rfl
    · rw [upd_ne _ _ z, upd_ne _ _ z]
      exact h.ex.iz j (by omega)
  · have hj' : (j : Int) < X 10 + 1 := hj
    have e1 : (va_up (va_up x 10 (X 10 + 1)) 18 o18) (lKey 3 j) = x (lKey 3 j) := (lKup _ 3 j 18 _ (by decide)).trans (lKup _ 3 j 10 _ (by decide))
    have e2 : (va_up X 10 (X 10 + 1)) (lKey 3 j) = X (lKey 3 j) := lKup _ 3 j 10 _ (by decide)
    rw [e1, e2]
    by_cases z : j = i
    · rw [z, h.ex.lz i (by omega) (by omega)]
      rw [e10, ei] at hl0
      exact hl0
    · exact h.ex.lo j (by omega)
  · have hj' : X 10 + 1 ≤ (j : Int) := hj
    have e2 : (va_up X 10 (X 10 + 1)) (lKey 3 j) = X (lKey 3 j) := lKup _ 3 j 10 _ (by decide)
    rw [e2]
    exact h.ex.lz j h24 (by omega)
  · have hj' : (j : Int) < X 10 + 1 := hj
    have e2 : (va_up X 10 (X 10 + 1)) (lKey 3 j) = X (lKey 3 j) := lKup _ 3 j 10 _ (by decide)
    rw [e2]
    by_cases z : j = i
    · rw [z, h.ex.lz i (by omega) (by omega)]
      decide
    · exact h.ex.lb j (by omega)
theorem SIM.ten {k : Nat} {T : Int} {np : Nat} {PK PT : Nat → Int32} {x : Nat → Int} {y : Nat → Nat → Int32} {X : Nat → Int} {Y : Nat → Nat → Int32} {p s d w : Int32} {f : Nat → Int32} {o18 : Int} (h : SIM k T np PK PT x y X Y) (hb : 0 ≤ X 10 ∧ X 10 < 24) (hs : 0 ≤ s.toInt ∧ s.toInt < 6) (h50 : y 50 s.toNatClampNeg = 0) (hp : 0 ≤ p.toInt ∧ p.toInt < (np : Int)) (f19 : f 19 = p) (f20 : f 20 = s) (f21 : f 21 = d) (f22 : f 22 = -1) (f23 : f 23 = 0) (f24 : f 24 = 0) (f25 : f 25 = -1) (f26 : f 26 = w) (f29 : f 29 = PK p.toNatClampNeg) (f27 : f 27 = ownP PK PT p) (f28 : f 28 = 1) (ho : 0 ≤ o18 ∧ o18 < 256) (hbit : ∀ o : Nat, o < 8 → ((o18 / 2 ^ o) % 2 = 1 ↔ ((x 18 / 2 ^ o) % 2 = 1 ∨ (ownP PK PT p).toInt = (o : Int)))) : SIM k T np PK PT (va_up (va_up (va_up x (lKey 3 (x 10).toNat) 0) 10 (x 10 + 1)) 18 o18) (va_up (ttY y (x 10).toNat f) 51 (upd (y 51) s.toNatClampNeg (nI (x 10).toNat))) (va_up X 10 (X 10 + 1)) (begY X Y s p d w) := by
  have e10 : (va_up x (lKey 3 (x 10).toNat) 0) 10 = x 10 := lKdn x 3 (x 10).toNat 10 0 (by decide)
  have g := h.cg (x' := va_up x (lKey 3 (x 10).toNat) 0) (fun j hj => lKdn x 3 (x 10).toNat j 0 hj) (fun _ _ => rfl) ⟨h.ex.tw, h.ex.iz, fun i hi => by
    have e := h.x10
    rw [va_up_ne _ _ (fun z => by have := lKin z; omega)]
    exact h.ex.lo i hi, h.ex.lz, h.ex.lb, h.ex.et⟩
  have r := g.ten0 hb hs h50 hp f19 f20 f21 f22 f23 f24 f25 f26 f29 f27 f28 (by rw [e10]; exact va_up_self _ _ _) ho (fun o ho => by rw [lKdn x 3 (x 10).toNat 18 0 (by decide)]; exact hbit o ho)
  rw [e10] at r
  exact r
theorem SIM.heir {k : Nat} {T : Int} {np : Nat} {PK PT : Nat → Int32} {x : Nat → Int} {y : Nat → Nat → Int32} {X : Nat → Int} {Y : Nat → Nat → Int32} {t : Nat} {v : Int32} (h : SIM k T np PK PT x y X Y) : SIM k T np PK PT x (va_up y 25 (upd (y 25) t v)) X (va_up Y 25 (upd (Y 25) t v)) := by
  refine ⟨h.x0, h.x1, h.x10, h.x11, h.x12, h.x13, h.x14, h.x15, h.x16, h.x20, h.pl, fun j hj => ?_, h.tn, h.se, h.ru, h.en, h.mo, h.me, h.un, h.ow, h.ob, h.wh, h.ex⟩
  have g := h.te j hj
  show y 19 j = Y 19 j ∧ y 20 j = Y 20 j ∧ y 21 j = Y 21 j ∧ y 22 j = Y 22 j ∧ y 23 j = Y 23 j ∧ y 24 j = Y 24 j ∧ upd (y 25) t v j = upd (Y 25) t v j ∧ y 27 j = ownP PK PT (Y 19 j)
  by_cases q : j = t
  · subst q
    rw [upd_self, upd_self]
    exact ⟨g.1, g.2.1, g.2.2.1, g.2.2.2.1, g.2.2.2.2.1, g.2.2.2.2.2.1, rfl, g.2.2.2.2.2.2.2⟩
  · rw [upd_ne _ _ q, upd_ne _ _ q]
    exact g
/-- whether a seat is vacant, as the class sees it -/
theorem SIM.vac {k : Nat} {T : Int} {np : Nat} {PK PT : Nat → Int32} {x : Nat → Int} {y : Nat → Nat → Int32} {X : Nat → Int} {Y : Nat → Nat → Int32} {s d : Int32} {n : Int} (h : SIM k T np PK PT x y X Y) (hb : X 10 ≤ 24) (hn : n = X 10) : (∀ i : Nat, (i : Int) < n → y 28 i = 1 → y 20 i = s → ((y 22 i).toInt ≠ -1 ∧ (y 22 i).toInt ≤ d.toInt)) ↔ ¬ TKN X Y s d := by
  refine ⟨fun q ⟨i, hi, e, g⟩ => ?_, fun q i hi h28 h20 => ?_⟩
  · have t := h.te i hi
    have w := q i (by omega) ((h.tn i (by omega)).mpr hi) (by rw [t.2.1]; exact e)
    rw [t.2.2.2.1] at w
    omega
  · have t := h.te i (by omega)
    rw [t.2.1] at h20
    rw [t.2.2.2.1]
    refine ⟨fun z => q ⟨i, by omega, h20, Or.inl z⟩, Int.not_lt.mp (fun z => q ⟨i, by omega, h20, Or.inr z⟩)⟩
/-- join() -/
def okJo (n np : Nat) (PK PT : Nat → Int32) (SX : Nat → Nat → Int) (SY : Nat → Nat → Nat → Int32) (h s p d : Int32) : Prop := okHS n h s ∧ (0 ≤ p.toInt ∧ p.toInt < (np : Int)) ∧ (SX h.toNatClampNeg 1 < d.toInt ∧ d.toInt < 1000) ∧ (0 ≤ (SY h.toNatClampNeg 9 s.toNatClampNeg).toInt ∧ ¬ TKN (SX h.toNatClampNeg) (SY h.toNatClampNeg) s d) ∧ (PK p.toNatClampNeg = 5 → ¬ RCH (ownS PK PT SX SY) n (PT p.toNatClampNeg).toNatClampNeg h.toNatClampNeg) ∧ SX h.toNatClampNeg 10 < 24
noncomputable def anJo (n np : Nat) (PK PT : Nat → Int32) (SX : Nat → Nat → Int) (SY : Nat → Nat → Nat → Int32) (h s p d : Int32) : Int32 := (@ite _ (okJo n np PK PT SX SY h s p d) (Classical.propDecidable _) (nI (SX h.toNatClampNeg 10).toNat) (-1))
noncomputable def sxJo (n np : Nat) (PK PT : Nat → Int32) (SX : Nat → Nat → Int) (SY : Nat → Nat → Nat → Int32) (h s p d : Int32) : Nat → Nat → Int := (@ite _ (okJo n np PK PT SX SY h s p d) (Classical.propDecidable _) (va_up SX h.toNatClampNeg (va_up (SX h.toNatClampNeg) 10 (SX h.toNatClampNeg 10 + 1))) (SX))
noncomputable def syJo (n np : Nat) (PK PT : Nat → Int32) (SX : Nat → Nat → Int) (SY : Nat → Nat → Nat → Int32) (h s p d w : Int32) : Nat → Nat → Nat → Int32 := (@ite _ (okJo n np PK PT SX SY h s p d) (Classical.propDecidable _) (va_up SY h.toNatClampNeg (begY (SX h.toNatClampNeg) (SY h.toNatClampNeg) s p d w)) (SY))
/-- die() -/
def leY (Y : Nat → Nat → Int32) (t : Nat) (d i z : Int32) : Nat → Nat → Int32 := va_up (va_up (va_up Y 22 (upd (Y 22) t d)) 23 (upd (Y 23) t i)) 24 (upd (Y 24) t z)
def dieY (X : Nat → Int) (Y : Nat → Nat → Int32) (t : Nat) (s p d : Int32) : Nat → Nat → Int32 := va_up (begY X (leY Y t d 1 0) s p d 0) 25 (upd (begY X (leY Y t d 1 0) s p d 0 25) t (nI (X 10).toNat))
def okDi (n np : Nat) (PK : Nat → Int32) (SX : Nat → Nat → Int) (SY : Nat → Nat → Nat → Int32) (h s d p : Int32) : Prop := okHS n h s ∧ (0 ≤ p.toInt ∧ p.toInt < (np : Int)) ∧ hold (SY h.toNatClampNeg) s.toNatClampNeg ∧ (PK p.toNatClampNeg).toInt = 4 ∧ (SX h.toNatClampNeg 1 < d.toInt ∧ d.toInt < 1000) ∧ (SY h.toNatClampNeg 21 ((SY h.toNatClampNeg 9 s.toNatClampNeg).toInt - 1).toNat).toInt < d.toInt ∧ SX h.toNatClampNeg 10 < 24
noncomputable def anDi (n np : Nat) (PK : Nat → Int32) (SX : Nat → Nat → Int) (SY : Nat → Nat → Nat → Int32) (h s d p : Int32) : Int32 := (@ite _ (okDi n np PK SX SY h s d p) (Classical.propDecidable _) (nI (SX h.toNatClampNeg 10).toNat) (-1))
noncomputable def sxDi (n np : Nat) (PK : Nat → Int32) (SX : Nat → Nat → Int) (SY : Nat → Nat → Nat → Int32) (h s d p : Int32) : Nat → Nat → Int := (@ite _ (okDi n np PK SX SY h s d p) (Classical.propDecidable _) (va_up SX h.toNatClampNeg (va_up (SX h.toNatClampNeg) 10 (SX h.toNatClampNeg 10 + 1))) (SX))
noncomputable def syDi (n np : Nat) (PK : Nat → Int32) (SX : Nat → Nat → Int) (SY : Nat → Nat → Nat → Int32) (h s d p : Int32) : Nat → Nat → Nat → Int32 := (@ite _ (okDi n np PK SX SY h s d p) (Classical.propDecidable _) (va_up SY h.toNatClampNeg (dieY (SX h.toNatClampNeg) (SY h.toNatClampNeg) (stN SY h s) s p d)) (SY))
theorem own5 {PK PT : Nat → Int32} {p : Int32} (h : PK p.toNatClampNeg = 5) : ownP PK PT p = PT p.toNatClampNeg := by
  unfold ownP
  rw [if_pos h]
theorem ownN {PK PT : Nat → Int32} {p : Int32} (h : PK p.toNatClampNeg ≠ 5) : ownP PK PT p = -1 := by
  unfold ownP
  rw [if_neg h]
/-- the latest join would be refused for a circle -/
def okCr (n np : Nat) (PK PT : Nat → Int32) (SX : Nat → Nat → Int) (SY : Nat → Nat → Nat → Int32) (h s p d : Int32) : Prop := okHS n h s ∧ (0 ≤ p.toInt ∧ p.toInt < (np : Int)) ∧ (SX h.toNatClampNeg 1 < d.toInt ∧ d.toInt < 1000) ∧ (0 ≤ (SY h.toNatClampNeg 9 s.toNatClampNeg).toInt ∧ ¬ TKN (SX h.toNatClampNeg) (SY h.toNatClampNeg) s d) ∧ PK p.toNatClampNeg = 5 ∧ RCH (ownS PK PT SX SY) n (PT p.toNatClampNeg).toNatClampNeg h.toNatClampNeg
noncomputable def caJo (n np : Nat) (PK PT : Nat → Int32) (SX : Nat → Nat → Int) (SY : Nat → Nat → Nat → Int32) (h s p d : Int32) : Nat → Int32 := @ite (Nat → Int32) (okCr n np PK PT SX SY h s p d) (Classical.propDecidable _) (cirF (ownS PK PT SX SY) n (PT p.toNatClampNeg).toNatClampNeg h.toNatClampNeg) (fun _ => -1)

set_option maxHeartbeats 4000000 in
set_option maxRecDepth 100000 in
theorem e_addT_0 (l : Launch) (D : va_G) (cy : Nat → ClassId) (K0 : Kp) (L0 : List Nat) (M0 : Hp) (sz : Nat) (oa : Nat) (k1 : Nat) (k2 : Int32) (k3 : Int32) (Bo : Nat → Nat × Nat) (Mb : Hp) (Xv : Nat → Int) (Yv : Nat → Nat → Int32) (hW : WOK cy K0 L0 M0) (ia : isk K0 L0 oa 2 0) (ik1 : isk K0 L0 k1 4 0) (hV : VC Bo K0 L0 Mb M0 oa Xv Yv) (hro : (0 ≤ Xv 10 ∧ Xv 10 < 24)) (hsk : (0 ≤ k2.toInt ∧ k2.toInt < 6)) (hnn : Yv 28 (Xv 10).toNat ≠ 1) : Met l yX2_addTenure (wsM yX2_addTenure cX2_addTenure 6 (some .int)) ({ frames := 2, cells := 1, slots := 16, locals := 37 }) (va_Pc [.ref oa, .ref k1, .int k2, .int k3, .int 0] (PG D cy [] L0 M0 sz)) (va_Qi (fun (r : Int32) (u : Kp × List Nat × Hp) => ext K0 L0 u.1 u.2.1 ∧ WOK cy u.1 u.2.1 u.2.2 ∧ fr K0 L0 [2, 61, 62] M0 u.2.2 ∧ fT 2 K0 L0 [9, 15] M0 u.2.2 ∧ ((r = (nI (Xv 10).toNat)))) (fun u t => (∃ (B9 : Nat → Nat × Nat) (f9 : Nat → Int32), (f9 19 = cV 4 M0 k1 0 ∧ f9 20 = k2 ∧ f9 21 = k3 ∧ f9 22 = -1 ∧ f9 23 = 0 ∧ f9 24 = 0 ∧ f9 25 = -1 ∧ f9 26 = 0 ∧ f9 27 = owN M0 (cR 4 M0 k1 3) ∧ f9 28 = 1 ∧ f9 29 = cV 4 M0 k1 1) ∧ VC B9 u.1 u.2.1 Mb u.2.2 oa (va_up (va_up (va_up Xv (lKey 3 (Xv 10).toNat) 0) 10 (Xv 10 + 1)) 18 (owB M0 (cV 2 M0 oa 15) (cR 4 M0 k1 3))) (va_up (ttY Yv (Xv 10).toNat f9) 51 (upd (Yv 51) k2.toNatClampNeg (nI (Xv 10).toNat)))) ∧ NW2 K0 L0 u.1 u.2.1 ∧ (∀ j, j ≠ (Xv 10).toNat → RFc (u.2.2 (rA 2 u.2.2 oa 8)) j = RFc (M0 (rA 2 M0 oa 8)) j) ∧ PQ D [] u.2.1 u.2.2 (va_A ([] ++ va_pl L0 M0) sz) t) (va_A ([] ++ va_pl L0 M0) sz)) 1 16 (va_A ([] ++ va_pl L0 M0) sz) := by
  refine Met.ofW (cc := cX2_addTenure) (maxL := 6) (ret := (some .int)) (by decide) rfl ?_
  intro p e s m args below meth c s₁ B hml hv
  obtain ⟨rfl, hsz, hP, hK, hD0, hN⟩ := hv
  have hx := B.exec
  have hb := B.bytes
  have hr := B.returns
  have hts := atoms_spec (ws := (wsM yX2_addTenure cX2_addTenure 6 (some .int))) B.pre
  have hg : ∀ w ∈ lw_good, w.before _ s = true := fun w h => hts w (List.mem_cons_of_mem _ h)
  have hown : s.vm.findClass RX2 = some m.cls := findClass_of_methodNamed B.named
  have hlocks := B.notSynchronized
  subst hsz
  have hD := hD0.self (sz := s.heap.size)
  generalize hAe : va_A ([] ++ va_pl L0 M0) s.heap.size = A at hD ⊢
  have hA : ∀ q : Nat, s.heap.size ≤ q → A q := fun q h => by rw [← hAe]; exact Or.inr h
  have hS : va_S A s.heap s.heap [] := va_S.rf
  have hl := lv_entry ([.ref oa, .ref k1, .int k2, .int k3, .int 0]) (n := 6) (Nat.le_of_ble_eq_true rfl)
  rw [lg_entry_eq]
  generalize (lg_sl ([.ref oa, .ref k1, .int k2, .int k3, .int 0]) ++ List.replicate (6 - (lg_sl ([.ref oa, .ref k1, .int k2, .int k3, .int 0])).length) Slot.unset).toArray = ls at hl ⊢
  refine W.nameQ (fun Q hQ => ?_)
  refine W.nameR (fun R hR => ?_)
  have hRf : 2 ≤ R.frames := by rw [hR]; exact Nat.le_of_ble_eq_true rfl
  have hRl : 37 ≤ R.locals := by rw [hR]; exact Nat.le_of_ble_eq_true rfl
  have hRc : 1 ≤ R.cells := by rw [hR]; exact Nat.le_of_ble_eq_true rfl
  have hRs : 16 ≤ R.slots := by rw [hR]; exact Nat.le_of_ble_eq_true rfl
  have hW00 := hW
  have ia00 := ia
  have ik100 := ik1
  have hV00 := hV
  obtain ⟨K, L, M, hX0, hF, hT2, hW, hP, hD, ia, ik1, hV, hMe, hKe, hLe⟩ : ∃ (K : Kp) (L : List Nat) (M : Hp), ext K0 L0 K L ∧ fr K0 L0 [2, 61, 62] M0 M ∧ fT 2 K0 L0 [9, 15] M0 M ∧ WOK cy K L M ∧ va_P D vwCl ([] ++ va_pl L M) s.heap ∧ va_D A ([] ++ va_pl L M) ∧ isk K L oa 2 0 ∧ isk K L k1 4 0 ∧ VC Bo K L Mb M oa Xv Yv ∧ M = M0 ∧ K = K0 ∧ L = L0 := ⟨K0, L0, M0, ext.rf, fr.rf, fT.rf, hW, hP, hD, ia, ik1, hV, rfl, rfl, rfl⟩
  have hl : lv_has ls 6 [(0, .ref oa), (1, .ref k1), (2, .int k2), (3, .int k3), (4, .int 0)] := hl
  have hp2 : ∀ q, isk K L q 2 0 → isk K0 L0 q 2 0 := by rw [hKe, hLe]; exact fun q iq => iq
  have hp4 : ∀ q, isk K L q 4 0 → isk K0 L0 q 4 0 := by rw [hKe, hLe]; exact fun q iq => iq
  obtain ⟨v1_0, v1_1, v1_2, v1_3, v1_4, v1_5, v1_6, v1_7, v1_8, v1_9, v1_10, v1_11, v1_12, v1_13, v1_14, v1_15, v1_16, v1_17, v1_18, v1_19, hM1, h1_3, h1_4, h1_5, h1_6, h1_7, h1_8, h1_9, h1_10, h1_11, h1_12, h1_13, h1_16, h1_17, h1_18, h1_19⟩ := hW.open_2 ia
  have hv9 : ((v1_9 : Nat) : Int) = Xv 10 := by have h9 : (cV 2 M oa 9).toInt = Xv 10 := congrFun hV.2.1 10; rw [cV_of hM1 rfl, nI_toInt (by omega)] at h9; exact h9
  have hv9n : v1_9 = (Xv 10).toNat := by omega
  have hv15 : cV 2 M0 oa 15 = v1_15 := by rw [← hMe]; exact cV_of hM1 rfl
  have hv18 : (v1_15 : Int32).toInt = Xv 18 := by have h9 : (cV 2 M oa 15).toInt = Xv 18 := congrFun hV.2.1 18; rw [cV_of hM1 rfl] at h9; exact h9
  obtain ⟨f2, hM2, hf2⟩ := hW.open_62 h1_8
  have hr8 : RFc (M0 (rA 2 M0 oa 8)) = f2 := by rw [← hMe, rA_of (j := 8) hM1 rfl, RFc_of hM2]
  refine lv_aload_n hx hb dX2_addTenure_0 rfl (lv_at hl 0 rfl) ?_
  refine pg_get (D := D) (ci := 2) (v := .int (nI v1_9)) (C := RX2) (T := TX2) (N := 20) hx hb hg inG2 hown hK hP ia.1 hM1 rfl 9 (by decide) (hg _ wd_44) (fun _ h9 => h9) rfl dX2_addTenure_1 ?_
  refine lv_bipush (v := 24) hx hb dX2_addTenure_4 (by decide) ?_
  refine lv_icmp_ge (tgt := 16) hx hb dX2_addTenure_6 (by decide) (fun c_3 => ?_) (fun c_3 => ?_)
  · have hz := rfl (a := 0)
    have n_4 : 24 ≤ v1_9 := (iLE (a := 24) (b := v1_9) (by omega) (by omega)).mp c_3
    refine lv_iconst (v := (-1)) hx hb dX2_addTenure_16 (by decide) ?_
    refine W.widen (k := 1) (n := 16) (Nat.le_of_ble_eq_true rfl) (Nat.le_of_ble_eq_true rfl) ?_
    have hI_5 : (24 : Int) ≤ ((v1_9 : Nat) : Int) := ileI rfl (nI_toInt (by omega)) c_3
    have hA_6 : (cV 2 M oa 0).toInt = (v1_0 : Int32).toInt := by rw [cV_of hM1 rfl]
    have hA_7 : (cV 2 M oa 1).toInt = (v1_1 : Int32).toInt := by rw [cV_of hM1 rfl]
    have hA_8 : (cV 2 M oa 2).toInt = (v1_2 : Int32).toInt := by rw [cV_of hM1 rfl]
    have hA_9 : (cV 2 M oa 4).toInt = ((v1_4 : Nat) : Int) := by rw [cV_of hM1 rfl]; exact nI_toInt (by omega)
    have hA_10 : (cV 2 M oa 5).toInt = ((v1_5 : Nat) : Int) := by rw [cV_of hM1 rfl]; exact nI_toInt (by omega)
    have hA_11 : (cV 2 M oa 9).toInt = ((v1_9 : Nat) : Int) := by rw [cV_of hM1 rfl]; exact nI_toInt (by omega)
    have hA_12 : (cV 2 M oa 11).toInt = ((v1_11 : Nat) : Int) := by rw [cV_of hM1 rfl]; exact nI_toInt (by omega)
    have hA_13 : (cV 2 M oa 15).toInt = (v1_15 : Int32).toInt := by rw [cV_of hM1 rfl]
    rw [hQ]
    exact W.iret (v := (-1)) hx hb hr (fun t ht hW9 => ⟨⟨(-1), (K, L, M), rfl, ⟨hX0, hW, hF, hT2, (by exfalso; omega)⟩, ⟨(by exfalso; omega), (by exfalso; omega), (by exfalso; omega), by rw [ht]; exact hP, hD⟩⟩, hS.F ht⟩) hS.2.2 dX2_addTenure_17
  · have hz := rfl (a := 0)
    have n_14 : ¬ (24 ≤ v1_9) := fun q => c_3 ((iLE (a := 24) (b := v1_9) (by omega) (by omega)).mpr q)
    refine lv_iload_n hx hb dX2_addTenure_9 rfl (lv_at hl 2 rfl) ?_
    have hPc : va_P D vwCl ([] ++ va_pl L M) s.heap := hP
    have hDc : va_D A ([] ++ va_pl L M) := hD
    have hFc : ∀ q, va_A ([] ++ va_pl L M) s.heap.size q → A q := pg_free hDc hS hA
    refine va_calli (va_runSN (As := [.int k2]) (rest := []) ⟨hx, hb, hml, hown, hg⟩ (e_X11_isSeat l D cy K L M s.heap.size k2  hW ) ⟨va_cnB 1 hg (gB wd_46) rfl rfl rfl (hN _ (List.mem_of_getElem? (i := 3) rfl) : va_Nw (Cond.methodLinkNest RX2 88 yX11_isSeat RX11) s) (hg _ wd_3) (by decide +kernel) ⟨(Nat.le_trans (Nat.le_of_ble_eq_true rfl) hRf), (Nat.le_trans (Nat.le_of_ble_eq_true rfl) hRl)⟩, hg _ wd_47, trivial⟩ ⟨PG.blind, fun U hU hW => ⟨rfl, PG.at hPc hK hDc hN hU hW⟩⟩ rfl rfl hl.1 rfl (lv_room (Nat.le_of_ble_eq_true rfl)) dX2_addTenure_10 ⟨(Nat.le_trans (Nat.le_of_ble_eq_true rfl) hRc), (Nat.le_trans (Nat.le_of_ble_eq_true rfl) hRs)⟩) hS (fun q _ h => hFc q h) hFc (fun r_16 M_17 t H_15 locs ht hvm hw hB hz1 hk1 hS => ?_)
    have hp_18 := hw
    obtain ⟨hP1, hD1⟩ := hB
    rw [ht] at hP1
    have hP : va_P D vwCl ([] ++ va_pl L M) H_15 := hP1
    have hD : va_D A ([] ++ va_pl L M) := hD1.mono hFc
    rcases hp_18 with ⟨rfl, c_19, c_20, c_21⟩ | ⟨rfl, c_22⟩
    · have hz := rfl (a := 0)
      refine lv_if_ne (tgt := 18) hx hb dX2_addTenure_13 (by decide) (fun _ => ?_) (fun c_23 => absurd c_23 (by decide))
      refine va_new (ci := 9) (fs := [.int 0, .null, .int 0, .int 0, .int 0, .int 0, .int 0, .int 0, .null, .long 0, .long 0, .long 0, .long 0, .long 0, .long 0, .long 0]) (C := RX9) (T := TX9) (N := 16) hx hb hg inG9 tyX9 tyX9_ok hown (hg _ wd_542) (hg _ wd_543) (hg _ wd_52) hK hP hD hS hA rfl dfX9 (Nat.le_trans (Nat.le_of_ble_eq_true rfl) hRc) (Nat.le_trans (Nat.le_of_ble_eq_true rfl) hRs) dX2_addTenure_18 (fun q_24 H_25 hP hD hS => ?_)
      have hP : va_P D vwCl ([(q_24, .inr (9, [.int 0, .null, .int 0, .int 0, .int 0, .int 0, .int 0, .int 0, .null, .long 0, .long 0, .long 0, .long 0, .long 0, .long 0, .long 0]))] ++ va_pl L M) H_25 := hP.swap
      have hD : va_D A ([(q_24, .inr (9, [.int 0, .null, .int 0, .int 0, .int 0, .int 0, .int 0, .int 0, .null, .long 0, .long 0, .long 0, .long 0, .long 0, .long 0, .long 0]))] ++ va_pl L M) := hD.swap
      refine W.widen (k := 1) (n := 16) (Nat.le_of_ble_eq_true rfl) (Nat.le_of_ble_eq_true rfl) ?_
      refine lv_dup hx hb dX2_addTenure_21 rfl ?_
      refine lv_aload_n hx hb dX2_addTenure_22 rfl (lv_at hl 0 rfl) ?_
      refine pg_get (D := D) (ci := 2) (v := .int (nI v1_9)) (C := RX2) (T := TX2) (N := 20) hx hb hg inG2 hown hK hP ia.1 hM1 rfl 9 (by decide) (hg _ wd_44) (fun _ h9 => h9) rfl dX2_addTenure_23 ?_
      refine lv_aload_n hx hb dX2_addTenure_26 rfl (lv_at hl 1 rfl) ?_
      refine lv_iload_n hx hb dX2_addTenure_27 rfl (lv_at hl 2 rfl) ?_
      refine lv_iload_n hx hb dX2_addTenure_28 rfl (lv_at hl 3 rfl) ?_
      refine lv_iload hx hb dX2_addTenure_29 (lv_at hl 4 rfl) ?_
      have hPc := hP.sub (ws' := [(q_24, .inr (9, [.int 0, .null, .int 0, .int 0, .int 0, .int 0, .int 0, .int 0, .null, .long 0, .long 0, .long 0, .long 0, .long 0, .long 0, .long 0]))]) [0] rfl
      have hDc := hD.sub (ws' := [(q_24, .inr (9, [.int 0, .null, .int 0, .int 0, .int 0, .int 0, .int 0, .int 0, .null, .long 0, .long 0, .long 0, .long 0, .long 0, .long 0, .long 0]))]) [0] (by decide) rfl
      have hKc := hK.sub (tys' := []) [] rfl
      have hFc := va_free (wc := [(q_24, .inr (9, [.int 0, .null, .int 0, .int 0, .int 0, .int 0, .int 0, .int 0, .null, .long 0, .long 0, .long 0, .long 0, .long 0, .long 0, .long 0]))]) hD hS hA [0] rfl
      refine va_callv (va_runI (As := [.int (nI v1_9), .ref k1, .int k2, .int k3, .int 0]) (rest := [.ref q_24]) ⟨hx, hb, hml, hown, hg⟩ (k_Tenure_0 l D H_25.size q_24 (nI v1_9) k1 k2 k3) (cwI 5 hg (gB wd_544) rfl rfl rfl (hg _ wd_52) (hg _ wd_545) (hg _ wd_546) rfl (by decide +kernel) ⟨(Nat.le_trans (Nat.le_of_ble_eq_true rfl) hRf), (Nat.le_trans (Nat.le_of_ble_eq_true rfl) hRl)⟩) ⟨Pr.blind, fun U hU hW => ⟨rfl, Pr.at hPc hKc hDc hN hU hW⟩⟩ rfl rfl hl.1 rfl (lv_room (Nat.le_of_ble_eq_true rfl)) dX2_addTenure_31 ⟨(Nat.le_trans (Nat.le_of_ble_eq_true rfl) hRc), (Nat.le_trans (Nat.le_of_ble_eq_true rfl) hRs)⟩) hS (fun q _ h => hFc q h) hFc (fun M_28 t H_26 locs ht hvm hw hB hz1 hk1 hS => ?_)
      have hp_29 := hw
      obtain ⟨hP1, hK1, hD1⟩ := hB
      rw [ht] at hP1
      obtain ⟨hP, hD⟩ := va_joinQ (X := [(q_24, .inr (9, [.int 0, .null, .int 0, .int 0, .int 0, .int 0, .int 0, .int 0, .null, .long 0, .long 0, .long 0, .long 0, .long 0, .long 0, .long 0]))]) (cx := [(q_24, .inr (9, [.int 0, .null, .int 0, .int 0, .int 0, .int 0, .int 0, .int 0, .null, .long 0, .long 0, .long 0, .long 0, .long 0, .long 0, .long 0]))]) (wr := []) (w1 := [(q_24, .inr (9, [.int (nI v1_9), .ref k1, .int k2, .int k3, .int 0, .int (-1), .int 0, .int 0, .null, .long 0, .long 0, .long 0, .long 0, .long 0, .long 0, .long 0]))]) (pl := va_pl L M) hP hD [0] [] rfl rfl (by decide) (by decide) hk1 hFc hP1 hD1
      have hP : va_P D vwCl ([(q_24, .inr (9, [.int (nI v1_9), .ref k1, .int k2, .int k3, .int 0, .int (-1), .int 0, .int 0, .null, .long 0, .long 0, .long 0, .long 0, .long 0, .long 0, .long 0]))] ++ va_pl L M) H_26 := hP
      have hD : va_D A ([(q_24, .inr (9, [.int (nI v1_9), .ref k1, .int k2, .int k3, .int 0, .int (-1), .int 0, .int 0, .null, .long 0, .long 0, .long 0, .long 0, .long 0, .long 0, .long 0]))] ++ va_pl L M) := hD
      have hP : va_P D vwCl (([] ++ [(q_24, .inr (9, [.int (nI v1_9), .ref k1, .int k2, .int k3, .int 0, .int (-1), .int 0, .int 0, .null, .long 0, .long 0, .long 0, .long 0, .long 0, .long 0, .long 0]))]) ++ va_pl L M) H_26 := hP.part (cx := [] ++ [(q_24, .inr (9, [.int (nI v1_9), .ref k1, .int k2, .int k3, .int 0, .int (-1), .int 0, .int 0, .null, .long 0, .long 0, .long 0, .long 0, .long 0, .long 0, .long 0]))]) [0] rfl
      have hD : va_D A (([] ++ [(q_24, .inr (9, [.int (nI v1_9), .ref k1, .int k2, .int k3, .int 0, .int (-1), .int 0, .int 0, .null, .long 0, .long 0, .long 0, .long 0, .long 0, .long 0, .long 0]))]) ++ va_pl L M) := hD.part (cx := [] ++ [(q_24, .inr (9, [.int (nI v1_9), .ref k1, .int k2, .int k3, .int 0, .int (-1), .int 0, .int 0, .null, .long 0, .long 0, .long 0, .long 0, .long 0, .long 0, .long 0]))]) [0] (by decide) rfl
      have hWa := hW
      obtain ⟨K9, L9, M_30, hx9, i_31, hW, hP, hD, hM_32, hfr9, hq9, hm9⟩ := adoptE2 9 0 hP hD hW (fun K' L' x i => (⟨v1_9, k1, k2, k3, 0, (-1), 0, 0, none, 0, 0, 0, 0, 0, 0, 0, rfl, (by omega), ik1.ext x, (Or.inl rfl), iskN.none⟩ : gd_9 K' L' _))
      have hn9 : ∀ b, isk K9 L9 b 2 0 → isk K L b 2 0 := fun b hb => (hm9 b hb.1).elim (fun z => absurd (hb.un (show isk K9 L9 b 9 0 by rw [z]; exact i_31)) (by decide)) (fun z => ⟨z, ((hx9 b z).2).symm.trans hb.2⟩)
      have ho9 : ∀ b, isk K9 L9 b 4 0 → isk K L b 4 0 := fun b hb => (hm9 b hb.1).elim (fun z => absurd (hb.un (show isk K9 L9 b 9 0 by rw [z]; exact i_31)) (by decide)) (fun z => ⟨z, ((hx9 b z).2).symm.trans hb.2⟩)
      have hV : VC (va_up Bo q_24 (oa, ((nI v1_9) : Int32).toNatClampNeg)) K9 L9 Mb M_30 oa Xv Yv := hV.ad (oa, ((nI v1_9) : Int32).toNatClampNeg) hWa ia hx9 hfr9 hq9 hn9
      have hp4 : ∀ q, isk K9 L9 q 4 0 → isk K0 L0 q 4 0 := fun q iq => hp4 q (ho9 q iq)
      have hp2 : ∀ q, isk K9 L9 q 2 0 → isk K0 L0 q 2 0 := fun q iq => hp2 q (hn9 q iq)
      have hfrk : ∀ b, b ∈ L0 → M_30 b = M0 b := fun b q => (hfr9 b (by rw [hLe]; exact q)).trans (by rw [hMe])
      have hq0q_24 : q_24 ∉ L0 := fun z => hq9 (hX0 _ z).1
      have hM_33 : M_30 oa = (b2_2 v1_0 v1_1 v1_2 v1_3 (nI v1_4) (nI v1_5) v1_6 v1_7 v1_8 (nI v1_9) v1_10 (nI v1_11) v1_12 v1_13 v1_14 v1_15 v1_16 v1_17 v1_18 v1_19) := (hfr9 _ ia.1).trans hM1
      have hM_34 : M_30 v1_8 = .inl (cy 22, 24, .inr (.inr (.inr (.inr (f2))))) := (hfr9 _ h1_8.1).trans hM2
      have hF : fr K0 L0 [2, 61, 62] M0 M_30 := hF.adX hX0 hfr9
      have hT2 : fT 2 K0 L0 [9, 15] M0 M_30 := hT2.adX hX0 hfr9
      have hX0 := hX0.tr hx9
      have i_35 := ia.ext hx9
      have i_36 := ik1.ext hx9
      have i_37 := h1_3.ext hx9
      have i_38 := h1_6.ext hx9
      have i_39 := h1_7.ext hx9
      have i_40 := h1_8.ext hx9
      have i_41 := h1_10.ext hx9
      have i_42 := h1_12.ext hx9
      have i_43 := h1_13.ext hx9
      have i_44 := h1_16.ext hx9
      have i_45 := h1_17.ext hx9
      have i_46 := h1_18.ext hx9
      have i_47 := h1_19.ext hx9
      have hf_48 := fun j q => (hf2 j q).ext hx9
      obtain ⟨K, L, hK9, hL9⟩ : ∃ (K : Kp) (L : List Nat), K = K9 ∧ L = L9 := ⟨_, _, rfl, rfl⟩
      subst hK9
      subst hL9
      have hP : va_P D vwCl ([] ++ va_pl L M_30) H_26 := hP
      have hD : va_D A ([] ++ va_pl L M_30) := hD
      refine lv_astore (lv' := [(5, .ref q_24), (0, .ref oa), (1, .ref k1), (2, .int k2), (3, .int k3), (4, .int 0)]) hx hb dX2_addTenure_34 hl (by decide) rfl (fun ls hl => ?_)
      refine lv_aload_n hx hb dX2_addTenure_36 rfl (lv_at hl 1 rfl) ?_
      refine pg_get (D := D) (ci := 2) (v := .ref v1_8) (C := RX2) (T := TX2) (N := 20) hx hb hg inG2 hown hK hP i_35.1 hM_33 rfl 8 (by decide) (hg _ wd_45) (fun _ h9 => h9) rfl dX2_addTenure_37 ?_
      refine lv_aload_n hx hb dX2_addTenure_40 rfl (lv_at hl 1 rfl) ?_
      refine pg_get (D := D) (ci := 2) (v := .int (nI v1_9)) (C := RX2) (T := TX2) (N := 20) hx hb hg inG2 hown hK hP i_35.1 hM_33 rfl 9 (by decide) (hg _ wd_44) (fun _ h9 => h9) rfl dX2_addTenure_41 ?_
      refine lv_aload hx hb dX2_addTenure_44 (lv_at hl 0 rfl) ?_
      have hk0 : M_30 k1 = M0 k1 := hfrk k1 ik100.1
      have hq19 : (teN M_30 (some q_24)) 19 = cV 4 M0 k1 0 := by show cV 4 M_30 (rA 9 M_30 q_24 1) 0 = _; rw [rA_of (j := 1) hM_32 rfl]; exact cV_eq hk0
      have hq20 : (teN M_30 (some q_24)) 20 = k2 := cV_of (j := 2) hM_32 rfl
      have hq21 : (teN M_30 (some q_24)) 21 = k3 := cV_of (j := 3) hM_32 rfl
      have hq22 : (teN M_30 (some q_24)) 22 = -1 := cV_of (j := 5) hM_32 rfl
      have hq23 : (teN M_30 (some q_24)) 23 = 0 := cV_of (j := 6) hM_32 rfl
      have hq24 : (teN M_30 (some q_24)) 24 = 0 := cV_of (j := 7) hM_32 rfl
      have hq25 : (teN M_30 (some q_24)) 25 = -1 := by show hrN M_30 (cR 9 M_30 q_24 8) = _; rw [cR_q (q := none) hM_32 rfl]; rfl
      have hq27 : (teN M_30 (some q_24)) 27 = owN M0 (cR 4 M0 k1 3) := by show owN M_30 (cR 4 M_30 (rA 9 M_30 q_24 1) 3) = _; rw [rA_of (j := 1) hM_32 rfl, cR_eq hk0]; exact owN_c _ (fun u hu => by unfold cVt; rw [hfrk u (KP hW00 ik100 u hu).1])
      have hq28 : (teN M_30 (some q_24)) 28 = 1 := rfl
      have hrl : leN M_30 (some q_24) = 0 := by show (cL 9 M_30 q_24 12).toInt = 0; rw [cL_of (j := 12) hM_32 rfl]; rfl
      have hq26 : (teN M_30 (some q_24)) 26 = 0 := cV_of (j := 4) hM_32 rfl
      have hq29 : (teN M_30 (some q_24)) 29 = cV 4 M0 k1 1 := by show cV 4 M_30 (rA 9 M_30 q_24 1) 1 = _; rw [rA_of (j := 1) hM_32 rfl]; exact cV_eq hk0
      refine pg_astq (r := (RX9, TX9, 16)) hx hb hK hP hD hS i_40.1 8 9 hM_34 rfl i_31.1 hM_32 rfl (inbN v1_9 24 (by omega) (by omega)) dX2_addTenure_46 (fun H_49 locs hP hD hS => ?_)
      obtain ⟨M_50, eM_50⟩ : ∃ M1 : Hp, M1 = va_up M_30 v1_8 (.inl (cy 22, 24, .inr (.inr (.inr (.inr (va_up f2 ((nI v1_9) : Int32).toNatClampNeg (some q_24))))))) := ⟨_, rfl⟩
      have sM_50 : M_50 = sR M_30 v1_8 ((nI v1_9) : Int32).toNatClampNeg (some q_24) := eM_50.trans (sR_of hM_34)
      have hV : VC (va_up Bo q_24 (oa, ((nI v1_9) : Int32).toNatClampNeg)) K L Mb M_50 oa (va_up Xv (lKey 3 ((nI v1_9) : Int32).toNatClampNeg) (leN M_30 (some q_24))) (ttY Yv ((nI v1_9) : Int32).toNatClampNeg (teN M_30 (some q_24))) := by rw [sM_50]; exact VC.r_te hV hW i_35 (vp_lt (inbN v1_9 24 (by omega) (by omega))) (rA_of (j := 8) hM_33 rfl) hM_34 (fun q9 z9 => by cases z9; exact va_up_self _ _ _) (fun q9 z9 => by cases z9; exact (by rw [cV_of (j := 0) hM_32 rfl, nI_cl (by omega)])) (by have h9 := tnone (M := M_30) (b := oa) (i := ((nI v1_9) : Int32).toNatClampNeg) (by rw [congrFun hV.2.2.1 28, nI_cl (by omega), hv9n]; exact hnn) (by rw [nI_cl (by omega)]; omega); rw [rA_of (j := 8) hM_33 rfl] at h9; exact h9)
      have hP : va_P D vwCl ([] ++ va_pl L M_50) H_49 := by rw [eM_50]; exact hP
      have hD : va_D A ([] ++ va_pl L M_50) := by rw [eM_50]; exact hD
      have hW : WOK cy K L M_50 := by rw [eM_50]; exact hW.up_62 i_40 ⟨_, rfl, (upN hf_48 i_31)⟩
      have hF : fr K0 L0 [2, 61, 62] M0 M_50 := by rw [eM_50]; exact hF.upX hX0 i_40 (by decide)
      have hT2 : fT 2 K0 L0 [9, 15] M0 M_50 := by rw [eM_50]; exact hT2.neX hX0 i_40 (by decide)
      have hM_51 : M_50 v1_8 = .inl (cy 22, 24, .inr (.inr (.inr (.inr (va_up f2 ((nI v1_9) : Int32).toNatClampNeg (some q_24)))))) := by rw [eM_50]; exact va_up_self _ _ _
      have hM_52 : M_50 oa = (b2_2 v1_0 v1_1 v1_2 v1_3 (nI v1_4) (nI v1_5) v1_6 v1_7 v1_8 (nI v1_9) v1_10 (nI v1_11) v1_12 v1_13 v1_14 v1_15 v1_16 v1_17 v1_18 v1_19) := by rw [eM_50, va_up_ne _ _ (i_35.neT i_40 (by decide))]; exact hM_33
      have hM_53 : M_50 q_24 = (b9_9 (nI v1_9) k1 k2 k3 0 (-1) 0 0 none 0 0 0 0 0 0 0) := by rw [eM_50, va_up_ne _ _ (i_31.neT i_40 (by decide))]; exact hM_32
      have hf_55 : ∀ j, j < 24 → iskN K L ((va_up f2 ((nI v1_9) : Int32).toNatClampNeg (some q_24)) j) 9 0 := (upN hf_48 i_31)
      obtain ⟨f_54, ef_54⟩ : ∃ f : Nat → Option Nat, f = va_up f2 ((nI v1_9) : Int32).toNatClampNeg (some q_24) := ⟨_, rfl⟩
      rw [← ef_54] at hM_51 hf_55
      have hk_56 : f_54 ((nI v1_9) : Int32).toNatClampNeg = some q_24 := by rw [ef_54]; exact va_up_self _ _ _
      refine lv_aload_n hx hb dX2_addTenure_47 rfl (lv_at hl 1 rfl) ?_
      refine lv_dup hx hb dX2_addTenure_48 rfl ?_
      refine pg_get (D := D) (ci := 2) (v := .int (nI v1_9)) (C := RX2) (T := TX2) (N := 20) hx hb hg inG2 hown hK hP i_35.1 hM_52 rfl 9 (by decide) (hg _ wd_44) (fun _ h9 => h9) rfl dX2_addTenure_49 ?_
      refine lv_iconst (v := 1) hx hb dX2_addTenure_52 (by decide) ?_
      refine lv_iadd hx hb dX2_addTenure_53 ?_
      refine lv_topi (fun f_57 ef_57 => ?_)
      obtain rfl : f_57 = (nI (v1_9 + 1)) := ef_57.trans (nI_add v1_9 1)
      refine pg_put (D := D) (ci := 2) (v := .int (nI (v1_9 + 1))) (ty := .int) (C := RX2) (T := TX2) (N := 20) hx hb hg inG2 tyX2 tyX2_ok nmX2 hown hK hP hD hS i_35.1 hM_52 rfl 9 (by decide) (hg _ wd_44) (fun _ h9 => h9) rfl (by decide +kernel) rfl rfl (Nat.le_of_ble_eq_true rfl) dX2_addTenure_54 (fun H_58 locs hP hD hS => ?_)
      obtain ⟨M_59, eM_59⟩ : ∃ M1 : Hp, M1 = va_up M_50 oa ((b2_2 v1_0 v1_1 v1_2 v1_3 (nI v1_4) (nI v1_5) v1_6 v1_7 v1_8 (nI (v1_9 + 1)) v1_10 (nI v1_11) v1_12 v1_13 v1_14 v1_15 v1_16 v1_17 v1_18 v1_19)) := ⟨_, rfl⟩
      have sM_59 : M_59 = sF M_50 oa 9 (.int (nI (v1_9 + 1))) := eM_59.trans (sF_of (j := 9) (v := .int (nI (v1_9 + 1))) hM_52 rfl)
      have hV : VC (va_up Bo q_24 (oa, ((nI v1_9) : Int32).toNatClampNeg)) K L Mb M_59 oa (va_up (va_up Xv (lKey 3 ((nI v1_9) : Int32).toNatClampNeg) (leN M_30 (some q_24))) 10 (((v1_9 + 1) : Nat) : Int)) (ttY Yv ((nI v1_9) : Int32).toNatClampNeg (teN M_30 (some q_24))) := by rw [sM_59]; have h9 := VC.f9 (v := (nI (v1_9 + 1))) hV hW i_35 hM_52 (Nat.le_of_ble_eq_true rfl); rw [show ((nI (v1_9 + 1)) : Int32).toInt = (((v1_9 + 1) : Nat) : Int) from (nI_toInt (by omega))] at h9; exact h9
      have hP : va_P D vwCl ([] ++ va_pl L M_59) H_58 := by rw [eM_59]; exact hP
      have hD : va_D A ([] ++ va_pl L M_59) := by rw [eM_59]; exact hD
      have hW : WOK cy K L M_59 := by rw [eM_59]; exact hW.up_2 i_35 ⟨v1_0, v1_1, v1_2, v1_3, v1_4, v1_5, v1_6, v1_7, v1_8, (v1_9 + 1), v1_10, v1_11, v1_12, v1_13, v1_14, v1_15, v1_16, v1_17, v1_18, v1_19, rfl, i_37, h1_4, h1_5, i_38, i_39, i_40, (by omega), i_41, h1_11, i_42, i_43, i_44, i_45, i_46, i_47⟩
      have hF : fr K0 L0 [2, 61, 62] M0 M_59 := by rw [eM_59]; exact hF.upX hX0 i_35 (by decide)
      have hT2 : fT 2 K0 L0 [9, 15] M0 M_59 := by rw [eM_59]; exact hT2.up (i := 9) hM_52 rfl (by decide)
      have hM_60 : M_59 oa = (b2_2 v1_0 v1_1 v1_2 v1_3 (nI v1_4) (nI v1_5) v1_6 v1_7 v1_8 (nI (v1_9 + 1)) v1_10 (nI v1_11) v1_12 v1_13 v1_14 v1_15 v1_16 v1_17 v1_18 v1_19) := by rw [eM_59]; exact va_up_self _ _ _
      have hM_61 : M_59 v1_8 = .inl (cy 22, 24, .inr (.inr (.inr (.inr (f_54))))) := by rw [eM_59, va_up_ne _ _ (i_40.neT i_35 (by decide))]; exact hM_51
      have hM_62 : M_59 q_24 = (b9_9 (nI v1_9) k1 k2 k3 0 (-1) 0 0 none 0 0 0 0 0 0 0) := by rw [eM_59, va_up_ne _ _ (i_31.neT i_35 (by decide))]; exact hM_53
      have hb_63 : (v1_9 + 1) ≤ 24 := by omega
      refine lv_aload_n hx hb dX2_addTenure_57 rfl (lv_at hl 1 rfl) ?_
      refine pg_get (D := D) (ci := 2) (v := .ref v1_7) (C := RX2) (T := TX2) (N := 20) hx hb hg inG2 hown hK hP i_35.1 hM_60 rfl 7 (by decide) (hg _ wd_48) (fun _ h9 => h9) rfl dX2_addTenure_58 ?_
      refine lv_iload_n hx hb dX2_addTenure_61 rfl (lv_at hl 3 rfl) ?_
      refine lv_aload hx hb dX2_addTenure_62 (lv_at hl 0 rfl) ?_
      have hr51 : hrN M_59 (some q_24) = nI (Xv 10).toNat := by show cV 9 M_59 q_24 0 = _; rw [cV_of (j := 0) hM_62 rfl]; exact congrArg nI (by omega)
      obtain ⟨f64, hM64, hf64⟩ := hW.open_61 i_39
      refine pg_astq (r := (RX9, TX9, 16)) hx hb hK hP hD hS i_39.1 8 9 hM64 rfl i_31.1 hM_62 rfl (inb k2 6 (by omega) c_20 c_21) dX2_addTenure_64 (fun H_65 locs hP hD hS => ?_)
      obtain ⟨M_66, eM_66⟩ : ∃ M1 : Hp, M1 = va_up M_59 v1_7 (.inl (cy 22, 6, .inr (.inr (.inr (.inr (va_up f64 (k2 : Int32).toNatClampNeg (some q_24))))))) := ⟨_, rfl⟩
      have sM_66 : M_66 = sR M_59 v1_7 (k2 : Int32).toNatClampNeg (some q_24) := eM_66.trans (sR_of hM64)
      have hV : VC (va_up Bo q_24 (oa, ((nI v1_9) : Int32).toNatClampNeg)) K L Mb M_66 oa (va_up (va_up Xv (lKey 3 ((nI v1_9) : Int32).toNatClampNeg) (leN M_30 (some q_24))) 10 (((v1_9 + 1) : Nat) : Int)) (va_up (ttY Yv ((nI v1_9) : Int32).toNatClampNeg (teN M_30 (some q_24))) 51 (upd (Yv 51) (k2 : Int32).toNatClampNeg (hrN M_59 (some q_24)))) := by rw [sM_66]; exact VC.r_he hV hW i_35 (vp_lt (inb k2 6 (by omega) c_20 c_21)) (rA_of (j := 7) hM_60 rfl) hM64 (fun q9 z9 => by cases z9; exact ⟨((nI v1_9) : Int32).toNatClampNeg, vp_lt (inbN v1_9 24 (by omega) (by omega)), by rw [rA_of (j := 8) hM_60 rfl, RFc_of hM_61]; exact hk_56⟩)
      have hP : va_P D vwCl ([] ++ va_pl L M_66) H_65 := by rw [eM_66]; exact hP
      have hD : va_D A ([] ++ va_pl L M_66) := by rw [eM_66]; exact hD
      have hW : WOK cy K L M_66 := by rw [eM_66]; exact hW.up_61 i_39 ⟨_, rfl, (upN hf64 i_31)⟩
      have hF : fr K0 L0 [2, 61, 62] M0 M_66 := by rw [eM_66]; exact hF.upX hX0 i_39 (by decide)
      have hT2 : fT 2 K0 L0 [9, 15] M0 M_66 := by rw [eM_66]; exact hT2.neX hX0 i_39 (by decide)
      have hM_67 : M_66 v1_7 = .inl (cy 22, 6, .inr (.inr (.inr (.inr (va_up f64 (k2 : Int32).toNatClampNeg (some q_24)))))) := by rw [eM_66]; exact va_up_self _ _ _
      have hM_68 : M_66 oa = (b2_2 v1_0 v1_1 v1_2 v1_3 (nI v1_4) (nI v1_5) v1_6 v1_7 v1_8 (nI (v1_9 + 1)) v1_10 (nI v1_11) v1_12 v1_13 v1_14 v1_15 v1_16 v1_17 v1_18 v1_19) := by rw [eM_66, va_up_ne _ _ (i_35.neT i_39 (by decide))]; exact hM_60
      have hM_69 : M_66 v1_8 = .inl (cy 22, 24, .inr (.inr (.inr (.inr (f_54))))) := by rw [eM_66, va_up_ne _ _ (i_40.neT i_39 (by decide))]; exact hM_61
      have hM_70 : M_66 q_24 = (b9_9 (nI v1_9) k1 k2 k3 0 (-1) 0 0 none 0 0 0 0 0 0 0) := by rw [eM_66, va_up_ne _ _ (i_31.neT i_39 (by decide))]; exact hM_62
      have hf_72 : ∀ j, j < 6 → iskN K L ((va_up f64 (k2 : Int32).toNatClampNeg (some q_24)) j) 9 0 := (upN hf64 i_31)
      obtain ⟨f_71, ef_71⟩ : ∃ f : Nat → Option Nat, f = va_up f64 (k2 : Int32).toNatClampNeg (some q_24) := ⟨_, rfl⟩
      rw [← ef_71] at hM_67 hf_72
      have hk_73 : f_71 (k2 : Int32).toNatClampNeg = some q_24 := by rw [ef_71]; exact va_up_self _ _ _
      refine lv_aload_n hx hb dX2_addTenure_65 rfl (lv_at hl 2 rfl) ?_
      obtain ⟨v74_0, v74_1, v74_2, v74_3, hM74, h74_3⟩ := hW.open_4 i_36
      refine pg_get (D := D) (ci := 4) (v := va_rf v74_3) (C := RX4) (T := TX4) (N := 4) hx hb hg inG4 hown hK hP i_36.1 hM74 rfl 3 (by decide) (hg _ wd_87) (fun _ h9 => h9) rfl dX2_addTenure_66 ?_
      rcases v74_3 with _ | b_75
      · have hz := rfl (a := 0)
        have hcr : cR 4 M0 k1 3 = none := by rw [← cR_eq (hF.at ik100 (by decide))]; exact cR_q (q := none) hM74 rfl
        refine lv_ifnullN (tgt := 90) hx hb dX2_addTenure_69 (by decide) ?_
        refine lv_aload hx hb dX2_addTenure_90 (lv_at hl 0 rfl) ?_
        refine pg_get (D := D) (ci := 9) (v := .int (nI v1_9)) (C := RX9) (T := TX9) (N := 16) hx hb hg inG9 hown hK hP i_31.1 hM_70 rfl 0 (by decide) (hg _ wd_547) (fun _ h9 => h9) rfl dX2_addTenure_92 ?_
        have how : owB M0 (cV 2 M0 oa 15) (cR 4 M0 k1 3) = Xv 18 := by rw [hcr, hv15]; exact hv18
        rw [hr51, hrl, nI_cl (t := v1_9) (by omega), hv9n] at hV
        rw [hQ]
        exact W.iret (v := (nI v1_9)) hx hb hr (fun t ht hW9 => ⟨⟨(nI v1_9), (K, L, M_66), rfl, ⟨hX0, hW, hF, hT2, (congrArg nI (by omega))⟩, ⟨⟨_, (teN M_30 (some q_24)), ⟨hq19, hq20, hq21, hq22, hq23, hq24, hq25, hq26, hq27, hq28, hq29⟩, hV.cg (by rw [show (((Xv 10).toNat + 1 : Nat) : Int) = Xv 10 + 1 by omega, how, show Xv 18 = (va_up (va_up Xv (lKey 3 (Xv 10).toNat) 0) 10 (Xv 10 + 1)) 18 from (lKdn Xv 3 (Xv 10).toNat 18 0 (by decide)).symm]; exact (va_upI (va_up (va_up Xv (lKey 3 (Xv 10).toNat) 0) 10 (Xv 10 + 1)) 18).symm) rfl⟩, ⟨hp2, hp4⟩, (fun j hj => by rw [rA_of (j := 8) hM_68 rfl, RFc_of hM_69, ef_54, hr8]; exact va_up_ne _ _ (by rw [nI_cl (by omega)]; omega)), by rw [ht]; exact hP, hD⟩⟩, hS.F ht⟩) hS.2.2 dX2_addTenure_95
      · have hb_76 := h74_3 b_75 rfl
        have hcr : cR 4 M0 k1 3 = some b_75 := by rw [← cR_eq (hF.at ik100 (by decide))]; exact cR_q (q := (some b_75)) hM74 rfl
        have ib0 : isk K0 L0 b_75 2 0 := KP hW00 ik100 _ hcr
        refine lv_ifnull hx hb dX2_addTenure_69 ?_
        refine lv_aload_n hx hb dX2_addTenure_72 rfl (lv_at hl 1 rfl) ?_
        refine lv_dup hx hb dX2_addTenure_73 rfl ?_
        refine pg_get (D := D) (ci := 2) (v := .int v1_15) (C := RX2) (T := TX2) (N := 20) hx hb hg inG2 hown hK hP i_35.1 hM_68 rfl 15 (by decide) (hg _ wd_61) (fun _ h9 => h9) rfl dX2_addTenure_74 ?_
        refine lv_iconst (v := 1) hx hb dX2_addTenure_77 (by decide) ?_
        refine lv_aload_n hx hb dX2_addTenure_78 rfl (lv_at hl 2 rfl) ?_
        refine pg_get (D := D) (ci := 4) (v := va_rf (some b_75)) (C := RX4) (T := TX4) (N := 4) hx hb hg inG4 hown hK hP i_36.1 hM74 rfl 3 (by decide) (hg _ wd_87) (fun _ h9 => h9) rfl dX2_addTenure_79 ?_
        obtain ⟨v77_0, v77_1, v77_2, v77_3, v77_4, v77_5, v77_6, v77_7, v77_8, v77_9, v77_10, v77_11, v77_12, v77_13, v77_14, v77_15, v77_16, v77_17, v77_18, v77_19, hM77, h77_3, h77_4, h77_5, h77_6, h77_7, h77_8, h77_9, h77_10, h77_11, h77_12, h77_13, h77_16, h77_17, h77_18, h77_19⟩ := hW.open_2 hb_76
        refine pg_get (D := D) (ci := 2) (v := .int v77_0) (C := RX2) (T := TX2) (N := 20) hx hb hg inG2 hown hK hP hb_76.1 hM77 rfl 0 (by decide) (hg _ wd_548) (fun _ h9 => h9) rfl dX2_addTenure_82 ?_
        refine lv_ishl hx hb dX2_addTenure_85 ?_
        refine lv_topi (fun f_78 ef_78 => ?_)
        refine lv_ior hx hb dX2_addTenure_86 ?_
        refine lv_topi (fun f_79 ef_79 => ?_)
        refine pg_put (D := D) (ci := 2) (v := .int f_79) (ty := .int) (C := RX2) (T := TX2) (N := 20) hx hb hg inG2 tyX2 tyX2_ok nmX2 hown hK hP hD hS i_35.1 hM_68 rfl 15 (by decide) (hg _ wd_61) (fun _ h9 => h9) rfl (by decide +kernel) rfl rfl (Nat.le_of_ble_eq_true rfl) dX2_addTenure_87 (fun H_80 locs hP hD hS => ?_)
        obtain ⟨M_81, eM_81⟩ : ∃ M1 : Hp, M1 = va_up M_66 oa ((b2_2 v1_0 v1_1 v1_2 v1_3 (nI v1_4) (nI v1_5) v1_6 v1_7 v1_8 (nI (v1_9 + 1)) v1_10 (nI v1_11) v1_12 v1_13 v1_14 f_79 v1_16 v1_17 v1_18 v1_19)) := ⟨_, rfl⟩
        have sM_81 : M_81 = sF M_66 oa 15 (.int f_79) := eM_81.trans (sF_of (j := 15) (v := .int f_79) hM_68 rfl)
        have hV : VC (va_up Bo q_24 (oa, ((nI v1_9) : Int32).toNatClampNeg)) K L Mb M_81 oa (va_up (va_up (va_up Xv (lKey 3 ((nI v1_9) : Int32).toNatClampNeg) (leN M_30 (some q_24))) 10 (((v1_9 + 1) : Nat) : Int)) 18 (f_79 : Int32).toInt) (va_up (ttY Yv ((nI v1_9) : Int32).toNatClampNeg (teN M_30 (some q_24))) 51 (upd (Yv 51) (k2 : Int32).toNatClampNeg (hrN M_59 (some q_24)))) := by rw [sM_81]; have h9 := VC.f15 (v := f_79) hV hW i_35 hM_68 (Nat.le_of_ble_eq_true rfl); rw [show (f_79 : Int32).toInt = (f_79 : Int32).toInt from rfl] at h9; exact h9
        have hP : va_P D vwCl ([] ++ va_pl L M_81) H_80 := by rw [eM_81]; exact hP
        have hD : va_D A ([] ++ va_pl L M_81) := by rw [eM_81]; exact hD
        have hW : WOK cy K L M_81 := by rw [eM_81]; exact hW.up_2 i_35 ⟨v1_0, v1_1, v1_2, v1_3, v1_4, v1_5, v1_6, v1_7, v1_8, (v1_9 + 1), v1_10, v1_11, v1_12, v1_13, v1_14, f_79, v1_16, v1_17, v1_18, v1_19, rfl, i_37, h1_4, h1_5, i_38, i_39, i_40, hb_63, i_41, h1_11, i_42, i_43, i_44, i_45, i_46, i_47⟩
        have hF : fr K0 L0 [2, 61, 62] M0 M_81 := by rw [eM_81]; exact hF.upX hX0 i_35 (by decide)
        have hT2 : fT 2 K0 L0 [9, 15] M0 M_81 := by rw [eM_81]; exact hT2.up (i := 15) hM_68 rfl (by decide)
        have hM_82 : M_81 oa = (b2_2 v1_0 v1_1 v1_2 v1_3 (nI v1_4) (nI v1_5) v1_6 v1_7 v1_8 (nI (v1_9 + 1)) v1_10 (nI v1_11) v1_12 v1_13 v1_14 f_79 v1_16 v1_17 v1_18 v1_19) := by rw [eM_81]; exact va_up_self _ _ _
        have hM_83 : M_81 v1_7 = .inl (cy 22, 6, .inr (.inr (.inr (.inr (f_71))))) := by rw [eM_81, va_up_ne _ _ (i_39.neT i_35 (by decide))]; exact hM_67
        have hM_84 : M_81 v1_8 = .inl (cy 22, 24, .inr (.inr (.inr (.inr (f_54))))) := by rw [eM_81, va_up_ne _ _ (i_40.neT i_35 (by decide))]; exact hM_69
        have hM_85 : M_81 q_24 = (b9_9 (nI v1_9) k1 k2 k3 0 (-1) 0 0 none 0 0 0 0 0 0 0) := by rw [eM_81, va_up_ne _ _ (i_31.neT i_35 (by decide))]; exact hM_70
        have hM_86 : M_81 k1 = .inr (4, [.int v74_0, .int v74_1, .int v74_2, va_rf (some b_75)]) := by rw [eM_81, va_up_ne _ _ (i_36.neT i_35 (by decide))]; exact hM74
        obtain ⟨x_87, hM_88⟩ : ∃ x : Int32, M_81 b_75 = (b2_2 v77_0 v77_1 v77_2 v77_3 (nI v77_4) (nI v77_5) v77_6 v77_7 v77_8 (nI v77_9) v77_10 (nI v77_11) v77_12 v77_13 v77_14 x v77_16 v77_17 v77_18 v77_19) := by
          rw [eM_81]
          rcases up_same (v := .int f_79) (j := 15) hM_68 hM77 with h | h
          · exact ⟨f_79, h⟩
          · exact ⟨v77_15, h⟩
        refine lv_aload hx hb dX2_addTenure_90 (lv_at hl 0 rfl) ?_
        refine pg_get (D := D) (ci := 9) (v := .int (nI v1_9)) (C := RX9) (T := TX9) (N := 16) hx hb hg inG9 hown hK hP i_31.1 hM_85 rfl 0 (by decide) (hg _ wd_547) (fun _ h9 => h9) rfl dX2_addTenure_92 ?_
        have hc0 : cV 2 M0 b_75 0 = v77_0 := (cV_c (fT.cv1 (W2 hW00) hT2 ib0 (by decide))).symm.trans (cV_of (j := 0) hM_88 rfl)
        have how : (f_79 : Int32).toInt = owB M0 (cV 2 M0 oa 15) (cR 4 M0 k1 3) := by rw [hcr]; show _ = (cV 2 M0 oa 15 ||| ((1 : Int32) <<< (cV 2 M0 b_75 0 &&& 31))).toInt; rw [hc0, hv15, ← ef_78, ← ef_79]
        rw [hr51, hrl, nI_cl (t := v1_9) (by omega), hv9n, how] at hV
        rw [hQ]
        exact W.iret (v := (nI v1_9)) hx hb hr (fun t ht hW9 => ⟨⟨(nI v1_9), (K, L, M_81), rfl, ⟨hX0, hW, hF, hT2, (congrArg nI (by omega))⟩, ⟨⟨_, (teN M_30 (some q_24)), ⟨hq19, hq20, hq21, hq22, hq23, hq24, hq25, hq26, hq27, hq28, hq29⟩, hV.cg (by rw [show (((Xv 10).toNat + 1 : Nat) : Int) = Xv 10 + 1 by omega]) rfl⟩, ⟨hp2, hp4⟩, (fun j hj => by rw [rA_of (j := 8) hM_82 rfl, RFc_of hM_84, ef_54, hr8]; exact va_up_ne _ _ (by rw [nI_cl (by omega)]; omega)), by rw [ht]; exact hP, hD⟩⟩, hS.F ht⟩) hS.2.2 dX2_addTenure_95
    · have hz := rfl (a := 0)
      refine lv_if_ne (tgt := 18) hx hb dX2_addTenure_13 (by decide) (fun c_89 => absurd c_89 (by decide)) (fun _ => ?_)
      refine lv_iconst (v := (-1)) hx hb dX2_addTenure_16 (by decide) ?_
      refine W.widen (k := 1) (n := 16) (Nat.le_of_ble_eq_true rfl) (Nat.le_of_ble_eq_true rfl) ?_
      have hI_90 : ((v1_9 : Nat) : Int) < (24 : Int) := inleI rfl (nI_toInt (by omega)) c_3
      have hA_91 : (cV 2 M oa 0).toInt = (v1_0 : Int32).toInt := by rw [cV_of hM1 rfl]
      have hA_92 : (cV 2 M oa 1).toInt = (v1_1 : Int32).toInt := by rw [cV_of hM1 rfl]
      have hA_93 : (cV 2 M oa 2).toInt = (v1_2 : Int32).toInt := by rw [cV_of hM1 rfl]
      have hA_94 : (cV 2 M oa 4).toInt = ((v1_4 : Nat) : Int) := by rw [cV_of hM1 rfl]; exact nI_toInt (by omega)
      have hA_95 : (cV 2 M oa 5).toInt = ((v1_5 : Nat) : Int) := by rw [cV_of hM1 rfl]; exact nI_toInt (by omega)
      have hA_96 : (cV 2 M oa 9).toInt = ((v1_9 : Nat) : Int) := by rw [cV_of hM1 rfl]; exact nI_toInt (by omega)
      have hA_97 : (cV 2 M oa 11).toInt = ((v1_11 : Nat) : Int) := by rw [cV_of hM1 rfl]; exact nI_toInt (by omega)
      have hA_98 : (cV 2 M oa 15).toInt = (v1_15 : Int32).toInt := by rw [cV_of hM1 rfl]
      rw [hQ]
      exact W.iret (v := (-1)) hx hb hr (fun t ht hW9 => ⟨⟨(-1), (K, L, M), rfl, ⟨hX0, hW, hF, hT2, (by exfalso; omega)⟩, ⟨(by exfalso; omega), (by exfalso; omega), (by exfalso; omega), by rw [ht]; exact hP, hD⟩⟩, hS.F ht⟩) hS.2.2 dX2_addTenure_17
set_option maxHeartbeats 4000000 in
set_option maxRecDepth 100000 in
theorem e_addT_1 (l : Launch) (D : va_G) (cy : Nat → ClassId) (K0 : Kp) (L0 : List Nat) (M0 : Hp) (sz : Nat) (oa : Nat) (k1 : Nat) (k2 : Int32) (k3 : Int32) (Bo : Nat → Nat × Nat) (Mb : Hp) (Xv : Nat → Int) (Yv : Nat → Nat → Int32) (hW : WOK cy K0 L0 M0) (ia : isk K0 L0 oa 2 0) (ik1 : isk K0 L0 k1 4 0) (hV : VC Bo K0 L0 Mb M0 oa Xv Yv) (hro : (0 ≤ Xv 10 ∧ Xv 10 < 24)) (hsk : (0 ≤ k2.toInt ∧ k2.toInt < 6)) (hnn : Yv 28 (Xv 10).toNat ≠ 1) : Met l yX2_addTenure (wsM yX2_addTenure cX2_addTenure 6 (some .int)) ({ frames := 2, cells := 1, slots := 16, locals := 37 }) (va_Pc [.ref oa, .ref k1, .int k2, .int k3, .int 1] (PG D cy [] L0 M0 sz)) (va_Qi (fun (r : Int32) (u : Kp × List Nat × Hp) => ext K0 L0 u.1 u.2.1 ∧ WOK cy u.1 u.2.1 u.2.2 ∧ fr K0 L0 [2, 61, 62] M0 u.2.2 ∧ fT 2 K0 L0 [9, 15] M0 u.2.2 ∧ ((r = (nI (Xv 10).toNat)))) (fun u t => (∃ (B9 : Nat → Nat × Nat) (f9 : Nat → Int32), (f9 19 = cV 4 M0 k1 0 ∧ f9 20 = k2 ∧ f9 21 = k3 ∧ f9 22 = -1 ∧ f9 23 = 0 ∧ f9 24 = 0 ∧ f9 25 = -1 ∧ f9 26 = 1 ∧ f9 27 = owN M0 (cR 4 M0 k1 3) ∧ f9 28 = 1 ∧ f9 29 = cV 4 M0 k1 1) ∧ VC B9 u.1 u.2.1 Mb u.2.2 oa (va_up (va_up (va_up Xv (lKey 3 (Xv 10).toNat) 0) 10 (Xv 10 + 1)) 18 (owB M0 (cV 2 M0 oa 15) (cR 4 M0 k1 3))) (va_up (ttY Yv (Xv 10).toNat f9) 51 (upd (Yv 51) k2.toNatClampNeg (nI (Xv 10).toNat)))) ∧ NW2 K0 L0 u.1 u.2.1 ∧ (∀ j, j ≠ (Xv 10).toNat → RFc (u.2.2 (rA 2 u.2.2 oa 8)) j = RFc (M0 (rA 2 M0 oa 8)) j) ∧ PQ D [] u.2.1 u.2.2 (va_A ([] ++ va_pl L0 M0) sz) t) (va_A ([] ++ va_pl L0 M0) sz)) 1 16 (va_A ([] ++ va_pl L0 M0) sz) := by
  refine Met.ofW (cc := cX2_addTenure) (maxL := 6) (ret := (some .int)) (by decide) rfl ?_
  intro p e s m args below meth c s₁ B hml hv
  obtain ⟨rfl, hsz, hP, hK, hD0, hN⟩ := hv
  have hx := B.exec
  have hb := B.bytes
  have hr := B.returns
  have hts := atoms_spec (ws := (wsM yX2_addTenure cX2_addTenure 6 (some .int))) B.pre
  have hg : ∀ w ∈ lw_good, w.before _ s = true := fun w h => hts w (List.mem_cons_of_mem _ h)
  have hown : s.vm.findClass RX2 = some m.cls := findClass_of_methodNamed B.named
  have hlocks := B.notSynchronized
  subst hsz
  have hD := hD0.self (sz := s.heap.size)
  generalize hAe : va_A ([] ++ va_pl L0 M0) s.heap.size = A at hD ⊢
  have hA : ∀ q : Nat, s.heap.size ≤ q → A q := fun q h => by rw [← hAe]; exact Or.inr h
  have hS : va_S A s.heap s.heap [] := va_S.rf
  have hl := lv_entry ([.ref oa, .ref k1, .int k2, .int k3, .int 1]) (n := 6) (Nat.le_of_ble_eq_true rfl)
  rw [lg_entry_eq]
  generalize (lg_sl ([.ref oa, .ref k1, .int k2, .int k3, .int 1]) ++ List.replicate (6 - (lg_sl ([.ref oa, .ref k1, .int k2, .int k3, .int 1])).length) Slot.unset).toArray = ls at hl ⊢
  refine W.nameQ (fun Q hQ => ?_)
  refine W.nameR (fun R hR => ?_)
  have hRf : 2 ≤ R.frames := by rw [hR]; exact Nat.le_of_ble_eq_true rfl
  have hRl : 37 ≤ R.locals := by rw [hR]; exact Nat.le_of_ble_eq_true rfl
  have hRc : 1 ≤ R.cells := by rw [hR]; exact Nat.le_of_ble_eq_true rfl
  have hRs : 16 ≤ R.slots := by rw [hR]; exact Nat.le_of_ble_eq_true rfl
  have hW00 := hW
  have ia00 := ia
  have ik100 := ik1
  have hV00 := hV
  obtain ⟨K, L, M, hX0, hF, hT2, hW, hP, hD, ia, ik1, hV, hMe, hKe, hLe⟩ : ∃ (K : Kp) (L : List Nat) (M : Hp), ext K0 L0 K L ∧ fr K0 L0 [2, 61, 62] M0 M ∧ fT 2 K0 L0 [9, 15] M0 M ∧ WOK cy K L M ∧ va_P D vwCl ([] ++ va_pl L M) s.heap ∧ va_D A ([] ++ va_pl L M) ∧ isk K L oa 2 0 ∧ isk K L k1 4 0 ∧ VC Bo K L Mb M oa Xv Yv ∧ M = M0 ∧ K = K0 ∧ L = L0 := ⟨K0, L0, M0, ext.rf, fr.rf, fT.rf, hW, hP, hD, ia, ik1, hV, rfl, rfl, rfl⟩
  have hl : lv_has ls 6 [(0, .ref oa), (1, .ref k1), (2, .int k2), (3, .int k3), (4, .int 1)] := hl
  have hp2 : ∀ q, isk K L q 2 0 → isk K0 L0 q 2 0 := by rw [hKe, hLe]; exact fun q iq => iq
  have hp4 : ∀ q, isk K L q 4 0 → isk K0 L0 q 4 0 := by rw [hKe, hLe]; exact fun q iq => iq
  obtain ⟨v1_0, v1_1, v1_2, v1_3, v1_4, v1_5, v1_6, v1_7, v1_8, v1_9, v1_10, v1_11, v1_12, v1_13, v1_14, v1_15, v1_16, v1_17, v1_18, v1_19, hM1, h1_3, h1_4, h1_5, h1_6, h1_7, h1_8, h1_9, h1_10, h1_11, h1_12, h1_13, h1_16, h1_17, h1_18, h1_19⟩ := hW.open_2 ia
  have hv9 : ((v1_9 : Nat) : Int) = Xv 10 := by have h9 : (cV 2 M oa 9).toInt = Xv 10 := congrFun hV.2.1 10; rw [cV_of hM1 rfl, nI_toInt (by omega)] at h9; exact h9
  have hv9n : v1_9 = (Xv 10).toNat := by omega
  have hv15 : cV 2 M0 oa 15 = v1_15 := by rw [← hMe]; exact cV_of hM1 rfl
  have hv18 : (v1_15 : Int32).toInt = Xv 18 := by have h9 : (cV 2 M oa 15).toInt = Xv 18 := congrFun hV.2.1 18; rw [cV_of hM1 rfl] at h9; exact h9
  obtain ⟨f2, hM2, hf2⟩ := hW.open_62 h1_8
  have hr8 : RFc (M0 (rA 2 M0 oa 8)) = f2 := by rw [← hMe, rA_of (j := 8) hM1 rfl, RFc_of hM2]
  refine lv_aload_n hx hb dX2_addTenure_0 rfl (lv_at hl 0 rfl) ?_
  refine pg_get (D := D) (ci := 2) (v := .int (nI v1_9)) (C := RX2) (T := TX2) (N := 20) hx hb hg inG2 hown hK hP ia.1 hM1 rfl 9 (by decide) (hg _ wd_44) (fun _ h9 => h9) rfl dX2_addTenure_1 ?_
  refine lv_bipush (v := 24) hx hb dX2_addTenure_4 (by decide) ?_
  refine lv_icmp_ge (tgt := 16) hx hb dX2_addTenure_6 (by decide) (fun c_3 => ?_) (fun c_3 => ?_)
  · have hz := rfl (a := 0)
    have n_4 : 24 ≤ v1_9 := (iLE (a := 24) (b := v1_9) (by omega) (by omega)).mp c_3
    refine lv_iconst (v := (-1)) hx hb dX2_addTenure_16 (by decide) ?_
    refine W.widen (k := 1) (n := 16) (Nat.le_of_ble_eq_true rfl) (Nat.le_of_ble_eq_true rfl) ?_
    have hI_5 : (24 : Int) ≤ ((v1_9 : Nat) : Int) := ileI rfl (nI_toInt (by omega)) c_3
    have hA_6 : (cV 2 M oa 0).toInt = (v1_0 : Int32).toInt := by rw [cV_of hM1 rfl]
    have hA_7 : (cV 2 M oa 1).toInt = (v1_1 : Int32).toInt := by rw [cV_of hM1 rfl]
    have hA_8 : (cV 2 M oa 2).toInt = (v1_2 : Int32).toInt := by rw [cV_of hM1 rfl]
    have hA_9 : (cV 2 M oa 4).toInt = ((v1_4 : Nat) : Int) := by rw [cV_of hM1 rfl]; exact nI_toInt (by omega)
    have hA_10 : (cV 2 M oa 5).toInt = ((v1_5 : Nat) : Int) := by rw [cV_of hM1 rfl]; exact nI_toInt (by omega)
    have hA_11 : (cV 2 M oa 9).toInt = ((v1_9 : Nat) : Int) := by rw [cV_of hM1 rfl]; exact nI_toInt (by omega)
    have hA_12 : (cV 2 M oa 11).toInt = ((v1_11 : Nat) : Int) := by rw [cV_of hM1 rfl]; exact nI_toInt (by omega)
    have hA_13 : (cV 2 M oa 15).toInt = (v1_15 : Int32).toInt := by rw [cV_of hM1 rfl]
    rw [hQ]
    exact W.iret (v := (-1)) hx hb hr (fun t ht hW9 => ⟨⟨(-1), (K, L, M), rfl, ⟨hX0, hW, hF, hT2, (by exfalso; omega)⟩, ⟨(by exfalso; omega), (by exfalso; omega), (by exfalso; omega), by rw [ht]; exact hP, hD⟩⟩, hS.F ht⟩) hS.2.2 dX2_addTenure_17
  · have hz := rfl (a := 0)
    have n_14 : ¬ (24 ≤ v1_9) := fun q => c_3 ((iLE (a := 24) (b := v1_9) (by omega) (by omega)).mpr q)
    refine lv_iload_n hx hb dX2_addTenure_9 rfl (lv_at hl 2 rfl) ?_
    have hPc : va_P D vwCl ([] ++ va_pl L M) s.heap := hP
    have hDc : va_D A ([] ++ va_pl L M) := hD
    have hFc : ∀ q, va_A ([] ++ va_pl L M) s.heap.size q → A q := pg_free hDc hS hA
    refine va_calli (va_runSN (As := [.int k2]) (rest := []) ⟨hx, hb, hml, hown, hg⟩ (e_X11_isSeat l D cy K L M s.heap.size k2  hW ) ⟨va_cnB 1 hg (gB wd_46) rfl rfl rfl (hN _ (List.mem_of_getElem? (i := 3) rfl) : va_Nw (Cond.methodLinkNest RX2 88 yX11_isSeat RX11) s) (hg _ wd_3) (by decide +kernel) ⟨(Nat.le_trans (Nat.le_of_ble_eq_true rfl) hRf), (Nat.le_trans (Nat.le_of_ble_eq_true rfl) hRl)⟩, hg _ wd_47, trivial⟩ ⟨PG.blind, fun U hU hW => ⟨rfl, PG.at hPc hK hDc hN hU hW⟩⟩ rfl rfl hl.1 rfl (lv_room (Nat.le_of_ble_eq_true rfl)) dX2_addTenure_10 ⟨(Nat.le_trans (Nat.le_of_ble_eq_true rfl) hRc), (Nat.le_trans (Nat.le_of_ble_eq_true rfl) hRs)⟩) hS (fun q _ h => hFc q h) hFc (fun r_16 M_17 t H_15 locs ht hvm hw hB hz1 hk1 hS => ?_)
    have hp_18 := hw
    obtain ⟨hP1, hD1⟩ := hB
    rw [ht] at hP1
    have hP : va_P D vwCl ([] ++ va_pl L M) H_15 := hP1
    have hD : va_D A ([] ++ va_pl L M) := hD1.mono hFc
    rcases hp_18 with ⟨rfl, c_19, c_20, c_21⟩ | ⟨rfl, c_22⟩
    · have hz := rfl (a := 0)
      refine lv_if_ne (tgt := 18) hx hb dX2_addTenure_13 (by decide) (fun _ => ?_) (fun c_23 => absurd c_23 (by decide))
      refine va_new (ci := 9) (fs := [.int 0, .null, .int 0, .int 0, .int 0, .int 0, .int 0, .int 0, .null, .long 0, .long 0, .long 0, .long 0, .long 0, .long 0, .long 0]) (C := RX9) (T := TX9) (N := 16) hx hb hg inG9 tyX9 tyX9_ok hown (hg _ wd_542) (hg _ wd_543) (hg _ wd_52) hK hP hD hS hA rfl dfX9 (Nat.le_trans (Nat.le_of_ble_eq_true rfl) hRc) (Nat.le_trans (Nat.le_of_ble_eq_true rfl) hRs) dX2_addTenure_18 (fun q_24 H_25 hP hD hS => ?_)
      have hP : va_P D vwCl ([(q_24, .inr (9, [.int 0, .null, .int 0, .int 0, .int 0, .int 0, .int 0, .int 0, .null, .long 0, .long 0, .long 0, .long 0, .long 0, .long 0, .long 0]))] ++ va_pl L M) H_25 := hP.swap
      have hD : va_D A ([(q_24, .inr (9, [.int 0, .null, .int 0, .int 0, .int 0, .int 0, .int 0, .int 0, .null, .long 0, .long 0, .long 0, .long 0, .long 0, .long 0, .long 0]))] ++ va_pl L M) := hD.swap
      refine W.widen (k := 1) (n := 16) (Nat.le_of_ble_eq_true rfl) (Nat.le_of_ble_eq_true rfl) ?_
      refine lv_dup hx hb dX2_addTenure_21 rfl ?_
      refine lv_aload_n hx hb dX2_addTenure_22 rfl (lv_at hl 0 rfl) ?_
      refine pg_get (D := D) (ci := 2) (v := .int (nI v1_9)) (C := RX2) (T := TX2) (N := 20) hx hb hg inG2 hown hK hP ia.1 hM1 rfl 9 (by decide) (hg _ wd_44) (fun _ h9 => h9) rfl dX2_addTenure_23 ?_
      refine lv_aload_n hx hb dX2_addTenure_26 rfl (lv_at hl 1 rfl) ?_
      refine lv_iload_n hx hb dX2_addTenure_27 rfl (lv_at hl 2 rfl) ?_
      refine lv_iload_n hx hb dX2_addTenure_28 rfl (lv_at hl 3 rfl) ?_
      refine lv_iload hx hb dX2_addTenure_29 (lv_at hl 4 rfl) ?_
      have hPc := hP.sub (ws' := [(q_24, .inr (9, [.int 0, .null, .int 0, .int 0, .int 0, .int 0, .int 0, .int 0, .null, .long 0, .long 0, .long 0, .long 0, .long 0, .long 0, .long 0]))]) [0] rfl
      have hDc := hD.sub (ws' := [(q_24, .inr (9, [.int 0, .null, .int 0, .int 0, .int 0, .int 0, .int 0, .int 0, .null, .long 0, .long 0, .long 0, .long 0, .long 0, .long 0, .long 0]))]) [0] (by decide) rfl
      have hKc := hK.sub (tys' := []) [] rfl
      have hFc := va_free (wc := [(q_24, .inr (9, [.int 0, .null, .int 0, .int 0, .int 0, .int 0, .int 0, .int 0, .null, .long 0, .long 0, .long 0, .long 0, .long 0, .long 0, .long 0]))]) hD hS hA [0] rfl
      refine va_callv (va_runI (As := [.int (nI v1_9), .ref k1, .int k2, .int k3, .int 1]) (rest := [.ref q_24]) ⟨hx, hb, hml, hown, hg⟩ (k_Tenure_1 l D H_25.size q_24 (nI v1_9) k1 k2 k3) (cwI 5 hg (gB wd_544) rfl rfl rfl (hg _ wd_52) (hg _ wd_545) (hg _ wd_546) rfl (by decide +kernel) ⟨(Nat.le_trans (Nat.le_of_ble_eq_true rfl) hRf), (Nat.le_trans (Nat.le_of_ble_eq_true rfl) hRl)⟩) ⟨Pr.blind, fun U hU hW => ⟨rfl, Pr.at hPc hKc hDc hN hU hW⟩⟩ rfl rfl hl.1 rfl (lv_room (Nat.le_of_ble_eq_true rfl)) dX2_addTenure_31 ⟨(Nat.le_trans (Nat.le_of_ble_eq_true rfl) hRc), (Nat.le_trans (Nat.le_of_ble_eq_true rfl) hRs)⟩) hS (fun q _ h => hFc q h) hFc (fun M_28 t H_26 locs ht hvm hw hB hz1 hk1 hS => ?_)
      have hp_29 := hw
      obtain ⟨hP1, hK1, hD1⟩ := hB
      rw [ht] at hP1
      obtain ⟨hP, hD⟩ := va_joinQ (X := [(q_24, .inr (9, [.int 0, .null, .int 0, .int 0, .int 0, .int 0, .int 0, .int 0, .null, .long 0, .long 0, .long 0, .long 0, .long 0, .long 0, .long 0]))]) (cx := [(q_24, .inr (9, [.int 0, .null, .int 0, .int 0, .int 0, .int 0, .int 0, .int 0, .null, .long 0, .long 0, .long 0, .long 0, .long 0, .long 0, .long 0]))]) (wr := []) (w1 := [(q_24, .inr (9, [.int (nI v1_9), .ref k1, .int k2, .int k3, .int 1, .int (-1), .int 0, .int 0, .null, .long 0, .long 0, .long 0, .long 0, .long 0, .long 0, .long 0]))]) (pl := va_pl L M) hP hD [0] [] rfl rfl (by decide) (by decide) hk1 hFc hP1 hD1
      have hP : va_P D vwCl ([(q_24, .inr (9, [.int (nI v1_9), .ref k1, .int k2, .int k3, .int 1, .int (-1), .int 0, .int 0, .null, .long 0, .long 0, .long 0, .long 0, .long 0, .long 0, .long 0]))] ++ va_pl L M) H_26 := hP
      have hD : va_D A ([(q_24, .inr (9, [.int (nI v1_9), .ref k1, .int k2, .int k3, .int 1, .int (-1), .int 0, .int 0, .null, .long 0, .long 0, .long 0, .long 0, .long 0, .long 0, .long 0]))] ++ va_pl L M) := hD
      have hP : va_P D vwCl (([] ++ [(q_24, .inr (9, [.int (nI v1_9), .ref k1, .int k2, .int k3, .int 1, .int (-1), .int 0, .int 0, .null, .long 0, .long 0, .long 0, .long 0, .long 0, .long 0, .long 0]))]) ++ va_pl L M) H_26 := hP.part (cx := [] ++ [(q_24, .inr (9, [.int (nI v1_9), .ref k1, .int k2, .int k3, .int 1, .int (-1), .int 0, .int 0, .null, .long 0, .long 0, .long 0, .long 0, .long 0, .long 0, .long 0]))]) [0] rfl
      have hD : va_D A (([] ++ [(q_24, .inr (9, [.int (nI v1_9), .ref k1, .int k2, .int k3, .int 1, .int (-1), .int 0, .int 0, .null, .long 0, .long 0, .long 0, .long 0, .long 0, .long 0, .long 0]))]) ++ va_pl L M) := hD.part (cx := [] ++ [(q_24, .inr (9, [.int (nI v1_9), .ref k1, .int k2, .int k3, .int 1, .int (-1), .int 0, .int 0, .null, .long 0, .long 0, .long 0, .long 0, .long 0, .long 0, .long 0]))]) [0] (by decide) rfl
      have hWa := hW
      obtain ⟨K9, L9, M_30, hx9, i_31, hW, hP, hD, hM_32, hfr9, hq9, hm9⟩ := adoptE2 9 0 hP hD hW (fun K' L' x i => (⟨v1_9, k1, k2, k3, 1, (-1), 0, 0, none, 0, 0, 0, 0, 0, 0, 0, rfl, (by omega), ik1.ext x, (Or.inr rfl), iskN.none⟩ : gd_9 K' L' _))
      have hn9 : ∀ b, isk K9 L9 b 2 0 → isk K L b 2 0 := fun b hb => (hm9 b hb.1).elim (fun z => absurd (hb.un (show isk K9 L9 b 9 0 by rw [z]; exact i_31)) (by decide)) (fun z => ⟨z, ((hx9 b z).2).symm.trans hb.2⟩)
      have ho9 : ∀ b, isk K9 L9 b 4 0 → isk K L b 4 0 := fun b hb => (hm9 b hb.1).elim (fun z => absurd (hb.un (show isk K9 L9 b 9 0 by rw [z]; exact i_31)) (by decide)) (fun z => ⟨z, ((hx9 b z).2).symm.trans hb.2⟩)
      have hV : VC (va_up Bo q_24 (oa, ((nI v1_9) : Int32).toNatClampNeg)) K9 L9 Mb M_30 oa Xv Yv := hV.ad (oa, ((nI v1_9) : Int32).toNatClampNeg) hWa ia hx9 hfr9 hq9 hn9
      have hp4 : ∀ q, isk K9 L9 q 4 0 → isk K0 L0 q 4 0 := fun q iq => hp4 q (ho9 q iq)
      have hp2 : ∀ q, isk K9 L9 q 2 0 → isk K0 L0 q 2 0 := fun q iq => hp2 q (hn9 q iq)
      have hfrk : ∀ b, b ∈ L0 → M_30 b = M0 b := fun b q => (hfr9 b (by rw [hLe]; exact q)).trans (by rw [hMe])
      have hq0q_24 : q_24 ∉ L0 := fun z => hq9 (hX0 _ z).1
      have hM_33 : M_30 oa = (b2_2 v1_0 v1_1 v1_2 v1_3 (nI v1_4) (nI v1_5) v1_6 v1_7 v1_8 (nI v1_9) v1_10 (nI v1_11) v1_12 v1_13 v1_14 v1_15 v1_16 v1_17 v1_18 v1_19) := (hfr9 _ ia.1).trans hM1
      have hM_34 : M_30 v1_8 = .inl (cy 22, 24, .inr (.inr (.inr (.inr (f2))))) := (hfr9 _ h1_8.1).trans hM2
      have hF : fr K0 L0 [2, 61, 62] M0 M_30 := hF.adX hX0 hfr9
      have hT2 : fT 2 K0 L0 [9, 15] M0 M_30 := hT2.adX hX0 hfr9
      have hX0 := hX0.tr hx9
      have i_35 := ia.ext hx9
      have i_36 := ik1.ext hx9
      have i_37 := h1_3.ext hx9
      have i_38 := h1_6.ext hx9
      have i_39 := h1_7.ext hx9
      have i_40 := h1_8.ext hx9
      have i_41 := h1_10.ext hx9
      have i_42 := h1_12.ext hx9
      have i_43 := h1_13.ext hx9
      have i_44 := h1_16.ext hx9
      have i_45 := h1_17.ext hx9
      have i_46 := h1_18.ext hx9
      have i_47 := h1_19.ext hx9
      have hf_48 := fun j q => (hf2 j q).ext hx9
      obtain ⟨K, L, hK9, hL9⟩ : ∃ (K : Kp) (L : List Nat), K = K9 ∧ L = L9 := ⟨_, _, rfl, rfl⟩
      subst hK9
      subst hL9
      have hP : va_P D vwCl ([] ++ va_pl L M_30) H_26 := hP
      have hD : va_D A ([] ++ va_pl L M_30) := hD
      refine lv_astore (lv' := [(5, .ref q_24), (0, .ref oa), (1, .ref k1), (2, .int k2), (3, .int k3), (4, .int 1)]) hx hb dX2_addTenure_34 hl (by decide) rfl (fun ls hl => ?_)
      refine lv_aload_n hx hb dX2_addTenure_36 rfl (lv_at hl 1 rfl) ?_
      refine pg_get (D := D) (ci := 2) (v := .ref v1_8) (C := RX2) (T := TX2) (N := 20) hx hb hg inG2 hown hK hP i_35.1 hM_33 rfl 8 (by decide) (hg _ wd_45) (fun _ h9 => h9) rfl dX2_addTenure_37 ?_
      refine lv_aload_n hx hb dX2_addTenure_40 rfl (lv_at hl 1 rfl) ?_
      refine pg_get (D := D) (ci := 2) (v := .int (nI v1_9)) (C := RX2) (T := TX2) (N := 20) hx hb hg inG2 hown hK hP i_35.1 hM_33 rfl 9 (by decide) (hg _ wd_44) (fun _ h9 => h9) rfl dX2_addTenure_41 ?_
      refine lv_aload hx hb dX2_addTenure_44 (lv_at hl 0 rfl) ?_
      have hk0 : M_30 k1 = M0 k1 := hfrk k1 ik100.1
      have hq19 : (teN M_30 (some q_24)) 19 = cV 4 M0 k1 0 := by show cV 4 M_30 (rA 9 M_30 q_24 1) 0 = _; rw [rA_of (j := 1) hM_32 rfl]; exact cV_eq hk0
      have hq20 : (teN M_30 (some q_24)) 20 = k2 := cV_of (j := 2) hM_32 rfl
      have hq21 : (teN M_30 (some q_24)) 21 = k3 := cV_of (j := 3) hM_32 rfl
      have hq22 : (teN M_30 (some q_24)) 22 = -1 := cV_of (j := 5) hM_32 rfl
      have hq23 : (teN M_30 (some q_24)) 23 = 0 := cV_of (j := 6) hM_32 rfl
      have hq24 : (teN M_30 (some q_24)) 24 = 0 := cV_of (j := 7) hM_32 rfl
      have hq25 : (teN M_30 (some q_24)) 25 = -1 := by show hrN M_30 (cR 9 M_30 q_24 8) = _; rw [cR_q (q := none) hM_32 rfl]; rfl
      have hq27 : (teN M_30 (some q_24)) 27 = owN M0 (cR 4 M0 k1 3) := by show owN M_30 (cR 4 M_30 (rA 9 M_30 q_24 1) 3) = _; rw [rA_of (j := 1) hM_32 rfl, cR_eq hk0]; exact owN_c _ (fun u hu => by unfold cVt; rw [hfrk u (KP hW00 ik100 u hu).1])
      have hq28 : (teN M_30 (some q_24)) 28 = 1 := rfl
      have hrl : leN M_30 (some q_24) = 0 := by show (cL 9 M_30 q_24 12).toInt = 0; rw [cL_of (j := 12) hM_32 rfl]; rfl
      have hq26 : (teN M_30 (some q_24)) 26 = 1 := cV_of (j := 4) hM_32 rfl
      have hq29 : (teN M_30 (some q_24)) 29 = cV 4 M0 k1 1 := by show cV 4 M_30 (rA 9 M_30 q_24 1) 1 = _; rw [rA_of (j := 1) hM_32 rfl]; exact cV_eq hk0
      refine pg_astq (r := (RX9, TX9, 16)) hx hb hK hP hD hS i_40.1 8 9 hM_34 rfl i_31.1 hM_32 rfl (inbN v1_9 24 (by omega) (by omega)) dX2_addTenure_46 (fun H_49 locs hP hD hS => ?_)
      obtain ⟨M_50, eM_50⟩ : ∃ M1 : Hp, M1 = va_up M_30 v1_8 (.inl (cy 22, 24, .inr (.inr (.inr (.inr (va_up f2 ((nI v1_9) : Int32).toNatClampNeg (some q_24))))))) := ⟨_, rfl⟩
      have sM_50 : M_50 = sR M_30 v1_8 ((nI v1_9) : Int32).toNatClampNeg (some q_24) := eM_50.trans (sR_of hM_34)
      have hV : VC (va_up Bo q_24 (oa, ((nI v1_9) : Int32).toNatClampNeg)) K L Mb M_50 oa (va_up Xv (lKey 3 ((nI v1_9) : Int32).toNatClampNeg) (leN M_30 (some q_24))) (ttY Yv ((nI v1_9) : Int32).toNatClampNeg (teN M_30 (some q_24))) := by rw [sM_50]; exact VC.r_te hV hW i_35 (vp_lt (inbN v1_9 24 (by omega) (by omega))) (rA_of (j := 8) hM_33 rfl) hM_34 (fun q9 z9 => by cases z9; exact va_up_self _ _ _) (fun q9 z9 => by cases z9; exact (by rw [cV_of (j := 0) hM_32 rfl, nI_cl (by omega)])) (by have h9 := tnone (M := M_30) (b := oa) (i := ((nI v1_9) : Int32).toNatClampNeg) (by rw [congrFun hV.2.2.1 28, nI_cl (by omega), hv9n]; exact hnn) (by rw [nI_cl (by omega)]; omega); rw [rA_of (j := 8) hM_33 rfl] at h9; exact h9)
      have hP : va_P D vwCl ([] ++ va_pl L M_50) H_49 := by rw [eM_50]; exact hP
      have hD : va_D A ([] ++ va_pl L M_50) := by rw [eM_50]; exact hD
      have hW : WOK cy K L M_50 := by rw [eM_50]; exact hW.up_62 i_40 ⟨_, rfl, (upN hf_48 i_31)⟩
      have hF : fr K0 L0 [2, 61, 62] M0 M_50 := by rw [eM_50]; exact hF.upX hX0 i_40 (by decide)
      have hT2 : fT 2 K0 L0 [9, 15] M0 M_50 := by rw [eM_50]; exact hT2.neX hX0 i_40 (by decide)
      have hM_51 : M_50 v1_8 = .inl (cy 22, 24, .inr (.inr (.inr (.inr (va_up f2 ((nI v1_9) : Int32).toNatClampNeg (some q_24)))))) := by rw [eM_50]; exact va_up_self _ _ _
      have hM_52 : M_50 oa = (b2_2 v1_0 v1_1 v1_2 v1_3 (nI v1_4) (nI v1_5) v1_6 v1_7 v1_8 (nI v1_9) v1_10 (nI v1_11) v1_12 v1_13 v1_14 v1_15 v1_16 v1_17 v1_18 v1_19) := by rw [eM_50, va_up_ne _ _ (i_35.neT i_40 (by decide))]; exact hM_33
      have hM_53 : M_50 q_24 = (b9_9 (nI v1_9) k1 k2 k3 1 (-1) 0 0 none 0 0 0 0 0 0 0) := by rw [eM_50, va_up_ne _ _ (i_31.neT i_40 (by decide))]; exact hM_32
      have hf_55 : ∀ j, j < 24 → iskN K L ((va_up f2 ((nI v1_9) : Int32).toNatClampNeg (some q_24)) j) 9 0 := (upN hf_48 i_31)
      obtain ⟨f_54, ef_54⟩ : ∃ f : Nat → Option Nat, f = va_up f2 ((nI v1_9) : Int32).toNatClampNeg (some q_24) := ⟨_, rfl⟩
      rw [← ef_54] at hM_51 hf_55
      have hk_56 : f_54 ((nI v1_9) : Int32).toNatClampNeg = some q_24 := by rw [ef_54]; exact va_up_self _ _ _
      refine lv_aload_n hx hb dX2_addTenure_47 rfl (lv_at hl 1 rfl) ?_
      refine lv_dup hx hb dX2_addTenure_48 rfl ?_
      refine pg_get (D := D) (ci := 2) (v := .int (nI v1_9)) (C := RX2) (T := TX2) (N := 20) hx hb hg inG2 hown hK hP i_35.1 hM_52 rfl 9 (by decide) (hg _ wd_44) (fun _ h9 => h9) rfl dX2_addTenure_49 ?_
      refine lv_iconst (v := 1) hx hb dX2_addTenure_52 (by decide) ?_
      refine lv_iadd hx hb dX2_addTenure_53 ?_
      refine lv_topi (fun f_57 ef_57 => ?_)
      obtain rfl : f_57 = (nI (v1_9 + 1)) := ef_57.trans (nI_add v1_9 1)
      refine pg_put (D := D) (ci := 2) (v := .int (nI (v1_9 + 1))) (ty := .int) (C := RX2) (T := TX2) (N := 20) hx hb hg inG2 tyX2 tyX2_ok nmX2 hown hK hP hD hS i_35.1 hM_52 rfl 9 (by decide) (hg _ wd_44) (fun _ h9 => h9) rfl (by decide +kernel) rfl rfl (Nat.le_of_ble_eq_true rfl) dX2_addTenure_54 (fun H_58 locs hP hD hS => ?_)
      obtain ⟨M_59, eM_59⟩ : ∃ M1 : Hp, M1 = va_up M_50 oa ((b2_2 v1_0 v1_1 v1_2 v1_3 (nI v1_4) (nI v1_5) v1_6 v1_7 v1_8 (nI (v1_9 + 1)) v1_10 (nI v1_11) v1_12 v1_13 v1_14 v1_15 v1_16 v1_17 v1_18 v1_19)) := ⟨_, rfl⟩
      have sM_59 : M_59 = sF M_50 oa 9 (.int (nI (v1_9 + 1))) := eM_59.trans (sF_of (j := 9) (v := .int (nI (v1_9 + 1))) hM_52 rfl)
      have hV : VC (va_up Bo q_24 (oa, ((nI v1_9) : Int32).toNatClampNeg)) K L Mb M_59 oa (va_up (va_up Xv (lKey 3 ((nI v1_9) : Int32).toNatClampNeg) (leN M_30 (some q_24))) 10 (((v1_9 + 1) : Nat) : Int)) (ttY Yv ((nI v1_9) : Int32).toNatClampNeg (teN M_30 (some q_24))) := by rw [sM_59]; have h9 := VC.f9 (v := (nI (v1_9 + 1))) hV hW i_35 hM_52 (Nat.le_of_ble_eq_true rfl); rw [show ((nI (v1_9 + 1)) : Int32).toInt = (((v1_9 + 1) : Nat) : Int) from (nI_toInt (by omega))] at h9; exact h9
      have hP : va_P D vwCl ([] ++ va_pl L M_59) H_58 := by rw [eM_59]; exact hP
      have hD : va_D A ([] ++ va_pl L M_59) := by rw [eM_59]; exact hD
      have hW : WOK cy K L M_59 := by rw [eM_59]; exact hW.up_2 i_35 ⟨v1_0, v1_1, v1_2, v1_3, v1_4, v1_5, v1_6, v1_7, v1_8, (v1_9 + 1), v1_10, v1_11, v1_12, v1_13, v1_14, v1_15, v1_16, v1_17, v1_18, v1_19, rfl, i_37, h1_4, h1_5, i_38, i_39, i_40, (by omega), i_41, h1_11, i_42, i_43, i_44, i_45, i_46, i_47⟩
      have hF : fr K0 L0 [2, 61, 62] M0 M_59 := by rw [eM_59]; exact hF.upX hX0 i_35 (by decide)
      have hT2 : fT 2 K0 L0 [9, 15] M0 M_59 := by rw [eM_59]; exact hT2.up (i := 9) hM_52 rfl (by decide)
      have hM_60 : M_59 oa = (b2_2 v1_0 v1_1 v1_2 v1_3 (nI v1_4) (nI v1_5) v1_6 v1_7 v1_8 (nI (v1_9 + 1)) v1_10 (nI v1_11) v1_12 v1_13 v1_14 v1_15 v1_16 v1_17 v1_18 v1_19) := by rw [eM_59]; exact va_up_self _ _ _
      have hM_61 : M_59 v1_8 = .inl (cy 22, 24, .inr (.inr (.inr (.inr (f_54))))) := by rw [eM_59, va_up_ne _ _ (i_40.neT i_35 (by decide))]; exact hM_51
      have hM_62 : M_59 q_24 = (b9_9 (nI v1_9) k1 k2 k3 1 (-1) 0 0 none 0 0 0 0 0 0 0) := by rw [eM_59, va_up_ne _ _ (i_31.neT i_35 (by decide))]; exact hM_53
      have hb_63 : (v1_9 + 1) ≤ 24 := by omega
      refine lv_aload_n hx hb dX2_addTenure_57 rfl (lv_at hl 1 rfl) ?_
      refine pg_get (D := D) (ci := 2) (v := .ref v1_7) (C := RX2) (T := TX2) (N := 20) hx hb hg inG2 hown hK hP i_35.1 hM_60 rfl 7 (by decide) (hg _ wd_48) (fun _ h9 => h9) rfl dX2_addTenure_58 ?_
      refine lv_iload_n hx hb dX2_addTenure_61 rfl (lv_at hl 3 rfl) ?_
      refine lv_aload hx hb dX2_addTenure_62 (lv_at hl 0 rfl) ?_
      have hr51 : hrN M_59 (some q_24) = nI (Xv 10).toNat := by show cV 9 M_59 q_24 0 = _; rw [cV_of (j := 0) hM_62 rfl]; exact congrArg nI (by omega)
      obtain ⟨f64, hM64, hf64⟩ := hW.open_61 i_39
      refine pg_astq (r := (RX9, TX9, 16)) hx hb hK hP hD hS i_39.1 8 9 hM64 rfl i_31.1 hM_62 rfl (inb k2 6 (by omega) c_20 c_21) dX2_addTenure_64 (fun H_65 locs hP hD hS => ?_)
      obtain ⟨M_66, eM_66⟩ : ∃ M1 : Hp, M1 = va_up M_59 v1_7 (.inl (cy 22, 6, .inr (.inr (.inr (.inr (va_up f64 (k2 : Int32).toNatClampNeg (some q_24))))))) := ⟨_, rfl⟩
      have sM_66 : M_66 = sR M_59 v1_7 (k2 : Int32).toNatClampNeg (some q_24) := eM_66.trans (sR_of hM64)
      have hV : VC (va_up Bo q_24 (oa, ((nI v1_9) : Int32).toNatClampNeg)) K L Mb M_66 oa (va_up (va_up Xv (lKey 3 ((nI v1_9) : Int32).toNatClampNeg) (leN M_30 (some q_24))) 10 (((v1_9 + 1) : Nat) : Int)) (va_up (ttY Yv ((nI v1_9) : Int32).toNatClampNeg (teN M_30 (some q_24))) 51 (upd (Yv 51) (k2 : Int32).toNatClampNeg (hrN M_59 (some q_24)))) := by rw [sM_66]; exact VC.r_he hV hW i_35 (vp_lt (inb k2 6 (by omega) c_20 c_21)) (rA_of (j := 7) hM_60 rfl) hM64 (fun q9 z9 => by cases z9; exact ⟨((nI v1_9) : Int32).toNatClampNeg, vp_lt (inbN v1_9 24 (by omega) (by omega)), by rw [rA_of (j := 8) hM_60 rfl, RFc_of hM_61]; exact hk_56⟩)
      have hP : va_P D vwCl ([] ++ va_pl L M_66) H_65 := by rw [eM_66]; exact hP
      have hD : va_D A ([] ++ va_pl L M_66) := by rw [eM_66]; exact hD
      have hW : WOK cy K L M_66 := by rw [eM_66]; exact hW.up_61 i_39 ⟨_, rfl, (upN hf64 i_31)⟩
      have hF : fr K0 L0 [2, 61, 62] M0 M_66 := by rw [eM_66]; exact hF.upX hX0 i_39 (by decide)
      have hT2 : fT 2 K0 L0 [9, 15] M0 M_66 := by rw [eM_66]; exact hT2.neX hX0 i_39 (by decide)
      have hM_67 : M_66 v1_7 = .inl (cy 22, 6, .inr (.inr (.inr (.inr (va_up f64 (k2 : Int32).toNatClampNeg (some q_24)))))) := by rw [eM_66]; exact va_up_self _ _ _
      have hM_68 : M_66 oa = (b2_2 v1_0 v1_1 v1_2 v1_3 (nI v1_4) (nI v1_5) v1_6 v1_7 v1_8 (nI (v1_9 + 1)) v1_10 (nI v1_11) v1_12 v1_13 v1_14 v1_15 v1_16 v1_17 v1_18 v1_19) := by rw [eM_66, va_up_ne _ _ (i_35.neT i_39 (by decide))]; exact hM_60
      have hM_69 : M_66 v1_8 = .inl (cy 22, 24, .inr (.inr (.inr (.inr (f_54))))) := by rw [eM_66, va_up_ne _ _ (i_40.neT i_39 (by decide))]; exact hM_61
      have hM_70 : M_66 q_24 = (b9_9 (nI v1_9) k1 k2 k3 1 (-1) 0 0 none 0 0 0 0 0 0 0) := by rw [eM_66, va_up_ne _ _ (i_31.neT i_39 (by decide))]; exact hM_62
      have hf_72 : ∀ j, j < 6 → iskN K L ((va_up f64 (k2 : Int32).toNatClampNeg (some q_24)) j) 9 0 := (upN hf64 i_31)
      obtain ⟨f_71, ef_71⟩ : ∃ f : Nat → Option Nat, f = va_up f64 (k2 : Int32).toNatClampNeg (some q_24) := ⟨_, rfl⟩
      rw [← ef_71] at hM_67 hf_72
      have hk_73 : f_71 (k2 : Int32).toNatClampNeg = some q_24 := by rw [ef_71]; exact va_up_self _ _ _
      refine lv_aload_n hx hb dX2_addTenure_65 rfl (lv_at hl 2 rfl) ?_
      obtain ⟨v74_0, v74_1, v74_2, v74_3, hM74, h74_3⟩ := hW.open_4 i_36
      refine pg_get (D := D) (ci := 4) (v := va_rf v74_3) (C := RX4) (T := TX4) (N := 4) hx hb hg inG4 hown hK hP i_36.1 hM74 rfl 3 (by decide) (hg _ wd_87) (fun _ h9 => h9) rfl dX2_addTenure_66 ?_
      rcases v74_3 with _ | b_75
      · have hz := rfl (a := 0)
        have hcr : cR 4 M0 k1 3 = none := by rw [← cR_eq (hF.at ik100 (by decide))]; exact cR_q (q := none) hM74 rfl
        refine lv_ifnullN (tgt := 90) hx hb dX2_addTenure_69 (by decide) ?_
        refine lv_aload hx hb dX2_addTenure_90 (lv_at hl 0 rfl) ?_
        refine pg_get (D := D) (ci := 9) (v := .int (nI v1_9)) (C := RX9) (T := TX9) (N := 16) hx hb hg inG9 hown hK hP i_31.1 hM_70 rfl 0 (by decide) (hg _ wd_547) (fun _ h9 => h9) rfl dX2_addTenure_92 ?_
        have how : owB M0 (cV 2 M0 oa 15) (cR 4 M0 k1 3) = Xv 18 := by rw [hcr, hv15]; exact hv18
        rw [hr51, hrl, nI_cl (t := v1_9) (by omega), hv9n] at hV
        rw [hQ]
        exact W.iret (v := (nI v1_9)) hx hb hr (fun t ht hW9 => ⟨⟨(nI v1_9), (K, L, M_66), rfl, ⟨hX0, hW, hF, hT2, (congrArg nI (by omega))⟩, ⟨⟨_, (teN M_30 (some q_24)), ⟨hq19, hq20, hq21, hq22, hq23, hq24, hq25, hq26, hq27, hq28, hq29⟩, hV.cg (by rw [show (((Xv 10).toNat + 1 : Nat) : Int) = Xv 10 + 1 by omega, how, show Xv 18 = (va_up (va_up Xv (lKey 3 (Xv 10).toNat) 0) 10 (Xv 10 + 1)) 18 from (lKdn Xv 3 (Xv 10).toNat 18 0 (by decide)).symm]; exact (va_upI (va_up (va_up Xv (lKey 3 (Xv 10).toNat) 0) 10 (Xv 10 + 1)) 18).symm) rfl⟩, ⟨hp2, hp4⟩, (fun j hj => by rw [rA_of (j := 8) hM_68 rfl, RFc_of hM_69, ef_54, hr8]; exact va_up_ne _ _ (by rw [nI_cl (by omega)]; omega)), by rw [ht]; exact hP, hD⟩⟩, hS.F ht⟩) hS.2.2 dX2_addTenure_95
      · have hb_76 := h74_3 b_75 rfl
        have hcr : cR 4 M0 k1 3 = some b_75 := by rw [← cR_eq (hF.at ik100 (by decide))]; exact cR_q (q := (some b_75)) hM74 rfl
        have ib0 : isk K0 L0 b_75 2 0 := KP hW00 ik100 _ hcr
        refine lv_ifnull hx hb dX2_addTenure_69 ?_
        refine lv_aload_n hx hb dX2_addTenure_72 rfl (lv_at hl 1 rfl) ?_
        refine lv_dup hx hb dX2_addTenure_73 rfl ?_
        refine pg_get (D := D) (ci := 2) (v := .int v1_15) (C := RX2) (T := TX2) (N := 20) hx hb hg inG2 hown hK hP i_35.1 hM_68 rfl 15 (by decide) (hg _ wd_61) (fun _ h9 => h9) rfl dX2_addTenure_74 ?_
        refine lv_iconst (v := 1) hx hb dX2_addTenure_77 (by decide) ?_
        refine lv_aload_n hx hb dX2_addTenure_78 rfl (lv_at hl 2 rfl) ?_
        refine pg_get (D := D) (ci := 4) (v := va_rf (some b_75)) (C := RX4) (T := TX4) (N := 4) hx hb hg inG4 hown hK hP i_36.1 hM74 rfl 3 (by decide) (hg _ wd_87) (fun _ h9 => h9) rfl dX2_addTenure_79 ?_
        obtain ⟨v77_0, v77_1, v77_2, v77_3, v77_4, v77_5, v77_6, v77_7, v77_8, v77_9, v77_10, v77_11, v77_12, v77_13, v77_14, v77_15, v77_16, v77_17, v77_18, v77_19, hM77, h77_3, h77_4, h77_5, h77_6, h77_7, h77_8, h77_9, h77_10, h77_11, h77_12, h77_13, h77_16, h77_17, h77_18, h77_19⟩ := hW.open_2 hb_76
        refine pg_get (D := D) (ci := 2) (v := .int v77_0) (C := RX2) (T := TX2) (N := 20) hx hb hg inG2 hown hK hP hb_76.1 hM77 rfl 0 (by decide) (hg _ wd_548) (fun _ h9 => h9) rfl dX2_addTenure_82 ?_
        refine lv_ishl hx hb dX2_addTenure_85 ?_
        refine lv_topi (fun f_78 ef_78 => ?_)
        refine lv_ior hx hb dX2_addTenure_86 ?_
        refine lv_topi (fun f_79 ef_79 => ?_)
        refine pg_put (D := D) (ci := 2) (v := .int f_79) (ty := .int) (C := RX2) (T := TX2) (N := 20) hx hb hg inG2 tyX2 tyX2_ok nmX2 hown hK hP hD hS i_35.1 hM_68 rfl 15 (by decide) (hg _ wd_61) (fun _ h9 => h9) rfl (by decide +kernel) rfl rfl (Nat.le_of_ble_eq_true rfl) dX2_addTenure_87 (fun H_80 locs hP hD hS => ?_)
        obtain ⟨M_81, eM_81⟩ : ∃ M1 : Hp, M1 = va_up M_66 oa ((b2_2 v1_0 v1_1 v1_2 v1_3 (nI v1_4) (nI v1_5) v1_6 v1_7 v1_8 (nI (v1_9 + 1)) v1_10 (nI v1_11) v1_12 v1_13 v1_14 f_79 v1_16 v1_17 v1_18 v1_19)) := ⟨_, rfl⟩
        have sM_81 : M_81 = sF M_66 oa 15 (.int f_79) := eM_81.trans (sF_of (j := 15) (v := .int f_79) hM_68 rfl)
        have hV : VC (va_up Bo q_24 (oa, ((nI v1_9) : Int32).toNatClampNeg)) K L Mb M_81 oa (va_up (va_up (va_up Xv (lKey 3 ((nI v1_9) : Int32).toNatClampNeg) (leN M_30 (some q_24))) 10 (((v1_9 + 1) : Nat) : Int)) 18 (f_79 : Int32).toInt) (va_up (ttY Yv ((nI v1_9) : Int32).toNatClampNeg (teN M_30 (some q_24))) 51 (upd (Yv 51) (k2 : Int32).toNatClampNeg (hrN M_59 (some q_24)))) := by rw [sM_81]; have h9 := VC.f15 (v := f_79) hV hW i_35 hM_68 (Nat.le_of_ble_eq_true rfl); rw [show (f_79 : Int32).toInt = (f_79 : Int32).toInt from rfl] at h9; exact h9
        have hP : va_P D vwCl ([] ++ va_pl L M_81) H_80 := by rw [eM_81]; exact hP
        have hD : va_D A ([] ++ va_pl L M_81) := by rw [eM_81]; exact hD
        have hW : WOK cy K L M_81 := by rw [eM_81]; exact hW.up_2 i_35 ⟨v1_0, v1_1, v1_2, v1_3, v1_4, v1_5, v1_6, v1_7, v1_8, (v1_9 + 1), v1_10, v1_11, v1_12, v1_13, v1_14, f_79, v1_16, v1_17, v1_18, v1_19, rfl, i_37, h1_4, h1_5, i_38, i_39, i_40, hb_63, i_41, h1_11, i_42, i_43, i_44, i_45, i_46, i_47⟩
        have hF : fr K0 L0 [2, 61, 62] M0 M_81 := by rw [eM_81]; exact hF.upX hX0 i_35 (by decide)
        have hT2 : fT 2 K0 L0 [9, 15] M0 M_81 := by rw [eM_81]; exact hT2.up (i := 15) hM_68 rfl (by decide)
        have hM_82 : M_81 oa = (b2_2 v1_0 v1_1 v1_2 v1_3 (nI v1_4) (nI v1_5) v1_6 v1_7 v1_8 (nI (v1_9 + 1)) v1_10 (nI v1_11) v1_12 v1_13 v1_14 f_79 v1_16 v1_17 v1_18 v1_19) := by rw [eM_81]; exact va_up_self _ _ _
        have hM_83 : M_81 v1_7 = .inl (cy 22, 6, .inr (.inr (.inr (.inr (f_71))))) := by rw [eM_81, va_up_ne _ _ (i_39.neT i_35 (by decide))]; exact hM_67
        have hM_84 : M_81 v1_8 = .inl (cy 22, 24, .inr (.inr (.inr (.inr (f_54))))) := by rw [eM_81, va_up_ne _ _ (i_40.neT i_35 (by decide))]; exact hM_69
        have hM_85 : M_81 q_24 = (b9_9 (nI v1_9) k1 k2 k3 1 (-1) 0 0 none 0 0 0 0 0 0 0) := by rw [eM_81, va_up_ne _ _ (i_31.neT i_35 (by decide))]; exact hM_70
        have hM_86 : M_81 k1 = .inr (4, [.int v74_0, .int v74_1, .int v74_2, va_rf (some b_75)]) := by rw [eM_81, va_up_ne _ _ (i_36.neT i_35 (by decide))]; exact hM74
        obtain ⟨x_87, hM_88⟩ : ∃ x : Int32, M_81 b_75 = (b2_2 v77_0 v77_1 v77_2 v77_3 (nI v77_4) (nI v77_5) v77_6 v77_7 v77_8 (nI v77_9) v77_10 (nI v77_11) v77_12 v77_13 v77_14 x v77_16 v77_17 v77_18 v77_19) := by
          rw [eM_81]
          rcases up_same (v := .int f_79) (j := 15) hM_68 hM77 with h | h
          · exact ⟨f_79, h⟩
          · exact ⟨v77_15, h⟩
        refine lv_aload hx hb dX2_addTenure_90 (lv_at hl 0 rfl) ?_
        refine pg_get (D := D) (ci := 9) (v := .int (nI v1_9)) (C := RX9) (T := TX9) (N := 16) hx hb hg inG9 hown hK hP i_31.1 hM_85 rfl 0 (by decide) (hg _ wd_547) (fun _ h9 => h9) rfl dX2_addTenure_92 ?_
        have hc0 : cV 2 M0 b_75 0 = v77_0 := (cV_c (fT.cv1 (W2 hW00) hT2 ib0 (by decide))).symm.trans (cV_of (j := 0) hM_88 rfl)
        have how : (f_79 : Int32).toInt = owB M0 (cV 2 M0 oa 15) (cR 4 M0 k1 3) := by rw [hcr]; show _ = (cV 2 M0 oa 15 ||| ((1 : Int32) <<< (cV 2 M0 b_75 0 &&& 31))).toInt; rw [hc0, hv15, ← ef_78, ← ef_79]
        rw [hr51, hrl, nI_cl (t := v1_9) (by omega), hv9n, how] at hV
        rw [hQ]
        exact W.iret (v := (nI v1_9)) hx hb hr (fun t ht hW9 => ⟨⟨(nI v1_9), (K, L, M_81), rfl, ⟨hX0, hW, hF, hT2, (congrArg nI (by omega))⟩, ⟨⟨_, (teN M_30 (some q_24)), ⟨hq19, hq20, hq21, hq22, hq23, hq24, hq25, hq26, hq27, hq28, hq29⟩, hV.cg (by rw [show (((Xv 10).toNat + 1 : Nat) : Int) = Xv 10 + 1 by omega]) rfl⟩, ⟨hp2, hp4⟩, (fun j hj => by rw [rA_of (j := 8) hM_82 rfl, RFc_of hM_84, ef_54, hr8]; exact va_up_ne _ _ (by rw [nI_cl (by omega)]; omega)), by rw [ht]; exact hP, hD⟩⟩, hS.F ht⟩) hS.2.2 dX2_addTenure_95
    · have hz := rfl (a := 0)
      refine lv_if_ne (tgt := 18) hx hb dX2_addTenure_13 (by decide) (fun c_89 => absurd c_89 (by decide)) (fun _ => ?_)
      refine lv_iconst (v := (-1)) hx hb dX2_addTenure_16 (by decide) ?_
      refine W.widen (k := 1) (n := 16) (Nat.le_of_ble_eq_true rfl) (Nat.le_of_ble_eq_true rfl) ?_
      have hI_90 : ((v1_9 : Nat) : Int) < (24 : Int) := inleI rfl (nI_toInt (by omega)) c_3
      have hA_91 : (cV 2 M oa 0).toInt = (v1_0 : Int32).toInt := by rw [cV_of hM1 rfl]
      have hA_92 : (cV 2 M oa 1).toInt = (v1_1 : Int32).toInt := by rw [cV_of hM1 rfl]
      have hA_93 : (cV 2 M oa 2).toInt = (v1_2 : Int32).toInt := by rw [cV_of hM1 rfl]
      have hA_94 : (cV 2 M oa 4).toInt = ((v1_4 : Nat) : Int) := by rw [cV_of hM1 rfl]; exact nI_toInt (by omega)
      have hA_95 : (cV 2 M oa 5).toInt = ((v1_5 : Nat) : Int) := by rw [cV_of hM1 rfl]; exact nI_toInt (by omega)
      have hA_96 : (cV 2 M oa 9).toInt = ((v1_9 : Nat) : Int) := by rw [cV_of hM1 rfl]; exact nI_toInt (by omega)
      have hA_97 : (cV 2 M oa 11).toInt = ((v1_11 : Nat) : Int) := by rw [cV_of hM1 rfl]; exact nI_toInt (by omega)
      have hA_98 : (cV 2 M oa 15).toInt = (v1_15 : Int32).toInt := by rw [cV_of hM1 rfl]
      rw [hQ]
      exact W.iret (v := (-1)) hx hb hr (fun t ht hW9 => ⟨⟨(-1), (K, L, M), rfl, ⟨hX0, hW, hF, hT2, (by exfalso; omega)⟩, ⟨(by exfalso; omega), (by exfalso; omega), (by exfalso; omega), by rw [ht]; exact hP, hD⟩⟩, hS.F ht⟩) hS.2.2 dX2_addTenure_17
