/-- whose house a partner's is; -1 -/
def ownP (PK PT : Nat → Int32) (p : Int32) : Int32 := if PK p.toNatClampNeg = 5 then PT p.toNatClampNeg else -1
/-- what the reference keeps of a seat, from letter and held tenure -/
def seatOf (l h : Int32) : Int := if l ≠ 0 then - l.toInt else h.toInt + 1
/-- what else of the tenures: word, kind of the partner; no instalments ahead of an end -/
def EXT (PK : Nat → Int32) (x : Nat → Int) (y : Nat → Nat → Int32) (X : Nat → Int) (Y : Nat → Nat → Int32) : Prop := (∀ i : Nat, (i : Int) < X 10 → y 26 i = Y 26 i ∧ y 29 i = PK (Y 19 i).toNatClampNeg) ∧ (∀ i : Nat, (i : Int) < X 10 → Y 22 i = -1 → Y 23 i = 0) ∧ (∀ i : Nat, (i : Int) < X 10 → x (lKey 3 i) = X (lKey 3 i)) ∧ (∀ i : Nat, i < 24 → X 10 ≤ (i : Int) → X (lKey 3 i) = 0) ∧ (∀ i : Nat, (i : Int) < X 10 → 0 ≤ X (lKey 3 i) ∧ X (lKey 3 i) ≤ 1000000000) ∧ (∀ d : Nat, d < 1000 → ∀ k : Nat, (k : Int) < (Y 3 d).toInt → (y 60 (1000 * k + d)).toInt = X (lKey 10 (6 * d + k)))
theorem EXT.tw {PK : Nat → Int32} {x : Nat → Int} {y : Nat → Nat → Int32} {X : Nat → Int} {Y : Nat → Nat → Int32} (h : EXT PK x y X Y) : ∀ i : Nat, (i : Int) < X 10 → y 26 i = Y 26 i ∧ y 29 i = PK (Y 19 i).toNatClampNeg := h.1
theorem EXT.iz {PK : Nat → Int32} {x : Nat → Int} {y : Nat → Nat → Int32} {X : Nat → Int} {Y : Nat → Nat → Int32} (h : EXT PK x y X Y) : ∀ i : Nat, (i : Int) < X 10 → Y 22 i = -1 → Y 23 i = 0 := h.2.1
theorem EXT.lo {PK : Nat → Int32} {x : Nat → Int} {y : Nat → Nat → Int32} {X : Nat → Int} {Y : Nat → Nat → Int32} (h : EXT PK x y X Y) : ∀ i : Nat, (i : Int) < X 10 → x (lKey 3 i) = X (lKey 3 i) := h.2.2.1
theorem EXT.lz {PK : Nat → Int32} {x : Nat → Int} {y : Nat → Nat → Int32} {X : Nat → Int} {Y : Nat → Nat → Int32} (h : EXT PK x y X Y) : ∀ i : Nat, i < 24 → X 10 ≤ (i : Int) → X (lKey 3 i) = 0 := h.2.2.2.1
theorem EXT.lb {PK : Nat → Int32} {x : Nat → Int} {y : Nat → Nat → Int32} {X : Nat → Int} {Y : Nat → Nat → Int32} (h : EXT PK x y X Y) : ∀ i : Nat, (i : Int) < X 10 → 0 ≤ X (lKey 3 i) ∧ X (lKey 3 i) ≤ 1000000000 := h.2.2.2.2.1
theorem EXT.et {PK : Nat → Int32} {x : Nat → Int} {y : Nat → Nat → Int32} {X : Nat → Int} {Y : Nat → Nat → Int32} (h : EXT PK x y X Y) : ∀ d : Nat, d < 1000 → ∀ k : Nat, (k : Int) < (Y 3 d).toInt → (y 60 (1000 * k + d)).toInt = X (lKey 10 (6 * d + k)) := h.2.2.2.2.2
/-- a House of the class (x, y) is as one of the reference (X, Y); k: its number; T: at most so many calls -/
def SIM (k : Nat) (T : Int) (np : Nat) (PK PT : Nat → Int32) (x : Nat → Int) (y : Nat → Nat → Int32) (X : Nat → Int) (Y : Nat → Nat → Int32) : Prop := (x 0 = X 0) ∧ (x 1 = X 1) ∧ (x 10 = X 10) ∧ (x 11 = X 11) ∧ (x 12 = X 12) ∧ (x 13 = X 13) ∧ (x 14 = X 14) ∧ (x 15 = X 15) ∧ (x 16 = X 16) ∧ (x 20 = (k : Int)) ∧ (∀ d : Nat, d < 1000 → y 2 d = Y 2 d ∧ y 3 d = Y 3 d ∧ (Y 2 d ≠ -1 → y 4 d = Y 4 d)) ∧ (∀ i : Nat, (i : Int) < X 10 → y 19 i = Y 19 i ∧ y 20 i = Y 20 i ∧ y 21 i = Y 21 i ∧ y 22 i = Y 22 i ∧ y 23 i = Y 23 i ∧ y 24 i = Y 24 i ∧ y 25 i = Y 25 i ∧ y 27 i = ownP PK PT (Y 19 i)) ∧ (∀ i : Nat, i < 24 → (y 28 i = 1 ↔ (i : Int) < X 10)) ∧ (∀ s : Nat, s < 6 → (Y 9 s).toInt = seatOf (y 50 s) (y 51 s) ∧ 0 ≤ (y 50 s).toInt ∧ (y 50 s).toInt ≤ 1000000 ∧ -1 ≤ (y 51 s).toInt ∧ (y 51 s).toInt < X 10 ∧ (y 50 s ≠ 0 → y 51 s = -1)) ∧ (∀ i : Nat, (i : Int) < X 11 → y 33 i = 1 ∧ y 34 i = Y 34 i ∧ y 35 i = Y 35 i ∧ ∀ m : Nat, m < 24 → y 36 (24 * i + m) = Y 36 (24 * i + m)) ∧ (∀ i : Nat, (i : Int) < X 12 → y 37 i = Y 37 i) ∧ (∀ i : Nat, (i : Int) < X 14 → y 38 i = Y 38 i ∧ y 39 i = Y 39 i ∧ y 40 i = Y 40 i ∧ 0 ≤ (y 38 i).toInt ∧ X 1 < (y 39 i).toInt) ∧ (∀ i : Nat, (i : Int) < X 15 → y 41 i = Y 41 i ∧ y 42 i = Y 42 i) ∧ (x 16 ≤ x 19 ∧ x 19 ≤ T ∧ ∀ i : Nat, (i : Int) < X 16 → y 43 (((x 19 - x 16).toNat + i) % 60) = Y 43 i) ∧ (∀ o : Nat, o < 8 → (((x 18) / 2 ^ o) % 2 = 1 ↔ ∃ i : Nat, (i : Int) < X 10 ∧ (ownP PK PT (Y 19 i)).toInt = (o : Int))) ∧ (0 ≤ x 18 ∧ x 18 < 256) ∧ (∀ i : Nat, (i : Int) < X 10 → 0 ≤ (Y 19 i).toInt ∧ (Y 19 i).toInt < (np : Int)) ∧ (EXT PK x y X Y)
theorem SIM.x0 {k : Nat} {T : Int} {np : Nat} {PK PT : Nat → Int32} {x : Nat → Int} {y : Nat → Nat → Int32} {X : Nat → Int} {Y : Nat → Nat → Int32} (h : SIM k T np PK PT x y X Y) : x 0 = X 0 := h.1
theorem SIM.x1 {k : Nat} {T : Int} {np : Nat} {PK PT : Nat → Int32} {x : Nat → Int} {y : Nat → Nat → Int32} {X : Nat → Int} {Y : Nat → Nat → Int32} (h : SIM k T np PK PT x y X Y) : x 1 = X 1 := h.2.1
theorem SIM.x10 {k : Nat} {T : Int} {np : Nat} {PK PT : Nat → Int32} {x : Nat → Int} {y : Nat → Nat → Int32} {X : Nat → Int} {Y : Nat → Nat → Int32} (h : SIM k T np PK PT x y X Y) : x 10 = X 10 := h.2.2.1
theorem SIM.x11 {k : Nat} {T : Int} {np : Nat} {PK PT : Nat → Int32} {x : Nat → Int} {y : Nat → Nat → Int32} {X : Nat → Int} {Y : Nat → Nat → Int32} (h : SIM k T np PK PT x y X Y) : x 11 = X 11 := h.2.2.2.1
theorem SIM.x12 {k : Nat} {T : Int} {np : Nat} {PK PT : Nat → Int32} {x : Nat → Int} {y : Nat → Nat → Int32} {X : Nat → Int} {Y : Nat → Nat → Int32} (h : SIM k T np PK PT x y X Y) : x 12 = X 12 := h.2.2.2.2.1
theorem SIM.x13 {k : Nat} {T : Int} {np : Nat} {PK PT : Nat → Int32} {x : Nat → Int} {y : Nat → Nat → Int32} {X : Nat → Int} {Y : Nat → Nat → Int32} (h : SIM k T np PK PT x y X Y) : x 13 = X 13 := h.2.2.2.2.2.1
theorem SIM.x14 {k : Nat} {T : Int} {np : Nat} {PK PT : Nat → Int32} {x : Nat → Int} {y : Nat → Nat → Int32} {X : Nat → Int} {Y : Nat → Nat → Int32} (h : SIM k T np PK PT x y X Y) : x 14 = X 14 := h.2.2.2.2.2.2.1
theorem SIM.x15 {k : Nat} {T : Int} {np : Nat} {PK PT : Nat → Int32} {x : Nat → Int} {y : Nat → Nat → Int32} {X : Nat → Int} {Y : Nat → Nat → Int32} (h : SIM k T np PK PT x y X Y) : x 15 = X 15 := h.2.2.2.2.2.2.2.1
theorem SIM.x16 {k : Nat} {T : Int} {np : Nat} {PK PT : Nat → Int32} {x : Nat → Int} {y : Nat → Nat → Int32} {X : Nat → Int} {Y : Nat → Nat → Int32} (h : SIM k T np PK PT x y X Y) : x 16 = X 16 := h.2.2.2.2.2.2.2.2.1
theorem SIM.x20 {k : Nat} {T : Int} {np : Nat} {PK PT : Nat → Int32} {x : Nat → Int} {y : Nat → Nat → Int32} {X : Nat → Int} {Y : Nat → Nat → Int32} (h : SIM k T np PK PT x y X Y) : x 20 = (k : Int) := h.2.2.2.2.2.2.2.2.2.1
theorem SIM.pl {k : Nat} {T : Int} {np : Nat} {PK PT : Nat → Int32} {x : Nat → Int} {y : Nat → Nat → Int32} {X : Nat → Int} {Y : Nat → Nat → Int32} (h : SIM k T np PK PT x y X Y) : ∀ d : Nat, d < 1000 → y 2 d = Y 2 d ∧ y 3 d = Y 3 d ∧ (Y 2 d ≠ -1 → y 4 d = Y 4 d) := h.2.2.2.2.2.2.2.2.2.2.1
theorem SIM.te {k : Nat} {T : Int} {np : Nat} {PK PT : Nat → Int32} {x : Nat → Int} {y : Nat → Nat → Int32} {X : Nat → Int} {Y : Nat → Nat → Int32} (h : SIM k T np PK PT x y X Y) : ∀ i : Nat, (i : Int) < X 10 → y 19 i = Y 19 i ∧ y 20 i = Y 20 i ∧ y 21 i = Y 21 i ∧ y 22 i = Y 22 i ∧ y 23 i = Y 23 i ∧ y 24 i = Y 24 i ∧ y 25 i = Y 25 i ∧ y 27 i = ownP PK PT (Y 19 i) := h.2.2.2.2.2.2.2.2.2.2.2.1
theorem SIM.tn {k : Nat} {T : Int} {np : Nat} {PK PT : Nat → Int32} {x : Nat → Int} {y : Nat → Nat → Int32} {X : Nat → Int} {Y : Nat → Nat → Int32} (h : SIM k T np PK PT x y X Y) : ∀ i : Nat, i < 24 → (y 28 i = 1 ↔ (i : Int) < X 10) := h.2.2.2.2.2.2.2.2.2.2.2.2.1
theorem SIM.se {k : Nat} {T : Int} {np : Nat} {PK PT : Nat → Int32} {x : Nat → Int} {y : Nat → Nat → Int32} {X : Nat → Int} {Y : Nat → Nat → Int32} (h : SIM k T np PK PT x y X Y) : ∀ s : Nat, s < 6 → (Y 9 s).toInt = seatOf (y 50 s) (y 51 s) ∧ 0 ≤ (y 50 s).toInt ∧ (y 50 s).toInt ≤ 1000000 ∧ -1 ≤ (y 51 s).toInt ∧ (y 51 s).toInt < X 10 ∧ (y 50 s ≠ 0 → y 51 s = -1) := h.2.2.2.2.2.2.2.2.2.2.2.2.2.1
theorem SIM.ru {k : Nat} {T : Int} {np : Nat} {PK PT : Nat → Int32} {x : Nat → Int} {y : Nat → Nat → Int32} {X : Nat → Int} {Y : Nat → Nat → Int32} (h : SIM k T np PK PT x y X Y) : ∀ i : Nat, (i : Int) < X 11 → y 33 i = 1 ∧ y 34 i = Y 34 i ∧ y 35 i = Y 35 i ∧ ∀ m : Nat, m < 24 → y 36 (24 * i + m) = Y 36 (24 * i + m) := h.2.2.2.2.2.2.2.2.2.2.2.2.2.2.1
theorem SIM.en {k : Nat} {T : Int} {np : Nat} {PK PT : Nat → Int32} {x : Nat → Int} {y : Nat → Nat → Int32} {X : Nat → Int} {Y : Nat → Nat → Int32} (h : SIM k T np PK PT x y X Y) : ∀ i : Nat, (i : Int) < X 12 → y 37 i = Y 37 i := h.2.2.2.2.2.2.2.2.2.2.2.2.2.2.2.1
theorem SIM.mo {k : Nat} {T : Int} {np : Nat} {PK PT : Nat → Int32} {x : Nat → Int} {y : Nat → Nat → Int32} {X : Nat → Int} {Y : Nat → Nat → Int32} (h : SIM k T np PK PT x y X Y) : ∀ i : Nat, (i : Int) < X 14 → y 38 i = Y 38 i ∧ y 39 i = Y 39 i ∧ y 40 i = Y 40 i ∧ 0 ≤ (y 38 i).toInt ∧ X 1 < (y 39 i).toInt := h.2.2.2.2.2.2.2.2.2.2.2.2.2.2.2.2.1
theorem SIM.me {k : Nat} {T : Int} {np : Nat} {PK PT : Nat → Int32} {x : Nat → Int} {y : Nat → Nat → Int32} {X : Nat → Int} {Y : Nat → Nat → Int32} (h : SIM k T np PK PT x y X Y) : ∀ i : Nat, (i : Int) < X 15 → y 41 i = Y 41 i ∧ y 42 i = Y 42 i := h.2.2.2.2.2.2.2.2.2.2.2.2.2.2.2.2.2.1
theorem SIM.un {k : Nat} {T : Int} {np : Nat} {PK PT : Nat → Int32} {x : Nat → Int} {y : Nat → Nat → Int32} {X : Nat → Int} {Y : Nat → Nat → Int32} (h : SIM k T np PK PT x y X Y) : x 16 ≤ x 19 ∧ x 19 ≤ T ∧ ∀ i : Nat, (i : Int) < X 16 → y 43 (((x 19 - x 16).toNat + i) % 60) = Y 43 i := h.2.2.2.2.2.2.2.2.2.2.2.2.2.2.2.2.2.2.1
theorem SIM.ow {k : Nat} {T : Int} {np : Nat} {PK PT : Nat → Int32} {x : Nat → Int} {y : Nat → Nat → Int32} {X : Nat → Int} {Y : Nat → Nat → Int32} (h : SIM k T np PK PT x y X Y) : ∀ o : Nat, o < 8 → (((x 18) / 2 ^ o) % 2 = 1 ↔ ∃ i : Nat, (i : Int) < X 10 ∧ (ownP PK PT (Y 19 i)).toInt = (o : Int)) := h.2.2.2.2.2.2.2.2.2.2.2.2.2.2.2.2.2.2.2.1
theorem SIM.ob {k : Nat} {T : Int} {np : Nat} {PK PT : Nat → Int32} {x : Nat → Int} {y : Nat → Nat → Int32} {X : Nat → Int} {Y : Nat → Nat → Int32} (h : SIM k T np PK PT x y X Y) : 0 ≤ x 18 ∧ x 18 < 256 := h.2.2.2.2.2.2.2.2.2.2.2.2.2.2.2.2.2.2.2.2.1
theorem SIM.wh {k : Nat} {T : Int} {np : Nat} {PK PT : Nat → Int32} {x : Nat → Int} {y : Nat → Nat → Int32} {X : Nat → Int} {Y : Nat → Nat → Int32} (h : SIM k T np PK PT x y X Y) : ∀ i : Nat, (i : Int) < X 10 → 0 ≤ (Y 19 i).toInt ∧ (Y 19 i).toInt < (np : Int) := h.2.2.2.2.2.2.2.2.2.2.2.2.2.2.2.2.2.2.2.2.2.1
theorem SIM.ex {k : Nat} {T : Int} {np : Nat} {PK PT : Nat → Int32} {x : Nat → Int} {y : Nat → Nat → Int32} {X : Nat → Int} {Y : Nat → Nat → Int32} (h : SIM k T np PK PT x y X Y) : EXT PK x y X Y := h.2.2.2.2.2.2.2.2.2.2.2.2.2.2.2.2.2.2.2.2.2.2
/-- how large what the reference keeps may be -/
def SV (X : Nat → Int) (Y : Nat → Nat → Int32) : Prop := (0 ≤ X 0 ∧ X 0 ≤ 999) ∧ (-1 ≤ X 1 ∧ X 1 ≤ 999) ∧ (0 ≤ X 10 ∧ X 10 ≤ 24) ∧ (0 ≤ X 11 ∧ X 11 ≤ 16) ∧ (0 ≤ X 12 ∧ X 12 ≤ 12) ∧ (0 ≤ X 13 ∧ X 13 ≤ 12) ∧ (0 ≤ X 14 ∧ X 14 ≤ 120) ∧ (0 ≤ X 15 ∧ X 15 ≤ 20) ∧ (0 ≤ X 16 ∧ X 16 ≤ 60) ∧ (∀ d : Nat, d < 1000 → Y 2 d = -1 ∨ (0 ≤ (Y 2 d).toInt ∧ (Y 2 d).toInt < 7)) ∧ (∀ d : Nat, d < 1000 → 0 ≤ (Y 3 d).toInt ∧ (Y 3 d).toInt < 7) ∧ (∀ i : Nat, i < 12 → 0 ≤ (Y 37 i).toInt ∧ (Y 37 i).toInt < 1000) ∧ (∀ i : Nat, i < 60 → Y 43 i = -1 ∨ (0 ≤ (Y 43 i).toInt ∧ (Y 43 i).toInt < 1000))
theorem SV.b0 {X : Nat → Int} {Y : Nat → Nat → Int32} (h : SV X Y) : 0 ≤ X 0 ∧ X 0 ≤ 999 := h.1
theorem SV.b1 {X : Nat → Int} {Y : Nat → Nat → Int32} (h : SV X Y) : -1 ≤ X 1 ∧ X 1 ≤ 999 := h.2.1
theorem SV.b10 {X : Nat → Int} {Y : Nat → Nat → Int32} (h : SV X Y) : 0 ≤ X 10 ∧ X 10 ≤ 24 := h.2.2.1
theorem SV.b11 {X : Nat → Int} {Y : Nat → Nat → Int32} (h : SV X Y) : 0 ≤ X 11 ∧ X 11 ≤ 16 := h.2.2.2.1
theorem SV.b12 {X : Nat → Int} {Y : Nat → Nat → Int32} (h : SV X Y) : 0 ≤ X 12 ∧ X 12 ≤ 12 := h.2.2.2.2.1
theorem SV.b13 {X : Nat → Int} {Y : Nat → Nat → Int32} (h : SV X Y) : 0 ≤ X 13 ∧ X 13 ≤ 12 := h.2.2.2.2.2.1
theorem SV.b14 {X : Nat → Int} {Y : Nat → Nat → Int32} (h : SV X Y) : 0 ≤ X 14 ∧ X 14 ≤ 120 := h.2.2.2.2.2.2.1
theorem SV.b15 {X : Nat → Int} {Y : Nat → Nat → Int32} (h : SV X Y) : 0 ≤ X 15 ∧ X 15 ≤ 20 := h.2.2.2.2.2.2.2.1
theorem SV.b16 {X : Nat → Int} {Y : Nat → Nat → Int32} (h : SV X Y) : 0 ≤ X 16 ∧ X 16 ≤ 60 := h.2.2.2.2.2.2.2.2.1
theorem SV.r2 {X : Nat → Int} {Y : Nat → Nat → Int32} (h : SV X Y) : ∀ d : Nat, d < 1000 → Y 2 d = -1 ∨ (0 ≤ (Y 2 d).toInt ∧ (Y 2 d).toInt < 7) := h.2.2.2.2.2.2.2.2.2.1
theorem SV.r3 {X : Nat → Int} {Y : Nat → Nat → Int32} (h : SV X Y) : ∀ d : Nat, d < 1000 → 0 ≤ (Y 3 d).toInt ∧ (Y 3 d).toInt < 7 := h.2.2.2.2.2.2.2.2.2.2.1
theorem SV.r37 {X : Nat → Int} {Y : Nat → Nat → Int32} (h : SV X Y) : ∀ i : Nat, i < 12 → 0 ≤ (Y 37 i).toInt ∧ (Y 37 i).toInt < 1000 := h.2.2.2.2.2.2.2.2.2.2.2.1
theorem SV.r43 {X : Nat → Int} {Y : Nat → Nat → Int32} (h : SV X Y) : ∀ i : Nat, i < 60 → Y 43 i = -1 ∨ (0 ≤ (Y 43 i).toInt ∧ (Y 43 i).toInt < 1000) := h.2.2.2.2.2.2.2.2.2.2.2.2
/-- the class's houses and the reference's: n of them; S: SX, SY -/
def CX (B : Nat → Nat × Nat) (K : Kp) (L : List Nat) (x0 n : Nat) (T : Int) (np : Nat) (PK PT : Nat → Int32) (SX : Nat → Nat → Int) (SY : Nat → Nat → Nat → Int32) (M : Hp) : Prop := (∀ k, k < n → ∃ a, RFc (M x0) k = some a ∧ SIM k T np PK PT (cfx M a) (cax M a) (SX k) (SY k)) ∧ (OC B K L M) ∧ (∀ q, isk K L q 4 0 → ∀ h, cR 4 M q 3 = some h → ∃ j, j < n ∧ RFc (M x0) j = some h)
theorem CX.hs {B : Nat → Nat × Nat} {K : Kp} {L : List Nat} {x0 n : Nat} {T : Int} {np : Nat} {PK PT : Nat → Int32} {SX : Nat → Nat → Int} {SY : Nat → Nat → Nat → Int32} {M : Hp} (h : CX B K L x0 n T np PK PT SX SY M) : ∀ k, k < n → ∃ a, RFc (M x0) k = some a ∧ SIM k T np PK PT (cfx M a) (cax M a) (SX k) (SY k) := h.1
theorem CX.oc {B : Nat → Nat × Nat} {K : Kp} {L : List Nat} {x0 n : Nat} {T : Int} {np : Nat} {PK PT : Nat → Int32} {SX : Nat → Nat → Int} {SY : Nat → Nat → Nat → Int32} {M : Hp} (h : CX B K L x0 n T np PK PT SX SY M) : OC B K L M := h.2.1
theorem CX.ph {B : Nat → Nat × Nat} {K : Kp} {L : List Nat} {x0 n : Nat} {T : Int} {np : Nat} {PK PT : Nat → Int32} {SX : Nat → Nat → Int} {SY : Nat → Nat → Nat → Int32} {M : Hp} (h : CX B K L x0 n T np PK PT SX SY M) : ∀ q, isk K L q 4 0 → ∀ h, cR 4 M q 3 = some h → ∃ j, j < n ∧ RFc (M x0) j = some h := h.2.2
theorem CX.at {B : Nat → Nat × Nat} {K : Kp} {L : List Nat} {x0 n k a : Nat} {T : Int} {np : Nat} {PK PT : Nat → Int32} {SX : Nat → Nat → Int} {SY : Nat → Nat → Nat → Int32} {M : Hp} (h : CX B K L x0 n T np PK PT SX SY M) (hk : k < n) (ha : RFc (M x0) k = some a) : SIM k T np PK PT (cfx M a) (cax M a) (SX k) (SY k) := by
  obtain ⟨b, e, g⟩ := h.hs k hk
  have : b = a := Option.some.inj (e.symm.trans ha)
  rw [← this]
  exact g
theorem SIM.mono {k : Nat} {T T' : Int} {np : Nat} {PK PT : Nat → Int32} {x : Nat → Int} {y : Nat → Nat → Int32} {X : Nat → Int} {Y : Nat → Nat → Int32} (h : SIM k T np PK PT x y X Y) (ht : T ≤ T') : SIM k T' np PK PT x y X Y := ⟨h.x0, h.x1, h.x10, h.x11, h.x12, h.x13, h.x14, h.x15, h.x16, h.x20, h.pl, h.te, h.tn, h.se, h.ru, h.en, h.mo, h.me, ⟨h.un.1, Int.le_trans h.un.2.1 ht, h.un.2.2⟩, h.ow, h.ob, h.wh, h.ex⟩
theorem i17 {cy : Nat → ClassId} {K : Kp} {L : List Nat} {M : Hp} {x0 k a : Nat} (hW : WOK cy K L M) (hz : isk K L x0 17 8) (hk : k < 8) (h : RFc (M x0) k = some a) : isk K L a 2 0 := by
  obtain ⟨f, h1, h2⟩ := hW.open_17 hz
  rw [RFc_of h1] at h
  exact h2 k hk a h
/-- a House behind a call: S at k anew -/
theorem CX.fin {cy : Nat → ClassId} {B B' : Nat → Nat × Nat} {K K' : Kp} {L L' : List Nat} {x0 n k a : Nat} {T : Int} {np : Nat} {PK PT : Nat → Int32} {SX : Nat → Nat → Int} {SY : Nat → Nat → Nat → Int32} {M M1 : Hp} {x X : Nat → Int} {y Y : Nat → Nat → Int32} (h : CX B K L x0 n T np PK PT SX SY M) (hW : WOK cy K L M) (i0 : isk K L x0 17 8) (hn : n ≤ 8) (hk : k < n) (ha : RFc (M x0) k = some a) (hV : VC B' K' L' M M1 a x y) (hx : ext K L K' L') (hq : RFc (M1 x0) = RFc (M x0)) (hp : ∀ q, isk K' L' q 4 0 → isk K L q 4 0 ∧ cR 4 M1 q 3 = cR 4 M q 3) (hS : SIM k (T + 1) np PK PT x y X Y) : CX B' K' L' x0 n (T + 1) np PK PT (va_up SX k X) (va_up SY k Y) M1 := by
  refine ⟨fun j hj => ?_, hV.2.2.2, fun q iq b hb => ?_⟩
  · obtain ⟨b, e, g⟩ := h.hs j hj
    refine ⟨b, by rw [hq]; exact e, ?_⟩
    by_cases z : j = k
    · subst z
      have eb : b = a := Option.some.inj (e.symm.trans ha)
      rw [va_up_self, va_up_self, eb, hV.2.1, hV.2.2.1]
      exact hS
    · have hb : b ≠ a := fun w => by
        have g2 := h.at hk ha
        rw [w] at g
        have e1 := g.x20
        rw [g2.x20] at e1
        omega
      have hv := hV.1 b ((i17 hW i0 (by omega) e).ext hx) hb
      rw [va_up_ne _ _ z, va_up_ne _ _ z, hv.1, hv.2]
      exact g.mono (by omega)
  · obtain ⟨iq0, e⟩ := hp q iq
    rw [e] at hb
    rw [hq]
    exact h.ph q iq0 b hb
/-- nothing of it has changed -/
theorem CX.same {cy : Nat → ClassId} {B : Nat → Nat × Nat} {K : Kp} {L : List Nat} {x0 n : Nat} {T : Int} {np : Nat} {PK PT : Nat → Int32} {SX : Nat → Nat → Int} {SY : Nat → Nat → Nat → Int32} {M M1 : Hp} (h : CX B K L x0 n T np PK PT SX SY M) (hW : WOK cy K L M) (i0 : isk K L x0 17 8) (hn : n ≤ 8) (hS : SAME K L M M1) (hq : RFc (M1 x0) = RFc (M x0)) : CX B K L x0 n (T + 1) np PK PT SX SY M1 := by
  refine ⟨fun j hj => ?_, SAME.oc hW hS h.oc, fun q iq b hb => ?_⟩
  · obtain ⟨b, e, g⟩ := h.hs j hj
    have ib := i17 hW i0 (by omega) e
    have hv := seenB hW hS b ib (h.oc.n16 b ib)
    refine ⟨b, by rw [hq]; exact e, ?_⟩
    rw [hv.1, hv.2]
    exact g.mono (by omega)
  · rw [cR_c (hS.2.2.2.2.2.2.1 q iq 3 rfl)] at hb
    rw [hq]
    exact h.ph q iq b hb

theorem SIM.note {k : Nat} {T : Int} {np : Nat} {PK PT : Nat → Int32} {x : Nat → Int} {y : Nat → Nat → Int32} {X : Nat → Int} {Y : Nat → Nat → Int32} {w : Int32} {n' : Int} {l' : Nat → Int32} (h : SIM k T np PK PT x y X Y) (hb : 0 ≤ X 16 ∧ X 16 ≤ 60) (r : REMF (X 16) (Y 43) w n' l') : SIM k (T + 1) np PK PT (va_up (va_up x 19 (x 19 + 1)) 16 (min 60 (x 16 + 1))) (va_up y 43 (upd (y 43) ((x 19).toNat % 60) w)) (va_up X 16 n') (va_up Y 43 l') := by
  have e16 := h.x16
  have u := h.un
  refine ⟨h.x0, h.x1, h.x10, h.x11, h.x12, h.x13, h.x14, h.x15, ?_, h.x20, h.pl, h.te, h.tn, h.se, h.ru, h.en, h.mo, h.me, ?_, h.ow, h.ob, h.wh, h.ex⟩
  · show min 60 (x 16 + 1) = n'
    rcases r with r | r <;> omega
  · show min 60 (x 16 + 1) ≤ x 19 + 1 ∧ x 19 + 1 ≤ T + 1 ∧ ∀ i : Nat, (i : Int) < n' → upd (y 43) ((x 19).toNat % 60) w (((x 19 + 1 - min 60 (x 16 + 1)).toNat + i) % 60) = l' i
    refine ⟨by omega, by omega, fun i hi => ?_⟩
    rcases r with ⟨r0, r1, r2, r3⟩ | ⟨r1, r2, r3, r4⟩
    · rw [r3]
      by_cases q : i = (X 16).toNat
      · subst q
        rw [upd_self, show ((x 19 + 1 - min 60 (x 16 + 1)).toNat + (X 16).toNat) % 60 = (x 19).toNat % 60 by omega, upd_self]
      · rw [upd_ne _ _ q, upd_ne _ _ (by omega), ← u.2.2 i (by omega)]
        congr 1
        omega
    · by_cases q : i = 59
      · subst q
        rw [r4, show ((x 19 + 1 - min 60 (x 16 + 1)).toNat + 59) % 60 = (x 19).toNat % 60 by omega, upd_self]
      · rw [r3 i (by omega), upd_ne _ _ (by omega), ← u.2.2 (i + 1) (by omega)]
        congr 1
        omega
theorem SIM.clr {k : Nat} {T : Int} {np : Nat} {PK PT : Nat → Int32} {x : Nat → Int} {y : Nat → Nat → Int32} {X : Nat → Int} {Y : Nat → Nat → Int32} (h : SIM k T np PK PT x y X Y) (hT : 0 ≤ T) : SIM k T np PK PT (va_up (va_up x 19 0) 16 0) y (va_up X 16 0) Y := by
  refine ⟨h.x0, h.x1, h.x10, h.x11, h.x12, h.x13, h.x14, h.x15, rfl, h.x20, h.pl, h.te, h.tn, h.se, h.ru, h.en, h.mo, h.me, ?_, h.ow, h.ob, h.wh, h.ex⟩
  show (0 : Int) ≤ 0 ∧ (0 : Int) ≤ T ∧ ∀ i : Nat, (i : Int) < 0 → y 43 ((((0 : Int) - 0).toNat + i) % 60) = Y 43 i
  exact ⟨by omega, hT, fun i hi => absurd hi (by omega)⟩
/-- a day's leaf anew -/
theorem SIM.leaf {k : Nat} {T : Int} {np : Nat} {PK PT : Nat → Int32} {x : Nat → Int} {y : Nat → Nat → Int32} {X : Nat → Int} {Y : Nat → Nat → Int32} {d : Nat} {p c s s' : Int32} {f : Nat → Int32} (h : SIM k T np PK PT x y X Y) (hs : p ≠ -1 → s' = s) (hc : c.toInt ≤ 0) : SIM k T np PK PT x (va_up (va_up (va_up (va_up y 2 (upd (y 2) d p)) 3 (upd (y 3) d c)) 4 (upd (y 4) d s)) 60 (fun z => if z % 1000 = d then f (z / 1000) else y 60 z)) X (va_up (va_up (va_up Y 2 (upd (Y 2) d p)) 3 (upd (Y 3) d c)) 4 (upd (Y 4) d s')) := by
  refine ⟨h.x0, h.x1, h.x10, h.x11, h.x12, h.x13, h.x14, h.x15, h.x16, h.x20, fun e he => ?_, h.te, h.tn, h.se, h.ru, h.en, h.mo, h.me, h.un, h.ow, h.ob, h.wh, ⟨h.ex.tw, h.ex.iz, h.ex.lo, h.ex.lz, h.ex.lb, fun e he m hm => ?_⟩⟩
  · show upd (y 2) d p e = upd (Y 2) d p e ∧ upd (y 3) d c e = upd (Y 3) d c e ∧ (upd (Y 2) d p e ≠ -1 → upd (y 4) d s e = upd (Y 4) d s' e)
    by_cases q : e = d
    · subst q
      rw [upd_self, upd_self, upd_self, upd_self, upd_self, upd_self]
      exact ⟨rfl, rfl, fun z => (hs z).symm⟩
    · rw [upd_ne _ _ q, upd_ne _ _ q, upd_ne _ _ q, upd_ne _ _ q, upd_ne _ _ q, upd_ne _ _ q]
      exact h.pl e he
  · have hm' : (m : Int) < (upd (Y 3) d c e).toInt := hm
    show (if (1000 * m + e) % 1000 = d then f ((1000 * m + e) / 1000) else y 60 (1000 * m + e)).toInt = X (lKey 10 (6 * e + m))
    by_cases q : e = d
    · subst q
      rw [upd_self] at hm'
      omega
    · rw [upd_ne _ _ q] at hm'
      rw [if_neg (by omega)]
      exact h.ex.et e he m hm'
theorem SIM.told {k : Nat} {T : Int} {np : Nat} {PK PT : Nat → Int32} {x : Nat → Int} {y : Nat → Nat → Int32} {X : Nat → Int} {Y : Nat → Nat → Int32} {d : Nat} {c : Int32} (h : SIM k T np PK PT x y X Y) (hc : c.toInt ≤ (Y 3 d).toInt) : SIM k T np PK PT x (va_up y 3 (upd (y 3) d c)) X (va_up Y 3 (upd (Y 3) d c)) := by
  refine ⟨h.x0, h.x1, h.x10, h.x11, h.x12, h.x13, h.x14, h.x15, h.x16, h.x20, fun e he => ?_, h.te, h.tn, h.se, h.ru, h.en, h.mo, h.me, h.un, h.ow, h.ob, h.wh, ⟨h.ex.tw, h.ex.iz, h.ex.lo, h.ex.lz, h.ex.lb, fun e he m hm => ?_⟩⟩
  · show y 2 e = Y 2 e ∧ upd (y 3) d c e = upd (Y 3) d c e ∧ (Y 2 e ≠ -1 → y 4 e = Y 4 e)
    by_cases q : e = d
    · subst q
      rw [upd_self, upd_self]
      exact ⟨(h.pl e he).1, rfl, (h.pl e he).2.2⟩
    · rw [upd_ne _ _ q, upd_ne _ _ q]
      exact h.pl e he
  · have hm' : (m : Int) < (upd (Y 3) d c e).toInt := hm
    refine h.ex.et e he m ?_
    by_cases q : e = d
    · subst q
      rw [upd_self] at hm'
      omega
    · rw [upd_ne _ _ q] at hm'
      exact hm'
theorem SIM.cg {k : Nat} {T : Int} {np : Nat} {PK PT : Nat → Int32} {x x' X X' : Nat → Int} {y Y : Nat → Nat → Int32} (h : SIM k T np PK PT x y X Y) (hx : ∀ j, j < 32 → x' j = x j) (hX : ∀ j, j < 32 → X' j = X j) (he : EXT PK x' y X' Y) : SIM k T np PK PT x' y X' Y := by
  refine ⟨by rw [hx 0 (by decide), hX 0 (by decide)]; exact h.x0, by rw [hx 1 (by decide), hX 1 (by decide)]; exact h.x1, by rw [hx 10 (by decide), hX 10 (by decide)]; exact h.x10, by rw [hx 11 (by decide), hX 11 (by decide)]; exact h.x11, by rw [hx 12 (by decide), hX 12 (by decide)]; exact h.x12, by rw [hx 13 (by decide), hX 13 (by decide)]; exact h.x13, by rw [hx 14 (by decide), hX 14 (by decide)]; exact h.x14, by rw [hx 15 (by decide), hX 15 (by decide)]; exact h.x15, by rw [hx 16 (by decide), hX 16 (by decide)]; exact h.x16, by rw [hx 20 (by decide)]; exact h.x20, h.pl, by rw [hX 10 (by decide)]; exact h.te, by rw [hX 10 (by decide)]; exact h.tn, by rw [hX 10 (by decide)]; exact h.se, by rw [hX 11 (by decide)]; exact h.ru, by rw [hX 12 (by decide)]; exact h.en, by rw [hX 14 (by decide), hX 1 (by decide)]; exact h.mo, by rw [hX 15 (by decide)]; exact h.me, by rw [hx 16 (by decide), hx 19 (by decide), hX 16 (by decide)]; exact h.un, by rw [hx 18 (by decide), hX 10 (by decide)]; exact h.ow, by rw [hx 18 (by decide)]; exact h.ob, by rw [hX 10 (by decide)]; exact h.wh, he⟩
theorem decLe {v : Int32} (h : 1 ≤ v.toInt) : (v - 1).toInt ≤ v.toInt := by
  have h2 := Int32.toInt_lt v
  rw [Int32.toInt_sub, show (1 : Int32).toInt = 1 from rfl, Int.bmod_eq_of_le (by omega) (by omega)]
  omega
theorem lKne {r r' i j : Nat} (h : r ≠ r') (hr : r < 16) (hr' : r' < 16) : lKey r i ≠ lKey r' j := by
  unfold lKey
  omega
/-- one entry more -/
theorem SIM.ent {k : Nat} {T : Int} {np : Nat} {PK PT : Nat → Int32} {x : Nat → Int} {y : Nat → Nat → Int32} {X : Nat → Int} {Y : Nat → Nat → Int32} {d c : Nat} {v : Int32} {w : Int} (h : SIM k T np PK PT x y X Y) (hd : d < 1000) (h3 : (Y 3 d).toInt = (c : Int)) (hc : c < 6) (hr : ∀ e : Nat, e < 1000 → (Y 3 e).toInt < 7) (hw : v.toInt = w) : SIM k T np PK PT x (va_up (va_up y 60 (upd (y 60) (1000 * c + d) v)) 3 (upd (y 3) d (Y 3 d + 1))) (va_up X (lKey 10 (6 * d + c)) w) (va_up Y 3 (upd (Y 3) d (Y 3 d + 1))) := by
  have e1 : (Y 3 d + 1).toInt = (c : Int) + 1 := by
    rw [Int32.toInt_add, h3, show (1 : Int32).toInt = 1 from rfl]
    apply Int.bmod_eq_of_le <;> omega
  have g : SIM k T np PK PT x y (va_up X (lKey 10 (6 * d + c)) w) Y := by
    refine h.cg (fun _ _ => rfl) (fun j hj => lKdn X 10 (6 * d + c) j w hj) ⟨?_, ?_, ?_, ?_, ?_, ?_⟩
    · rw [lKdn X 10 (6 * d + c) 10 w (by decide)]
      exact h.ex.tw
    · rw [lKdn X 10 (6 * d + c) 10 w (by decide)]
      exact h.ex.iz
    · rw [lKdn X 10 (6 * d + c) 10 w (by decide)]
      intro j hj
      rw [va_up_ne _ _ (lKne (by decide) (by decide) (by decide))]
      exact h.ex.lo j hj
    · rw [lKdn X 10 (6 * d + c) 10 w (by decide)]
      intro j h24 hj
      rw [va_up_ne _ _ (lKne (by decide) (by decide) (by decide))]
      exact h.ex.lz j h24 hj
    · rw [lKdn X 10 (6 * d + c) 10 w (by decide)]
      intro j hj
      rw [va_up_ne _ _ (lKne (by decide) (by decide) (by decide))]
      exact h.ex.lb j hj
    · intro e he m hm
      have hr' := hr e he
      have hne : lKey 10 (6 * e + m) ≠ lKey 10 (6 * d + c) := fun z => by
        have z2 := lKin z
        have z3 : e = d := by omega
        rw [z3, h3] at hm
        omega
      rw [va_up_ne _ _ hne]
      exact h.ex.et e he m hm
  refine ⟨g.x0, g.x1, g.x10, g.x11, g.x12, g.x13, g.x14, g.x15, g.x16, g.x20, fun e he => ?_, g.te, g.tn, g.se, g.ru, g.en, g.mo, g.me, g.un, g.ow, g.ob, g.wh, ⟨g.ex.tw, g.ex.iz, g.ex.lo, g.ex.lz, g.ex.lb, fun e he m hm => ?_⟩⟩
  · show y 2 e = Y 2 e ∧ upd (y 3) d (Y 3 d + 1) e = upd (Y 3) d (Y 3 d + 1) e ∧ (Y 2 e ≠ -1 → y 4 e = Y 4 e)
    by_cases q : e = d
    · subst q
      rw [upd_self, upd_self]
      exact ⟨(h.pl e he).1, rfl, (h.pl e he).2.2⟩
    · rw [upd_ne _ _ q, upd_ne _ _ q]
      exact h.pl e he
  · have hm' : (m : Int) < (upd (Y 3) d (Y 3 d + 1) e).toInt := hm
    show (upd (y 60) (1000 * c + d) v (1000 * m + e)).toInt = va_up X (lKey 10 (6 * d + c)) w (lKey 10 (6 * e + m))
    by_cases q : e = d
    · subst q
      rw [upd_self, e1] at hm'
      by_cases z : m = c
      · subst z
        rw [upd_self, va_up_self]
        exact hw
      · rw [upd_ne _ _ (by omega)]
        exact g.ex.et e he m (by omega)
    · rw [upd_ne _ _ q] at hm'
      rw [upd_ne _ _ (by omega)]
      exact g.ex.et e he m hm'
theorem SIM.move {k : Nat} {T : Int} {np : Nat} {PK PT : Nat → Int32} {x : Nat → Int} {y : Nat → Nat → Int32} {X : Nat → Int} {Y : Nat → Nat → Int32} {t d s : Int32} (h : SIM k T np PK PT x y X Y) (hb : 0 ≤ X 14) (ht : 0 ≤ t.toInt) (hd : X 1 < d.toInt) : SIM k T np PK PT (va_up x 14 (x 14 + 1)) (va_up (va_up (va_up y 38 (upd (y 38) (x 14).toNat t)) 39 (upd (y 39) (x 14).toNat d)) 40 (upd (y 40) (x 14).toNat s)) (va_up X 14 (X 14 + 1)) (va_up (va_up (va_up Y 38 (upd (Y 38) (X 14).toNat t)) 39 (upd (Y 39) (X 14).toNat d)) 40 (upd (Y 40) (X 14).toNat s)) := by
  have e := h.x14
  refine ⟨h.x0, h.x1, h.x10, h.x11, h.x12, h.x13, ?_, h.x15, h.x16, h.x20, h.pl, h.te, h.tn, h.se, h.ru, h.en, fun i hi => ?_, h.me, h.un, h.ow, h.ob, h.wh, h.ex⟩
  · show x 14 + 1 = X 14 + 1
    omega
  · show upd (y 38) (x 14).toNat t i = upd (Y 38) (X 14).toNat t i ∧ upd (y 39) (x 14).toNat d i = upd (Y 39) (X 14).toNat d i ∧ upd (y 40) (x 14).toNat s i = upd (Y 40) (X 14).toNat s i ∧ 0 ≤ (upd (y 38) (x 14).toNat t i).toInt ∧ X 1 < (upd (y 39) (x 14).toNat d i).toInt
    have hi' : (i : Int) < X 14 + 1 := hi
    rw [e]
    by_cases q : i = (X 14).toNat
    · subst q
      rw [upd_self, upd_self, upd_self, upd_self, upd_self, upd_self]
      exact ⟨rfl, rfl, rfl, ht, hd⟩
    · rw [upd_ne _ _ q, upd_ne _ _ q, upd_ne _ _ q, upd_ne _ _ q, upd_ne _ _ q, upd_ne _ _ q]
      exact h.mo i (by omega)
theorem SIM.drm {k : Nat} {T : Int} {np : Nat} {PK PT : Nat → Int32} {x : Nat → Int} {y : Nat → Nat → Int32} {X : Nat → Int} {Y : Nat → Nat → Int32} (h : SIM k T np PK PT x y X Y) : SIM k T np PK PT (va_up x 14 (x 14 - 1)) y (va_up X 14 (X 14 - 1)) Y := by
  have e := h.x14
  refine ⟨h.x0, h.x1, h.x10, h.x11, h.x12, h.x13, ?_, h.x15, h.x16, h.x20, h.pl, h.te, h.tn, h.se, h.ru, h.en, fun i hi => h.mo i ?_, h.me, h.un, h.ow, h.ob, h.wh, h.ex⟩
  · show x 14 - 1 = X 14 - 1
    omega
  · have hi' : (i : Int) < X 14 - 1 := hi
    omega
theorem SIM.take {k : Nat} {T : Int} {np : Nat} {PK PT : Nat → Int32} {x : Nat → Int} {y : Nat → Nat → Int32} {X : Nat → Int} {Y : Nat → Nat → Int32} (h : SIM k T np PK PT x y X Y) (hb : 1 ≤ X 16) : SIM k T np PK PT (va_up (va_up x 19 (x 19 - 1)) 16 (x 16 - 1)) y (va_up X 16 (X 16 - 1)) Y ∧ y 43 ((x 19 - 1).toNat % 60) = Y 43 (X 16 - 1).toNat := by
  have e := h.x16
  have u := h.un
  refine ⟨⟨h.x0, h.x1, h.x10, h.x11, h.x12, h.x13, h.x14, h.x15, ?_, h.x20, h.pl, h.te, h.tn, h.se, h.ru, h.en, h.mo, h.me, ?_, h.ow, h.ob, h.wh, h.ex⟩, ?_⟩
  · show x 16 - 1 = X 16 - 1
    omega
  · show x 16 - 1 ≤ x 19 - 1 ∧ x 19 - 1 ≤ T ∧ ∀ i : Nat, (i : Int) < X 16 - 1 → y 43 (((x 19 - 1 - (x 16 - 1)).toNat + i) % 60) = Y 43 i
    refine ⟨by omega, by omega, fun i hi => ?_⟩
    rw [show x 19 - 1 - (x 16 - 1) = x 19 - x 16 by omega]
    exact u.2.2 i (by omega)
  · rw [← u.2.2 (X 16 - 1).toNat (by omega)]
    congr 1
    omega
theorem SIM.ends {k : Nat} {T : Int} {np : Nat} {PK PT : Nat → Int32} {x : Nat → Int} {y : Nat → Nat → Int32} {X : Nat → Int} {Y : Nat → Nat → Int32} {d : Int32} (h : SIM k T np PK PT x y X Y) (hb : 0 ≤ X 12) : SIM k T np PK PT (va_up x 12 (x 12 + 1)) (va_up y 37 (upd (y 37) (x 12).toNat d)) (va_up X 12 (X 12 + 1)) (va_up Y 37 (upd (Y 37) (X 12).toNat d)) := by
  have e := h.x12
  refine ⟨h.x0, h.x1, h.x10, h.x11, ?_, h.x13, h.x14, h.x15, h.x16, h.x20, h.pl, h.te, h.tn, h.se, h.ru, fun i hi => ?_, h.mo, h.me, h.un, h.ow, h.ob, h.wh, h.ex⟩
  · show x 12 + 1 = X 12 + 1
    omega
  · show upd (y 37) (x 12).toNat d i = upd (Y 37) (X 12).toNat d i
    have hi' : (i : Int) < X 12 + 1 := hi
    rw [e]
    by_cases q : i = (X 12).toNat
    · subst q
      rw [upd_self, upd_self]
    · rw [upd_ne _ _ q, upd_ne _ _ q]
      exact h.en i (by omega)
theorem SIM.mend {k : Nat} {T : Int} {np : Nat} {PK PT : Nat → Int32} {x : Nat → Int} {y : Nat → Nat → Int32} {X : Nat → Int} {Y : Nat → Nat → Int32} {d s : Int32} (h : SIM k T np PK PT x y X Y) (hb : 0 ≤ X 15) : SIM k T np PK PT (va_up x 15 (x 15 + 1)) (va_up (va_up y 41 (upd (y 41) (x 15).toNat d)) 42 (upd (y 42) (x 15).toNat s)) (va_up X 15 (X 15 + 1)) (va_up (va_up Y 41 (upd (Y 41) (X 15).toNat d)) 42 (upd (Y 42) (X 15).toNat s)) := by
  have e := h.x15
  refine ⟨h.x0, h.x1, h.x10, h.x11, h.x12, h.x13, h.x14, ?_, h.x16, h.x20, h.pl, h.te, h.tn, h.se, h.ru, h.en, h.mo, fun i hi => ?_, h.un, h.ow, h.ob, h.wh, h.ex⟩
  · show x 15 + 1 = X 15 + 1
    omega
  · show upd (y 41) (x 15).toNat d i = upd (Y 41) (X 15).toNat d i ∧ upd (y 42) (x 15).toNat s i = upd (Y 42) (X 15).toNat s i
    have hi' : (i : Int) < X 15 + 1 := hi
    rw [e]
    by_cases q : i = (X 15).toNat
    · subst q
      rw [upd_self, upd_self, upd_self, upd_self]
      exact ⟨rfl, rfl⟩
    · rw [upd_ne _ _ q, upd_ne _ _ q, upd_ne _ _ q, upd_ne _ _ q]
      exact h.me i (by omega)
theorem SIM.up1 {k : Nat} {T : Int} {np : Nat} {PK PT : Nat → Int32} {x : Nat → Int} {y : Nat → Nat → Int32} {X : Nat → Int} {Y : Nat → Nat → Int32} (h : SIM k T np PK PT x y X Y) : SIM k (T + 1) np PK PT x y X Y := h.mono (by omega)

theorem SVof {cy : Nat → ClassId} {K : Kp} {L : List Nat} {M : Hp} {a : Nat} (hW : WOM cy K L M) (ha : isk K L a 12 0) : SV (fx M a) (ax M a) := by
  obtain ⟨fs, hM, hn, hfl⟩ := hW.open_12 ha
  obtain ⟨v0, e0, c0⟩ : ∃ v : Nat, fs[0]? = some (.int (nI v) : Value) ∧ v ≤ 999 := hfl 0 (by decide)
  have h0 : fx M a 0 = ((v0 : Nat) : Int) := (fx_of hM rfl e0).trans (nI_toInt (by omega))
  obtain ⟨v10, e10, c10⟩ : ∃ v : Nat, fs[10]? = some (.int (nI v) : Value) ∧ v ≤ 24 := hfl 10 (by decide)
  have h10 : fx M a 10 = ((v10 : Nat) : Int) := (fx_of hM rfl e10).trans (nI_toInt (by omega))
  obtain ⟨v11, e11, c11⟩ : ∃ v : Nat, fs[11]? = some (.int (nI v) : Value) ∧ v ≤ 16 := hfl 11 (by decide)
  have h11 : fx M a 11 = ((v11 : Nat) : Int) := (fx_of hM rfl e11).trans (nI_toInt (by omega))
  obtain ⟨v12, e12, c12⟩ : ∃ v : Nat, fs[12]? = some (.int (nI v) : Value) ∧ v ≤ 12 := hfl 12 (by decide)
  have h12 : fx M a 12 = ((v12 : Nat) : Int) := (fx_of hM rfl e12).trans (nI_toInt (by omega))
  obtain ⟨v13, e13, c13⟩ : ∃ v : Nat, fs[13]? = some (.int (nI v) : Value) ∧ v ≤ 12 := hfl 13 (by decide)
  have h13 : fx M a 13 = ((v13 : Nat) : Int) := (fx_of hM rfl e13).trans (nI_toInt (by omega))
  obtain ⟨v14, e14, c14⟩ : ∃ v : Nat, fs[14]? = some (.int (nI v) : Value) ∧ v ≤ 120 := hfl 14 (by decide)
  have h14 : fx M a 14 = ((v14 : Nat) : Int) := (fx_of hM rfl e14).trans (nI_toInt (by omega))
  obtain ⟨v15, e15, c15⟩ : ∃ v : Nat, fs[15]? = some (.int (nI v) : Value) ∧ v ≤ 20 := hfl 15 (by decide)
  have h15 : fx M a 15 = ((v15 : Nat) : Int) := (fx_of hM rfl e15).trans (nI_toInt (by omega))
  obtain ⟨v16, e16, c16⟩ : ∃ v : Nat, fs[16]? = some (.int (nI v) : Value) ∧ v ≤ 60 := hfl 16 (by decide)
  have h16 : fx M a 16 = ((v16 : Nat) : Int) := (fx_of hM rfl e16).trans (nI_toInt (by omega))
  obtain ⟨v1, e1, c1⟩ : ∃ v : Int32, fs[1]? = some (.int v : Value) ∧ (v = (-1) ∨ ∃ c : Nat, c < 1000 ∧ v = nI c) := hfl 1 (by decide)
  have h1 : -1 ≤ fx M a 1 ∧ fx M a 1 ≤ 999 := by
    rw [fx_of hM rfl e1]
    rcases c1 with q | ⟨c, q1, q⟩
    · rw [q]
      decide
    · rw [q, nI_toInt (by omega)]
      omega
  obtain ⟨r2, g2, i2⟩ : ∃ v : Nat, fs[2]? = some (.ref v : Value) ∧ isk K L v 37 1000 := hfl 2 (by decide)
  obtain ⟨f2, hf2, p2⟩ := hW.open_37 i2
  have y2 : ax M a 2 = f2 := ax_of hM (by decide) g2 hf2
  obtain ⟨r3, g3, i3⟩ : ∃ v : Nat, fs[3]? = some (.ref v : Value) ∧ isk K L v 35 1000 := hfl 3 (by decide)
  obtain ⟨f3, hf3, p3⟩ := hW.open_35 i3
  have y3 : ax M a 3 = f3 := ax_of hM (by decide) g3 hf3
  obtain ⟨r37, g37, i37⟩ : ∃ v : Nat, fs[37]? = some (.ref v : Value) ∧ isk K L v 38 12 := hfl 37 (by decide)
  obtain ⟨f37, hf37, p37⟩ := hW.open_38 i37
  have y37 : ax M a 37 = f37 := ax_of hM (by decide) g37 hf37
  obtain ⟨r43, g43, i43⟩ : ∃ v : Nat, fs[43]? = some (.ref v : Value) ∧ isk K L v 36 60 := hfl 43 (by decide)
  obtain ⟨f43, hf43, p43⟩ := hW.open_36 i43
  have y43 : ax M a 43 = f43 := ax_of hM (by decide) g43 hf43
  refine ⟨by omega, h1, by omega, by omega, by omega, by omega, by omega, by omega, by omega, fun d hd => ?_, fun d hd => ?_, fun d hd => ?_, fun d hd => ?_⟩
  · rw [y2]
    rcases p2 d hd with q | ⟨c, hc, q⟩
    · exact Or.inl q
    · rw [q, nI_toInt (by omega)]
      exact Or.inr (by omega)
  · rw [y3]
    obtain ⟨c, hc, q⟩ := p3 d hd
    rw [q, nI_toInt (by omega)]
    omega
  · rw [y37]
    obtain ⟨c, hc, q⟩ := p37 d hd
    rw [q, nI_toInt (by omega)]
    omega
  · rw [y43]
    rcases p43 d hd with q | ⟨c, hc, q⟩
    · exact Or.inl q
    · rw [q, nI_toInt (by omega)]
      exact Or.inr (by omega)
