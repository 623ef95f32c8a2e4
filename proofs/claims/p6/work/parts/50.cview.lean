/-- what an object of class t holds in field j -/
def cVt (t : Nat) (M : Hp) (a j : Nat) : Option Value := match M a with
  | .inr (t', fs) => if t' = t then fs[j]? else none
  | _ => none
def cV (t : Nat) (M : Hp) (a j : Nat) : Int32 := match cVt t M a j with
  | some (.int v) => v
  | _ => 0
def cR (t : Nat) (M : Hp) (a j : Nat) : Option Nat := match cVt t M a j with
  | some (.ref r) => some r
  | _ => none
def rA (t : Nat) (M : Hp) (a j : Nat) : Nat := (cR t M a j).getD 0
def ALc (e : va_E) : Nat := match e with
  | .inl (_, n, _) => n
  | _ => 0
/-- stores: into a field, an int array, an array of references -/
def sF (M : Hp) (x j : Nat) (v : Value) : Hp := va_up M x (match M x with
  | .inr (t, fs) => .inr (t, fs.set j v)
  | e => e)
def sA (M : Hp) (x i : Nat) (v : Int32) : Hp := va_up M x (match M x with
  | .inl (c, n, .inl f) => .inl (c, n, .inl (upd f i v))
  | e => e)
def sR (M : Hp) (x i : Nat) (o : Option Nat) : Hp := va_up M x (match M x with
  | .inl (c, n, .inr (.inr (.inr (.inr f)))) => .inl (c, n, .inr (.inr (.inr (.inr (va_up f i o)))))
  | e => e)
theorem sF_of {M : Hp} {x j t : Nat} {fs fs' : List Value} {v : Value} (hx : M x = .inr (t, fs)) (e : fs' = fs.set j v) : va_up M x (.inr (t, fs')) = sF M x j v := by
  unfold sF
  rw [hx, e]
theorem sA_of {M : Hp} {x i n : Nat} {c : ClassId} {f : Nat → Int32} {v : Int32} (hx : M x = .inl (c, n, .inl f)) : va_up M x (.inl (c, n, .inl (upd f i v))) = sA M x i v := by
  unfold sA
  rw [hx]
theorem sR_of {M : Hp} {x i n : Nat} {c : ClassId} {f : Nat → Option Nat} {o : Option Nat} (hx : M x = .inl (c, n, .inr (.inr (.inr (.inr f))))) : va_up M x (.inl (c, n, .inr (.inr (.inr (.inr (va_up f i o)))))) = sR M x i o := by
  unfold sR
  rw [hx]
theorem cVt_of {M : Hp} {a t : Nat} {fs : List Value} (j : Nat) (h : M a = .inr (t, fs)) : cVt t M a j = fs[j]? := by
  unfold cVt
  rw [h]
  exact if_pos rfl
theorem cV_of {M : Hp} {a t j : Nat} {fs : List Value} {v : Int32} (h : M a = .inr (t, fs)) (e : fs[j]? = some (.int v)) : cV t M a j = v := by
  unfold cV
  rw [cVt_of j h, e]
theorem cR_of {M : Hp} {a t j r : Nat} {fs : List Value} (h : M a = .inr (t, fs)) (e : fs[j]? = some (.ref r)) : cR t M a j = some r := by
  unfold cR
  rw [cVt_of j h, e]
theorem cR_q {M : Hp} {a t j : Nat} {fs : List Value} {q : Option Nat} (h : M a = .inr (t, fs)) (e : fs[j]? = some (va_rf q)) : cR t M a j = q := by
  unfold cR
  rw [cVt_of j h, e]
  cases q <;> rfl
theorem rA_of {M : Hp} {a t j r : Nat} {fs : List Value} (h : M a = .inr (t, fs)) (e : fs[j]? = some (.ref r)) : rA t M a j = r := by
  unfold rA
  rw [cR_of h e]
  rfl
theorem IFc_of {M : Hp} {r n : Nat} {c : ClassId} {f : Nat → Int32} (h : M r = .inl (c, n, .inl f)) : IFc (M r) = f := by
  rw [h]
  rfl
theorem RFc_of {M : Hp} {r n : Nat} {c : ClassId} {f : Nat → Option Nat} (h : M r = .inl (c, n, .inr (.inr (.inr (.inr f))))) : RFc (M r) = f := by
  rw [h]
  rfl
theorem cVt_sF {M : Hp} {x j t0 : Nat} {fs : List Value} {v : Value} (hx : M x = .inr (t0, fs)) (t a j' : Nat) (h : t0 ≠ t ∨ j ≠ j' ∨ a ≠ x) : cVt t (sF M x j v) a j' = cVt t M a j' := by
  unfold cVt sF
  by_cases q : a = x
  · subst q
    rw [va_up_self, hx]
    show (if t0 = t then (fs.set j v)[j']? else none) = (if t0 = t then fs[j']? else none)
    rcases h with h | h | h
    · rw [if_neg h, if_neg h]
    · rw [List.getElem?_set_ne h]
    · exact absurd rfl h
  · rw [va_up_ne _ _ q]
theorem cVt_sF_self {M : Hp} {x j t : Nat} {fs : List Value} {v : Value} (hx : M x = .inr (t, fs)) (hj : j < fs.length) : cVt t (sF M x j v) x j = some v := by
  unfold cVt sF
  rw [va_up_self, hx]
  show (if t = t then (fs.set j v)[j]? else none) = some v
  rw [if_pos rfl, List.getElem?_set_self hj]
theorem cVt_sA (M : Hp) (x i : Nat) (v : Int32) (t a j : Nat) : cVt t (sA M x i v) a j = cVt t M a j := by
  unfold cVt sA
  by_cases q : a = x
  · subst q
    rw [va_up_self]
    rcases M a with ⟨c, n, f | f⟩ | ⟨t', fs⟩ <;> rfl
  · rw [va_up_ne _ _ q]
theorem cVt_sR (M : Hp) (x i : Nat) (v : Option Nat) (t a j : Nat) : cVt t (sR M x i v) a j = cVt t M a j := by
  unfold cVt sR
  by_cases q : a = x
  · subst q
    rw [va_up_self]
    rcases M a with ⟨c, n, f | f | f | f | f⟩ | ⟨t', fs⟩ <;> rfl
  · rw [va_up_ne _ _ q]
theorem IFc_sF (M : Hp) (x j : Nat) (v : Value) (r : Nat) : IFc (sF M x j v r) = IFc (M r) := by
  unfold sF
  by_cases q : r = x
  · subst q
    rw [va_up_self]
    rcases M r with ⟨c, n, f⟩ | ⟨t', fs⟩ <;> rfl
  · rw [va_up_ne _ _ q]
theorem IFc_sR (M : Hp) (x j : Nat) (v : Option Nat) (r : Nat) : IFc (sR M x j v r) = IFc (M r) := by
  unfold sR
  by_cases q : r = x
  · subst q
    rw [va_up_self]
    rcases M r with ⟨c, n, f | f | f | f | f⟩ | ⟨t', fs⟩ <;> rfl
  · rw [va_up_ne _ _ q]
theorem IFc_sA {M : Hp} {x i : Nat} {v : Int32} {r : Nat} (h : r ≠ x) : IFc (sA M x i v r) = IFc (M r) := by
  unfold sA
  rw [va_up_ne _ _ h]
theorem IFc_sA_self {M : Hp} {x i n : Nat} {c : ClassId} {f : Nat → Int32} {v : Int32} (h : M x = .inl (c, n, .inl f)) : IFc (sA M x i v x) = upd (IFc (M x)) i v := by
  unfold sA
  rw [va_up_self, h]
  rfl
theorem RFc_sF (M : Hp) (x j : Nat) (v : Value) (r : Nat) : RFc (sF M x j v r) = RFc (M r) := by
  unfold sF
  by_cases q : r = x
  · subst q
    rw [va_up_self]
    rcases M r with ⟨c, n, f⟩ | ⟨t', fs⟩ <;> rfl
  · rw [va_up_ne _ _ q]
theorem RFc_sA (M : Hp) (x j : Nat) (v : Int32) (r : Nat) : RFc (sA M x j v r) = RFc (M r) := by
  unfold sA
  by_cases q : r = x
  · subst q
    rw [va_up_self]
    rcases M r with ⟨c, n, f | f⟩ | ⟨t', fs⟩ <;> rfl
  · rw [va_up_ne _ _ q]
theorem RFc_sR {M : Hp} {x i : Nat} {v : Option Nat} {r : Nat} (h : r ≠ x) : RFc (sR M x i v r) = RFc (M r) := by
  unfold sR
  rw [va_up_ne _ _ h]
theorem RFc_sR_self {M : Hp} {x i n : Nat} {c : ClassId} {f : Nat → Option Nat} {v : Option Nat} (h : M x = .inl (c, n, .inr (.inr (.inr (.inr f))))) : RFc (sR M x i v x) = va_up (RFc (M x)) i v := by
  unfold sR
  rw [va_up_self, h]
  rfl
theorem ALc_sF (M : Hp) (x j : Nat) (v : Value) (r : Nat) : ALc (sF M x j v r) = ALc (M r) := by
  unfold sF
  by_cases q : r = x
  · subst q
    rw [va_up_self]
    rcases M r with ⟨c, n, f⟩ | ⟨t', fs⟩ <;> rfl
  · rw [va_up_ne _ _ q]
theorem ALc_sA (M : Hp) (x j : Nat) (v : Int32) (r : Nat) : ALc (sA M x j v r) = ALc (M r) := by
  unfold sA
  by_cases q : r = x
  · subst q
    rw [va_up_self]
    rcases M r with ⟨c, n, f | f⟩ | ⟨t', fs⟩ <;> rfl
  · rw [va_up_ne _ _ q]
theorem ALc_sR (M : Hp) (x j : Nat) (v : Option Nat) (r : Nat) : ALc (sR M x j v r) = ALc (M r) := by
  unfold sR
  by_cases q : r = x
  · subst q
    rw [va_up_self]
    rcases M r with ⟨c, n, f | f | f | f | f⟩ | ⟨t', fs⟩ <;> rfl
  · rw [va_up_ne _ _ q]

/-- rows of a House of the class, in the reference's numbers -/
def vLf (j : Nat) (M : Hp) (b : Nat) : Nat → Int32 := fun i => if i < 1000 then (match RFc (M (rA 2 M b 12)) i with | none => 0 | some l => cV 3 M l j) else 0
def vPl (M : Hp) (b : Nat) : Nat → Int32 := fun i => if i < 1000 then (match RFc (M (rA 2 M b 12)) i with | none => -1 | some l => nI (ALc (M (rA 3 M l 1)))) else 0
def vLe (M : Hp) (b : Nat) : Nat → Int32 := fun i => IFc (M (rA 2 M b 6)) i
def vHe (M : Hp) (b : Nat) : Nat → Int32 := fun i => if i < 6 then (match RFc (M (rA 2 M b 7)) i with | none => -1 | some t => cV 9 M t 0) else 0
def vTe (j : Nat) (M : Hp) (b : Nat) : Nat → Int32 := fun i => if i < 24 then (match RFc (M (rA 2 M b 8)) i with | none => 0 | some t => cV 9 M t j) else 0
def vWho (M : Hp) (b : Nat) : Nat → Int32 := fun i => if i < 24 then (match RFc (M (rA 2 M b 8)) i with | none => 0 | some t => cV 4 M (rA 9 M t 1) 0) else 0
def vKd (M : Hp) (b : Nat) : Nat → Int32 := fun i => if i < 24 then (match RFc (M (rA 2 M b 8)) i with | none => 0 | some t => cV 4 M (rA 9 M t 1) 1) else 0
def cL (t : Nat) (M : Hp) (a j : Nat) : Int64 := match cVt t M a j with
  | some (.long v) => v
  | _ => 0
def vLo (j : Nat) (M : Hp) (b i : Nat) : Int := if i < 24 then (match RFc (M (rA 2 M b 8)) i with | none => 0 | some t => (cL 9 M t j).toInt) else 0
def lrow (r : Nat) : Hp → Nat → Nat → Int := match r with
  | 3 => vLo 12
  | _ => fun _ _ _ => 0
def lf (j : Nat) (M : Hp) (b : Nat) : Int := if 32 ≤ j then lrow ((j - 32) % 16) M b ((j - 32) / 16) else 0
def etN (M : Hp) (o : Option Nat) : Nat → Int32 := match o with | none => fun _ => 0 | some l => IFc (M (rA 3 M l 1))
def vEt (M : Hp) (b : Nat) : Nat → Int32 := fun z => etN M (RFc (M (rA 2 M b 12)) (z % 1000)) (z / 1000)
def hrN (M : Hp) (o : Option Nat) : Int32 := match o with | none => -1 | some u => cV 9 M u 0
def owN (M : Hp) (o : Option Nat) : Int32 := match o with | none => -1 | some u => cV 2 M u 0
def vHr (M : Hp) (b : Nat) : Nat → Int32 := fun i => if i < 24 then (match RFc (M (rA 2 M b 8)) i with | none => 0 | some t => hrN M (cR 9 M t 8)) else 0
def vOw (M : Hp) (b : Nat) : Nat → Int32 := fun i => if i < 24 then (match RFc (M (rA 2 M b 8)) i with | none => 0 | some t => owN M (cR 4 M (rA 9 M t 1) 3)) else 0
def vTn (M : Hp) (b : Nat) : Nat → Int32 := fun i => if i < 24 then (match RFc (M (rA 2 M b 8)) i with | none => 0 | some _ => 1) else 0
def vRn (M : Hp) (b : Nat) : Nat → Int32 := fun i => if i < 16 then (match RFc (M (rA 2 M b 10)) i with | none => 0 | some _ => 1) else 0
def vRu (j : Nat) (M : Hp) (b : Nat) : Nat → Int32 := fun i => if i < 16 then (match RFc (M (rA 2 M b 10)) i with | none => 0 | some q => cV 6 M q j) else 0
def vTm (M : Hp) (b : Nat) : Nat → Int32 := fun i => if i / 24 < 16 then (match RFc (M (rA 2 M b 10)) (i / 24) with | none => 0 | some q => IFc (M (rA 6 M q 2)) (i % 24)) else 0
def vEn (M : Hp) (b : Nat) : Nat → Int32 := fun i => IFc (M (rA 2 M b 3)) i
def vMo (M : Hp) (b : Nat) : Nat → Int32 := fun i => if i < 120 then (match RFc (M (rA 1 M (rA 2 M b 16) 0)) i with | none => -1 | some t => cV 9 M t 0) else 0
def vDs (f g : Nat) (M : Hp) (b : Nat) : Nat → Int32 := fun i => IFc (M (rA 1 M (rA 2 M b f) g)) i
def vUn (M : Hp) (b : Nat) : Nat → Int32 := fun i => IFc (M (rA 10 M (rA 2 M b 18) 0)) i
def xf (j : Nat) : Hp → Nat → Int := match j with
  | 0 => fun M b => (cV 2 M b 1).toInt
  | 1 => fun M b => (cV 2 M b 2).toInt
  | 10 => fun M b => (cV 2 M b 9).toInt
  | 11 => fun M b => (cV 2 M b 11).toInt
  | 12 => fun M b => (cV 2 M b 4).toInt
  | 13 => fun M b => (cV 2 M b 5).toInt
  | 18 => fun M b => (cV 2 M b 15).toInt
  | 20 => fun M b => (cV 2 M b 0).toInt
  | 14 => fun M b => (cV 1 M (rA 2 M b 16) 3).toInt
  | 15 => fun M b => (cV 1 M (rA 2 M b 17) 3).toInt
  | 16 => fun M b => (cV 10 M (rA 2 M b 18) 2).toInt
  | 19 => fun M b => (cV 10 M (rA 2 M b 18) 1).toInt
  | j => fun M b => lf j M b
def rowf (j : Nat) : Hp → Nat → Nat → Int32 := match j with
  | 2 => vPl
  | 3 => vLf 2
  | 4 => vLf 0
  | 19 => vWho
  | 20 => vTe 2
  | 21 => vTe 3
  | 22 => vTe 5
  | 23 => vTe 6
  | 24 => vTe 7
  | 29 => vKd
  | 25 => vHr
  | 26 => vTe 4
  | 27 => vOw
  | 28 => vTn
  | 33 => vRn
  | 34 => vRu 0
  | 35 => vRu 1
  | 36 => vTm
  | 37 => vEn
  | 38 => vMo
  | 39 => vDs 16 1
  | 40 => vDs 16 2
  | 41 => vDs 17 1
  | 42 => vDs 17 2
  | 43 => vUn
  | 50 => vLe
  | 51 => vHe
  | 60 => vEt
  | _ => fun _ _ _ => 0
def cfx (M : Hp) (b : Nat) : Nat → Int := fun j => xf j M b
def cax (M : Hp) (b : Nat) : Nat → Nat → Int32 := fun j => rowf j M b
theorem rowf_cases (P : Nat → (Hp → Nat → Nat → Int32) → Prop) (h2 : P 2 (vPl)) (h3 : P 3 (vLf 2)) (h4 : P 4 (vLf 0)) (h19 : P 19 (vWho)) (h20 : P 20 (vTe 2)) (h21 : P 21 (vTe 3)) (h22 : P 22 (vTe 5)) (h23 : P 23 (vTe 6)) (h24 : P 24 (vTe 7)) (h29 : P 29 (vKd)) (h25 : P 25 (vHr)) (h26 : P 26 (vTe 4)) (h27 : P 27 (vOw)) (h28 : P 28 (vTn)) (h33 : P 33 (vRn)) (h34 : P 34 (vRu 0)) (h35 : P 35 (vRu 1)) (h36 : P 36 (vTm)) (h37 : P 37 (vEn)) (h38 : P 38 (vMo)) (h39 : P 39 (vDs 16 1)) (h40 : P 40 (vDs 16 2)) (h41 : P 41 (vDs 17 1)) (h42 : P 42 (vDs 17 2)) (h43 : P 43 (vUn)) (h50 : P 50 (vLe)) (h51 : P 51 (vHe)) (h60 : P 60 (vEt)) (hd : ∀ j, P j (fun _ _ _ => 0)) (j : Nat) : P j (rowf j) := by
  unfold rowf
  split
  · exact h2
  · exact h3
  · exact h4
  · exact h19
  · exact h20
  · exact h21
  · exact h22
  · exact h23
  · exact h24
  · exact h29
  · exact h25
  · exact h26
  · exact h27
  · exact h28
  · exact h33
  · exact h34
  · exact h35
  · exact h36
  · exact h37
  · exact h38
  · exact h39
  · exact h40
  · exact h41
  · exact h42
  · exact h43
  · exact h50
  · exact h51
  · exact h60
  · exact hd _
theorem xf_cases (P : Nat → (Hp → Nat → Int) → Prop) (h0 : P 0 (fun M b => (cV 2 M b 1).toInt)) (h1 : P 1 (fun M b => (cV 2 M b 2).toInt)) (h10 : P 10 (fun M b => (cV 2 M b 9).toInt)) (h11 : P 11 (fun M b => (cV 2 M b 11).toInt)) (h12 : P 12 (fun M b => (cV 2 M b 4).toInt)) (h13 : P 13 (fun M b => (cV 2 M b 5).toInt)) (h18 : P 18 (fun M b => (cV 2 M b 15).toInt)) (h20 : P 20 (fun M b => (cV 2 M b 0).toInt)) (h14 : P 14 (fun M b => (cV 1 M (rA 2 M b 16) 3).toInt)) (h15 : P 15 (fun M b => (cV 1 M (rA 2 M b 17) 3).toInt)) (h16 : P 16 (fun M b => (cV 10 M (rA 2 M b 18) 2).toInt)) (h19 : P 19 (fun M b => (cV 10 M (rA 2 M b 18) 1).toInt)) (hd : ∀ j, P j (fun M b => lf j M b)) (j : Nat) : P j (xf j) := by
  unfold xf
  split
  · exact h0
  · exact h1
  · exact h10
  · exact h11
  · exact h12
  · exact h13
  · exact h18
  · exact h20
  · exact h14
  · exact h15
  · exact h16
  · exact h19
  · exact hd _
theorem cV_c {t a j : Nat} {M M1 : Hp} (h : cVt t M1 a j = cVt t M a j) : cV t M1 a j = cV t M a j := by unfold cV; rw [h]
theorem cR_c {t a j : Nat} {M M1 : Hp} (h : cVt t M1 a j = cVt t M a j) : cR t M1 a j = cR t M a j := by unfold cR; rw [h]
theorem rA_c {t a j : Nat} {M M1 : Hp} (h : cVt t M1 a j = cVt t M a j) : rA t M1 a j = rA t M a j := by unfold rA; rw [cR_c h]
theorem cL_c {t a j : Nat} {M M1 : Hp} (h : cVt t M1 a j = cVt t M a j) : cL t M1 a j = cL t M a j := by unfold cL; rw [h]
theorem cL_of {M : Hp} {a t j : Nat} {fs : List Value} {v : Int64} (h : M a = .inr (t, fs)) (e : fs[j]? = some (.long v)) : cL t M a j = v := by
  unfold cL
  rw [cVt_of j h, e]
theorem vLo_c {M M1 : Hp} {b : Nat} (j : Nat) (h1 : cVt 2 M1 b 8 = cVt 2 M b 8) (h2 : RFc (M1 (rA 2 M b 8)) = RFc (M (rA 2 M b 8))) (h3 : ∀ i l, i < 24 → RFc (M (rA 2 M b 8)) i = some l → cVt 9 M1 l j = cVt 9 M l j) : vLo j M1 b = vLo j M b := by
  funext i
  unfold vLo
  rw [rA_c h1, h2]
  by_cases q : i < 24
  · rw [if_pos q, if_pos q]
    cases e : RFc (M (rA 2 M b 8)) i with
    | none => rfl
    | some l => exact congrArg Int64.toInt (cL_c (h3 i l q e))
  · rw [if_neg q, if_neg q]
theorem lrow_cases (P : Nat → (Hp → Nat → Nat → Int) → Prop) (h3 : P 3 (vLo 12)) (hd : ∀ r, P r (fun _ _ _ => 0)) (r : Nat) : P r (lrow r) := by
  unfold lrow
  split
  · exact h3
  · exact hd _
theorem lf_c {M M1 : Hp} {b : Nat} (h3 : vLo 12 M1 b = vLo 12 M b) (j : Nat) : lf j M1 b = lf j M b := by
  unfold lf
  split
  · rw [lrow_cases (fun _ f => f M1 b = f M b) h3 (fun _ => rfl) ((j - 32) % 16)]
  · rfl
theorem lf_key {M : Hp} {b r i : Nat} (hr : r < 16) : lf (lKey r i) M b = lrow r M b i := by
  unfold lf
  have e1 : (lKey r i - 32) % 16 = r := by
    unfold lKey
    omega
  have e2 : (lKey r i - 32) / 16 = i := by
    unfold lKey
    omega
  rw [e1, e2, if_pos (by unfold lKey; omega)]
theorem lf_one {M M1 : Hp} {b i : Nat} (h : ∀ k, k ≠ i → vLo 12 M1 b k = vLo 12 M b k) (j : Nat) (hj : j ≠ lKey 3 i) : lf j M1 b = lf j M b := by
  unfold lf
  by_cases q : 32 ≤ j
  · rw [if_pos q, if_pos q]
    by_cases w : (j - 32) % 16 = 3
    · rw [w]
      exact h _ (fun z => hj (by
        unfold lKey
        omega))
    · have e : ∀ r, r ≠ 3 → lrow r = fun _ _ _ => 0 := fun r hr => by
        unfold lrow
        split
        · exact absurd rfl hr
        · rfl
      rw [e _ w]
  · rw [if_neg q, if_neg q]
theorem xf_key {r i : Nat} (M : Hp) (b : Nat) : xf (lKey r i) M b = lf (lKey r i) M b := by
  have h : 32 ≤ lKey r i := by
    unfold lKey
    omega
  have g : ∀ n : Nat, 32 ≤ n → xf n = fun M b => lf n M b := fun n hn => by
    unfold xf
    split <;> first | omega | rfl
  exact congrFun (congrFun (g _ h) M) b
theorem vLf_c {M M1 : Hp} {b : Nat} (j : Nat) (h1 : cVt 2 M1 b 12 = cVt 2 M b 12) (h2 : RFc (M1 (rA 2 M b 12)) = RFc (M (rA 2 M b 12))) (h3 : ∀ i l, i < 1000 → RFc (M (rA 2 M b 12)) i = some l → cVt 3 M1 l j = cVt 3 M l j) : vLf j M1 b = vLf j M b := by
  funext i
  unfold vLf
  rw [rA_c h1, h2]
  by_cases q : i < 1000
  · rw [if_pos q, if_pos q]
    cases e : RFc (M (rA 2 M b 12)) i with
    | none => rfl
    | some l => exact cV_c (h3 i l q e)
  · rw [if_neg q, if_neg q]
theorem vPl_c {M M1 : Hp} {b : Nat} (h1 : cVt 2 M1 b 12 = cVt 2 M b 12) (h2 : RFc (M1 (rA 2 M b 12)) = RFc (M (rA 2 M b 12))) (h3 : ∀ i l, i < 1000 → RFc (M (rA 2 M b 12)) i = some l → cVt 3 M1 l 1 = cVt 3 M l 1 ∧ ALc (M1 (rA 3 M l 1)) = ALc (M (rA 3 M l 1))) : vPl M1 b = vPl M b := by
  funext i
  unfold vPl
  rw [rA_c h1, h2]
  by_cases q : i < 1000
  · rw [if_pos q, if_pos q]
    cases e : RFc (M (rA 2 M b 12)) i with
    | none => rfl
    | some l =>
      show nI (ALc (M1 (rA 3 M1 l 1))) = nI (ALc (M (rA 3 M l 1)))
      rw [rA_c (h3 i l q e).1, (h3 i l q e).2]
  · rw [if_neg q, if_neg q]
theorem vLe_c {M M1 : Hp} {b : Nat} (h1 : cVt 2 M1 b 6 = cVt 2 M b 6) (h2 : IFc (M1 (rA 2 M b 6)) = IFc (M (rA 2 M b 6))) : vLe M1 b = vLe M b := by
  funext i
  unfold vLe
  rw [rA_c h1, h2]
theorem vEn_c {M M1 : Hp} {b : Nat} (h1 : cVt 2 M1 b 3 = cVt 2 M b 3) (h2 : IFc (M1 (rA 2 M b 3)) = IFc (M (rA 2 M b 3))) : vEn M1 b = vEn M b := by
  funext i
  unfold vEn
  rw [rA_c h1, h2]
theorem vHe_c {M M1 : Hp} {b : Nat} (h1 : cVt 2 M1 b 7 = cVt 2 M b 7) (h2 : RFc (M1 (rA 2 M b 7)) = RFc (M (rA 2 M b 7))) (h3 : ∀ i l, i < 6 → RFc (M (rA 2 M b 7)) i = some l → cVt 9 M1 l 0 = cVt 9 M l 0) : vHe M1 b = vHe M b := by
  funext i
  unfold vHe
  rw [rA_c h1, h2]
  by_cases q : i < 6
  · rw [if_pos q, if_pos q]
    cases e : RFc (M (rA 2 M b 7)) i with
    | none => rfl
    | some l => exact cV_c (h3 i l q e)
  · rw [if_neg q, if_neg q]
theorem vTe_c {M M1 : Hp} {b : Nat} (j : Nat) (h1 : cVt 2 M1 b 8 = cVt 2 M b 8) (h2 : RFc (M1 (rA 2 M b 8)) = RFc (M (rA 2 M b 8))) (h3 : ∀ i l, i < 24 → RFc (M (rA 2 M b 8)) i = some l → cVt 9 M1 l j = cVt 9 M l j) : vTe j M1 b = vTe j M b := by
  funext i
  unfold vTe
  rw [rA_c h1, h2]
  by_cases q : i < 24
  · rw [if_pos q, if_pos q]
    cases e : RFc (M (rA 2 M b 8)) i with
    | none => rfl
    | some l => exact cV_c (h3 i l q e)
  · rw [if_neg q, if_neg q]
theorem vWho_c {M M1 : Hp} {b : Nat} (h1 : cVt 2 M1 b 8 = cVt 2 M b 8) (h2 : RFc (M1 (rA 2 M b 8)) = RFc (M (rA 2 M b 8))) (h3 : ∀ i l, i < 24 → RFc (M (rA 2 M b 8)) i = some l → cVt 9 M1 l 1 = cVt 9 M l 1 ∧ cVt 4 M1 (rA 9 M l 1) 0 = cVt 4 M (rA 9 M l 1) 0) : vWho M1 b = vWho M b := by
  funext i
  unfold vWho
  rw [rA_c h1, h2]
  by_cases q : i < 24
  · rw [if_pos q, if_pos q]
    cases e : RFc (M (rA 2 M b 8)) i with
    | none => rfl
    | some l =>
      show cV 4 M1 (rA 9 M1 l 1) 0 = cV 4 M (rA 9 M l 1) 0
      rw [rA_c (h3 i l q e).1, cV_c (h3 i l q e).2]
  · rw [if_neg q, if_neg q]
theorem vKd_c {M M1 : Hp} {b : Nat} (h1 : cVt 2 M1 b 8 = cVt 2 M b 8) (h2 : RFc (M1 (rA 2 M b 8)) = RFc (M (rA 2 M b 8))) (h3 : ∀ i l, i < 24 → RFc (M (rA 2 M b 8)) i = some l → cVt 9 M1 l 1 = cVt 9 M l 1 ∧ cVt 4 M1 (rA 9 M l 1) 1 = cVt 4 M (rA 9 M l 1) 1) : vKd M1 b = vKd M b := by
  funext i
  unfold vKd
  rw [rA_c h1, h2]
  by_cases q : i < 24
  · rw [if_pos q, if_pos q]
    cases e : RFc (M (rA 2 M b 8)) i with
    | none => rfl
    | some l =>
      show cV 4 M1 (rA 9 M1 l 1) 1 = cV 4 M (rA 9 M l 1) 1
      rw [rA_c (h3 i l q e).1, cV_c (h3 i l q e).2]
  · rw [if_neg q, if_neg q]
theorem vEt_c {M M1 : Hp} {b : Nat} (h1 : cVt 2 M1 b 12 = cVt 2 M b 12) (h2 : RFc (M1 (rA 2 M b 12)) = RFc (M (rA 2 M b 12))) (h3 : ∀ i l, i < 1000 → RFc (M (rA 2 M b 12)) i = some l → cVt 3 M1 l 1 = cVt 3 M l 1 ∧ IFc (M1 (rA 3 M l 1)) = IFc (M (rA 3 M l 1))) : vEt M1 b = vEt M b := by
  funext z
  unfold vEt
  rw [rA_c h1, h2]
  have q : z % 1000 < 1000 := Nat.mod_lt _ (by decide)
  cases e : RFc (M (rA 2 M b 12)) (z % 1000) with
  | none => rfl
  | some l =>
    show IFc (M1 (rA 3 M1 l 1)) _ = IFc (M (rA 3 M l 1)) _
    rw [rA_c (h3 _ l q e).1, (h3 _ l q e).2]
theorem hrN_c {M M1 : Hp} (o : Option Nat) (h : ∀ u, o = some u → cVt 9 M1 u 0 = cVt 9 M u 0) : hrN M1 o = hrN M o := by
  cases o with
  | none => rfl
  | some u => exact cV_c (h u rfl)
theorem owN_c {M M1 : Hp} (o : Option Nat) (h : ∀ u, o = some u → cVt 2 M1 u 0 = cVt 2 M u 0) : owN M1 o = owN M o := by
  cases o with
  | none => rfl
  | some u => exact cV_c (h u rfl)
theorem vHr_c {M M1 : Hp} {b : Nat} (h1 : cVt 2 M1 b 8 = cVt 2 M b 8) (h2 : RFc (M1 (rA 2 M b 8)) = RFc (M (rA 2 M b 8))) (h3 : ∀ i l, i < 24 → RFc (M (rA 2 M b 8)) i = some l → cVt 9 M1 l 8 = cVt 9 M l 8 ∧ ∀ u, cR 9 M l 8 = some u → cVt 9 M1 u 0 = cVt 9 M u 0) : vHr M1 b = vHr M b := by
  funext i
  unfold vHr
  rw [rA_c h1, h2]
  by_cases q : i < 24
  · rw [if_pos q, if_pos q]
    cases e : RFc (M (rA 2 M b 8)) i with
    | none => rfl
    | some l =>
      show hrN M1 (cR 9 M1 l 8) = hrN M (cR 9 M l 8)
      rw [cR_c (h3 i l q e).1]
      exact hrN_c _ (h3 i l q e).2
  · rw [if_neg q, if_neg q]
theorem vOw_c {M M1 : Hp} {b : Nat} (h1 : cVt 2 M1 b 8 = cVt 2 M b 8) (h2 : RFc (M1 (rA 2 M b 8)) = RFc (M (rA 2 M b 8))) (h3 : ∀ i l, i < 24 → RFc (M (rA 2 M b 8)) i = some l → cVt 9 M1 l 1 = cVt 9 M l 1 ∧ cVt 4 M1 (rA 9 M l 1) 3 = cVt 4 M (rA 9 M l 1) 3 ∧ ∀ u, cR 4 M (rA 9 M l 1) 3 = some u → cVt 2 M1 u 0 = cVt 2 M u 0) : vOw M1 b = vOw M b := by
  funext i
  unfold vOw
  rw [rA_c h1, h2]
  by_cases q : i < 24
  · rw [if_pos q, if_pos q]
    cases e : RFc (M (rA 2 M b 8)) i with
    | none => rfl
    | some l =>
      show owN M1 (cR 4 M1 (rA 9 M1 l 1) 3) = owN M (cR 4 M (rA 9 M l 1) 3)
      rw [rA_c (h3 i l q e).1, cR_c (h3 i l q e).2.1]
      exact owN_c _ (h3 i l q e).2.2
  · rw [if_neg q, if_neg q]
theorem vTn_c {M M1 : Hp} {b : Nat} (h1 : cVt 2 M1 b 8 = cVt 2 M b 8) (h2 : RFc (M1 (rA 2 M b 8)) = RFc (M (rA 2 M b 8))) : vTn M1 b = vTn M b := by
  funext i
  unfold vTn
  rw [rA_c h1, h2]
theorem vRn_c {M M1 : Hp} {b : Nat} (h1 : cVt 2 M1 b 10 = cVt 2 M b 10) (h2 : RFc (M1 (rA 2 M b 10)) = RFc (M (rA 2 M b 10))) : vRn M1 b = vRn M b := by
  funext i
  unfold vRn
  rw [rA_c h1, h2]
theorem vRu_c {M M1 : Hp} {b : Nat} (j : Nat) (h1 : cVt 2 M1 b 10 = cVt 2 M b 10) (h2 : RFc (M1 (rA 2 M b 10)) = RFc (M (rA 2 M b 10))) (h3 : ∀ i l, i < 16 → RFc (M (rA 2 M b 10)) i = some l → cVt 6 M1 l j = cVt 6 M l j) : vRu j M1 b = vRu j M b := by
  funext i
  unfold vRu
  rw [rA_c h1, h2]
  by_cases q : i < 16
  · rw [if_pos q, if_pos q]
    cases e : RFc (M (rA 2 M b 10)) i with
    | none => rfl
    | some l => exact cV_c (h3 i l q e)
  · rw [if_neg q, if_neg q]
theorem vTm_c {M M1 : Hp} {b : Nat} (h1 : cVt 2 M1 b 10 = cVt 2 M b 10) (h2 : RFc (M1 (rA 2 M b 10)) = RFc (M (rA 2 M b 10))) (h3 : ∀ i l, i < 16 → RFc (M (rA 2 M b 10)) i = some l → cVt 6 M1 l 2 = cVt 6 M l 2 ∧ IFc (M1 (rA 6 M l 2)) = IFc (M (rA 6 M l 2))) : vTm M1 b = vTm M b := by
  funext i
  unfold vTm
  rw [rA_c h1, h2]
  by_cases q : i / 24 < 16
  · rw [if_pos q, if_pos q]
    cases e : RFc (M (rA 2 M b 10)) (i / 24) with
    | none => rfl
    | some l =>
      show IFc (M1 (rA 6 M1 l 2)) _ = IFc (M (rA 6 M l 2)) _
      rw [rA_c (h3 _ l q e).1, (h3 _ l q e).2]
  · rw [if_neg q, if_neg q]
theorem vMo_c {M M1 : Hp} {b : Nat} (h1 : cVt 2 M1 b 16 = cVt 2 M b 16) (h0 : cVt 1 M1 (rA 2 M b 16) 0 = cVt 1 M (rA 2 M b 16) 0) (h2 : RFc (M1 (rA 1 M (rA 2 M b 16) 0)) = RFc (M (rA 1 M (rA 2 M b 16) 0))) (h3 : ∀ i l, i < 120 → RFc (M (rA 1 M (rA 2 M b 16) 0)) i = some l → cVt 9 M1 l 0 = cVt 9 M l 0) : vMo M1 b = vMo M b := by
  funext i
  unfold vMo
  rw [rA_c h1, rA_c h0, h2]
  by_cases q : i < 120
  · rw [if_pos q, if_pos q]
    cases e : RFc (M (rA 1 M (rA 2 M b 16) 0)) i with
    | none => rfl
    | some l => exact cV_c (h3 i l q e)
  · rw [if_neg q, if_neg q]
theorem vDs_c {M M1 : Hp} {b : Nat} (f g : Nat) (h1 : cVt 2 M1 b f = cVt 2 M b f) (h0 : cVt 1 M1 (rA 2 M b f) g = cVt 1 M (rA 2 M b f) g) (h2 : IFc (M1 (rA 1 M (rA 2 M b f) g)) = IFc (M (rA 1 M (rA 2 M b f) g))) : vDs f g M1 b = vDs f g M b := by
  funext i
  unfold vDs
  rw [rA_c h1, rA_c h0, h2]
theorem vUn_c {M M1 : Hp} {b : Nat} (h1 : cVt 2 M1 b 18 = cVt 2 M b 18) (h0 : cVt 10 M1 (rA 2 M b 18) 0 = cVt 10 M (rA 2 M b 18) 0) (h2 : IFc (M1 (rA 10 M (rA 2 M b 18) 0)) = IFc (M (rA 10 M (rA 2 M b 18) 0))) : vUn M1 b = vUn M b := by
  funext i
  unfold vUn
  rw [rA_c h1, rA_c h0, h2]
/-- whose an object is, and the how manyth of its kind there -/
def OC (B : Nat → Nat × Nat) (K : Kp) (L : List Nat) (M : Hp) : Prop := (∀ a, isk K L a 2 0 → ∀ j, j ∈ [3, 6, 7, 8, 10, 12, 16, 18] → B (rA 2 M a j) = (a, 0)) ∧ (∀ a, isk K L a 2 0 → B (rA 2 M a 17) = (a, 1)) ∧ (∀ a, isk K L a 2 0 → ∀ j, j < 3 → B (rA 1 M (rA 2 M a 16) j) = (a, 0)) ∧ (∀ a, isk K L a 2 0 → ∀ j, j < 3 → B (rA 1 M (rA 2 M a 17) j) = (a, 1)) ∧ (∀ a, isk K L a 2 0 → B (rA 10 M (rA 2 M a 18) 0) = (a, 0)) ∧ (∀ a, isk K L a 2 0 → ∀ i l, i < 1000 → RFc (M (rA 2 M a 12)) i = some l → B l = (a, i) ∧ B (rA 3 M l 1) = (a, i)) ∧ (∀ a, isk K L a 2 0 → ∀ i l, i < 24 → RFc (M (rA 2 M a 8)) i = some l → B l = (a, i)) ∧ (∀ a, isk K L a 2 0 → ∀ i l, i < 16 → RFc (M (rA 2 M a 10)) i = some l → B l = (a, i) ∧ B (rA 6 M l 2) = (a, i)) ∧ (∀ a, isk K L a 2 0 → ∀ i l, i < 24 → RFc (M (rA 2 M a 8)) i = some l → cV 9 M l 0 = nI i) ∧ (∀ a, isk K L a 2 0 → ∀ i l, i < 6 → RFc (M (rA 2 M a 7)) i = some l → ∃ k, k < 24 ∧ RFc (M (rA 2 M a 8)) k = some l) ∧ (∀ a, isk K L a 2 0 → isk K L (rA 1 M (rA 2 M a 16) 0) 63 120) ∧ (∀ a, isk K L a 2 0 → isk K L (rA 1 M (rA 2 M a 17) 0) 63 20)
theorem OC.e0 {B : Nat → Nat × Nat} {K : Kp} {L : List Nat} {M : Hp} (h : OC B K L M) : ∀ a, isk K L a 2 0 → ∀ j, j ∈ [3, 6, 7, 8, 10, 12, 16, 18] → B (rA 2 M a j) = (a, 0) := h.1
theorem OC.e17 {B : Nat → Nat × Nat} {K : Kp} {L : List Nat} {M : Hp} (h : OC B K L M) : ∀ a, isk K L a 2 0 → B (rA 2 M a 17) = (a, 1) := h.2.1
theorem OC.d16 {B : Nat → Nat × Nat} {K : Kp} {L : List Nat} {M : Hp} (h : OC B K L M) : ∀ a, isk K L a 2 0 → ∀ j, j < 3 → B (rA 1 M (rA 2 M a 16) j) = (a, 0) := h.2.2.1
theorem OC.d17 {B : Nat → Nat × Nat} {K : Kp} {L : List Nat} {M : Hp} (h : OC B K L M) : ∀ a, isk K L a 2 0 → ∀ j, j < 3 → B (rA 1 M (rA 2 M a 17) j) = (a, 1) := h.2.2.2.1
theorem OC.un {B : Nat → Nat × Nat} {K : Kp} {L : List Nat} {M : Hp} (h : OC B K L M) : ∀ a, isk K L a 2 0 → B (rA 10 M (rA 2 M a 18) 0) = (a, 0) := h.2.2.2.2.1
theorem OC.lf {B : Nat → Nat × Nat} {K : Kp} {L : List Nat} {M : Hp} (h : OC B K L M) : ∀ a, isk K L a 2 0 → ∀ i l, i < 1000 → RFc (M (rA 2 M a 12)) i = some l → B l = (a, i) ∧ B (rA 3 M l 1) = (a, i) := h.2.2.2.2.2.1
theorem OC.te {B : Nat → Nat × Nat} {K : Kp} {L : List Nat} {M : Hp} (h : OC B K L M) : ∀ a, isk K L a 2 0 → ∀ i l, i < 24 → RFc (M (rA 2 M a 8)) i = some l → B l = (a, i) := h.2.2.2.2.2.2.1
theorem OC.ru {B : Nat → Nat × Nat} {K : Kp} {L : List Nat} {M : Hp} (h : OC B K L M) : ∀ a, isk K L a 2 0 → ∀ i l, i < 16 → RFc (M (rA 2 M a 10)) i = some l → B l = (a, i) ∧ B (rA 6 M l 2) = (a, i) := h.2.2.2.2.2.2.2.1
theorem OC.nm {B : Nat → Nat × Nat} {K : Kp} {L : List Nat} {M : Hp} (h : OC B K L M) : ∀ a, isk K L a 2 0 → ∀ i l, i < 24 → RFc (M (rA 2 M a 8)) i = some l → cV 9 M l 0 = nI i := h.2.2.2.2.2.2.2.2.1
theorem OC.hd {B : Nat → Nat × Nat} {K : Kp} {L : List Nat} {M : Hp} (h : OC B K L M) : ∀ a, isk K L a 2 0 → ∀ i l, i < 6 → RFc (M (rA 2 M a 7)) i = some l → ∃ k, k < 24 ∧ RFc (M (rA 2 M a 8)) k = some l := h.2.2.2.2.2.2.2.2.2.1
theorem OC.n16 {B : Nat → Nat × Nat} {K : Kp} {L : List Nat} {M : Hp} (h : OC B K L M) : ∀ a, isk K L a 2 0 → isk K L (rA 1 M (rA 2 M a 16) 0) 63 120 := h.2.2.2.2.2.2.2.2.2.2.1
theorem OC.n17 {B : Nat → Nat × Nat} {K : Kp} {L : List Nat} {M : Hp} (h : OC B K L M) : ∀ a, isk K L a 2 0 → isk K L (rA 1 M (rA 2 M a 17) 0) 63 20 := h.2.2.2.2.2.2.2.2.2.2.2
/-- of the Houses only a is seen otherwise than in M0: there X and Y are seen -/
def VC (B : Nat → Nat × Nat) (K : Kp) (L : List Nat) (M0 M : Hp) (a : Nat) (X : Nat → Int) (Y : Nat → Nat → Int32) : Prop := (∀ b, isk K L b 2 0 → b ≠ a → cfx M b = cfx M0 b ∧ cax M b = cax M0 b) ∧ cfx M a = X ∧ cax M a = Y ∧ OC B K L M
theorem VC.rf {B : Nat → Nat × Nat} {K : Kp} {L : List Nat} {M : Hp} (a : Nat) (h : OC B K L M) : VC B K L M M a (cfx M a) (cax M a) := ⟨fun _ _ _ => ⟨rfl, rfl⟩, rfl, rfl, h⟩
theorem VC.st {B B' : Nat → Nat × Nat} {K : Kp} {L : List Nat} {M0 M M1 : Hp} {a : Nat} {X X' : Nat → Int} {Y Y' : Nat → Nat → Int32} (h : VC B K L M0 M a X Y) (g : VC B' K L M M1 a X' Y') : VC B' K L M0 M1 a X' Y' := ⟨fun b hb hn => ⟨((g.1 b hb hn).1).trans (h.1 b hb hn).1, ((g.1 b hb hn).2).trans (h.1 b hb hn).2⟩, g.2.1, g.2.2.1, g.2.2.2⟩
theorem cax_up {M M1 : Hp} {b : Nat} (j0 : Nat) {f : Nat → Int32} (h : ∀ j, j ≠ j0 → cax M1 b j = cax M b j) (h0 : cax M1 b j0 = f) : cax M1 b = va_up (cax M b) j0 f := by
  funext j
  by_cases q : j = j0
  · rw [q, va_up_self, h0]
  · rw [va_up_ne _ _ q, h j q]
theorem cfx_up {M M1 : Hp} {b : Nat} (j0 : Nat) {f : Int} (h : ∀ j, j ≠ j0 → cfx M1 b j = cfx M b j) (h0 : cfx M1 b j0 = f) : cfx M1 b = va_up (cfx M b) j0 f := by
  funext j
  by_cases q : j = j0
  · rw [q, va_up_self, h0]
  · rw [va_up_ne _ _ q, h j q]
/-- kinds of what belongs to a House -/
theorem KH {cy : Nat → ClassId} {K : Kp} {L : List Nat} {M : Hp} {b : Nat} (hW : WOK cy K L M) (hb : isk K L b 2 0) : isk K L (rA 2 M b 3) 51 12 ∧ isk K L (rA 2 M b 6) 52 6 ∧ isk K L (rA 2 M b 7) 61 6 ∧ isk K L (rA 2 M b 8) 62 24 ∧ isk K L (rA 2 M b 10) 20 16 ∧ isk K L (rA 2 M b 12) 18 1000 ∧ isk K L (rA 2 M b 16) 1 0 ∧ isk K L (rA 2 M b 17) 1 0 ∧ isk K L (rA 2 M b 18) 10 0 := by
  obtain ⟨v0, v1, v2, v3, v4, v5, v6, v7, v8, v9, v10, v11, v12, v13, v14, v15, v16, v17, v18, v19, hM, h3, h4, h5, h6, h7, h8, h9, h10, h11, h12, h13, h16, h17, h18, h19⟩ := hW.open_2 hb
  rw [rA_of (j := 3) (r := v3) hM rfl, rA_of (j := 6) (r := v6) hM rfl, rA_of (j := 7) (r := v7) hM rfl, rA_of (j := 8) (r := v8) hM rfl, rA_of (j := 10) (r := v10) hM rfl, rA_of (j := 12) (r := v12) hM rfl, rA_of (j := 16) (r := v16) hM rfl, rA_of (j := 17) (r := v17) hM rfl, rA_of (j := 18) (r := v18) hM rfl]
  exact ⟨h3, h6, h7, h8, h10, h12, h16, h17, h18⟩
theorem KD {cy : Nat → ClassId} {K : Kp} {L : List Nat} {M : Hp} {b : Nat} (hW : WOK cy K L M) (hb : isk K L b 1 0) : ∃ n, isk K L (rA 1 M b 0) 63 n ∧ isk K L (rA 1 M b 1) 56 n ∧ isk K L (rA 1 M b 2) 57 n := by
  obtain ⟨n, v0, v1, v2, v3, hM, h0, h1, h2, h3, _⟩ := hW.open_1 hb
  rw [rA_of (j := 0) (r := v0) hM rfl, rA_of (j := 1) (r := v1) hM rfl, rA_of (j := 2) (r := v2) hM rfl]
  exact ⟨n, h0, h1, h2⟩
theorem KU {cy : Nat → ClassId} {K : Kp} {L : List Nat} {M : Hp} {b : Nat} (hW : WOK cy K L M) (hb : isk K L b 10 0) : isk K L (rA 10 M b 0) 55 60 := by
  obtain ⟨v0, v1, v2, hM, h0⟩ := hW.open_10 hb
  rw [rA_of (j := 0) (r := v0) hM rfl]
  exact h0
theorem KR {cy : Nat → ClassId} {K : Kp} {L : List Nat} {M : Hp} {b : Nat} (hW : WOK cy K L M) (hb : isk K L b 6 0) : isk K L (rA 6 M b 2) 54 24 := by
  obtain ⟨v0, v1, v2, hM, h0⟩ := hW.open_6 hb
  rw [rA_of (j := 2) (r := v2) hM rfl]
  exact h0
theorem KL {cy : Nat → ClassId} {K : Kp} {L : List Nat} {M : Hp} {b : Nat} (hW : WOK cy K L M) (hb : isk K L b 3 0) : ∃ n, isk K L (rA 3 M b 1) 53 n := by
  obtain ⟨n, v0, v1, v2, hM, h0, _⟩ := hW.open_3 hb
  rw [rA_of (j := 1) (r := v1) hM rfl]
  exact ⟨n, h0⟩
theorem KT {cy : Nat → ClassId} {K : Kp} {L : List Nat} {M : Hp} {b : Nat} (hW : WOK cy K L M) (hb : isk K L b 9 0) : isk K L (rA 9 M b 1) 4 0 ∧ iskN K L (cR 9 M b 8) 9 0 := by
  obtain ⟨v0, v1, v2, v3, v4, v5, v6, v7, v8, v9, v10, v11, v12, v13, v14, v15, hM, h0, h1, h4, h8⟩ := hW.open_9 hb
  rw [rA_of (j := 1) (r := v1) hM rfl, cR_q (j := 8) (q := v8) hM rfl]
  exact ⟨h1, h8⟩
theorem KP {cy : Nat → ClassId} {K : Kp} {L : List Nat} {M : Hp} {b : Nat} (hW : WOK cy K L M) (hb : isk K L b 4 0) : iskN K L (cR 4 M b 3) 2 0 := by
  obtain ⟨v0, v1, v2, v3, hM, h3⟩ := hW.open_4 hb
  rw [cR_q (j := 3) (q := v3) hM rfl]
  exact h3
theorem KA12 {cy : Nat → ClassId} {K : Kp} {L : List Nat} {M : Hp} {r n i l : Nat} (hW : WOK cy K L M) (hr : isk K L r 18 n) (hi : i < n) (h : RFc (M r) i = some l) : isk K L l 3 0 := by
  obtain ⟨f, h1, h2⟩ := hW.open_18 hr
  rw [RFc_of h1] at h
  exact h2 i hi l h
theorem KA8 {cy : Nat → ClassId} {K : Kp} {L : List Nat} {M : Hp} {r n i l : Nat} (hW : WOK cy K L M) (hr : isk K L r 62 n) (hi : i < n) (h : RFc (M r) i = some l) : isk K L l 9 0 := by
  obtain ⟨f, h1, h2⟩ := hW.open_62 hr
  rw [RFc_of h1] at h
  exact h2 i hi l h
theorem KA10 {cy : Nat → ClassId} {K : Kp} {L : List Nat} {M : Hp} {r n i l : Nat} (hW : WOK cy K L M) (hr : isk K L r 20 n) (hi : i < n) (h : RFc (M r) i = some l) : isk K L l 6 0 := by
  obtain ⟨f, h1, h2⟩ := hW.open_20 hr
  rw [RFc_of h1] at h
  exact h2 i hi l h
theorem KA7 {cy : Nat → ClassId} {K : Kp} {L : List Nat} {M : Hp} {r n i l : Nat} (hW : WOK cy K L M) (hr : isk K L r 61 n) (hi : i < n) (h : RFc (M r) i = some l) : isk K L l 9 0 := by
  obtain ⟨f, h1, h2⟩ := hW.open_61 hr
  rw [RFc_of h1] at h
  exact h2 i hi l h
theorem KA0 {cy : Nat → ClassId} {K : Kp} {L : List Nat} {M : Hp} {r n i l : Nat} (hW : WOK cy K L M) (hr : isk K L r 63 n) (hi : i < n) (h : RFc (M r) i = some l) : isk K L l 9 0 := by
  obtain ⟨f, h1, h2⟩ := hW.open_63 hr
  rw [RFc_of h1] at h
  exact h2 i hi l h
theorem cV_sF_self {M : Hp} {x j t : Nat} {fs : List Value} {v : Int32} (hx : M x = .inr (t, fs)) (hj : j < fs.length) : cV t (sF M x j (.int v)) x j = v := by
  unfold cV
  rw [cVt_sF_self hx hj]
theorem x1_c {M M1 : Hp} {b : Nat} (f : Nat) (h1 : cVt 2 M1 b f = cVt 2 M b f) (h0 : cVt 1 M1 (rA 2 M b f) 3 = cVt 1 M (rA 2 M b f) 3) : (cV 1 M1 (rA 2 M1 b f) 3).toInt = (cV 1 M (rA 2 M b f) 3).toInt := by rw [rA_c h1, cV_c h0]
theorem x10_c {M M1 : Hp} {b : Nat} (g : Nat) (h1 : cVt 2 M1 b 18 = cVt 2 M b 18) (h0 : cVt 10 M1 (rA 2 M b 18) g = cVt 10 M (rA 2 M b 18) g) : (cV 10 M1 (rA 2 M1 b 18) g).toInt = (cV 10 M (rA 2 M b 18) g).toInt := by rw [rA_c h1, cV_c h0]
theorem OC.c {B : Nat → Nat × Nat} {K : Kp} {L : List Nat} {M M1 : Hp} (h : OC B K L M) (v2 : ∀ a, isk K L a 2 0 → ∀ j, j ∈ [3, 6, 7, 8, 10, 12, 16, 18, 17] → cVt 2 M1 a j = cVt 2 M a j) (v1 : ∀ a, isk K L a 2 0 → ∀ j, j < 3 → cVt 1 M1 (rA 2 M a 16) j = cVt 1 M (rA 2 M a 16) j ∧ cVt 1 M1 (rA 2 M a 17) j = cVt 1 M (rA 2 M a 17) j) (v10 : ∀ a, isk K L a 2 0 → cVt 10 M1 (rA 2 M a 18) 0 = cVt 10 M (rA 2 M a 18) 0) (v6 : ∀ a, isk K L a 2 0 → ∀ i l, i < 16 → RFc (M (rA 2 M a 10)) i = some l → cVt 6 M1 l 2 = cVt 6 M l 2) (r12 : ∀ a, isk K L a 2 0 → RFc (M1 (rA 2 M a 12)) = RFc (M (rA 2 M a 12))) (r8 : ∀ a, isk K L a 2 0 → RFc (M1 (rA 2 M a 8)) = RFc (M (rA 2 M a 8))) (r10 : ∀ a, isk K L a 2 0 → RFc (M1 (rA 2 M a 10)) = RFc (M (rA 2 M a 10))) (v90 : ∀ a, isk K L a 2 0 → ∀ i l, i < 24 → RFc (M (rA 2 M a 8)) i = some l → cVt 9 M1 l 0 = cVt 9 M l 0) (r7 : ∀ a, isk K L a 2 0 → RFc (M1 (rA 2 M a 7)) = RFc (M (rA 2 M a 7))) (v3 : ∀ a, isk K L a 2 0 → ∀ i l, i < 1000 → RFc (M (rA 2 M a 12)) i = some l → cVt 3 M1 l 1 = cVt 3 M l 1) : OC B K L M1 := by
  have w2 : ∀ a, isk K L a 2 0 → ∀ j, j ∈ [3, 6, 7, 8, 10, 12, 16, 18, 17] → rA 2 M1 a j = rA 2 M a j := fun a ha j hj => rA_c (v2 a ha j hj)
  refine ⟨fun a ha j hj => ?_, fun a ha => ?_, fun a ha j hj => ?_, fun a ha j hj => ?_, fun a ha => ?_, fun a ha i l hi hl => ?_, fun a ha i l hi hl => ?_, fun a ha i l hi hl => ?_, fun a ha i l hi hl => ?_, fun a ha i l hi hl => ?_, fun a ha => ?_, fun a ha => ?_⟩
  · rw [w2 a ha j (by revert hj; simp only [List.mem_cons, List.not_mem_nil, or_false]; omega)]
    exact h.e0 a ha j hj
  · rw [w2 a ha 17 (by decide)]
    exact h.e17 a ha
  · rw [w2 a ha 16 (by decide), rA_c (v1 a ha j hj).1]
    exact h.d16 a ha j hj
  · rw [w2 a ha 17 (by decide), rA_c (v1 a ha j hj).2]
    exact h.d17 a ha j hj
  · rw [w2 a ha 18 (by decide), rA_c (v10 a ha)]
    exact h.un a ha
  · rw [w2 a ha 12 (by decide), r12 a ha] at hl
    rw [rA_c (v3 a ha i l hi hl)]
    exact h.lf a ha i l hi hl
  · rw [w2 a ha 8 (by decide), r8 a ha] at hl
    exact h.te a ha i l hi hl
  · rw [w2 a ha 10 (by decide), r10 a ha] at hl
    rw [rA_c (v6 a ha i l hi hl)]
    exact h.ru a ha i l hi hl
  · rw [w2 a ha 8 (by decide), r8 a ha] at hl
    rw [cV_c (v90 a ha i l hi hl)]
    exact h.nm a ha i l hi hl
  · rw [w2 a ha 7 (by decide), r7 a ha] at hl
    obtain ⟨k, hk, e⟩ := h.hd a ha i l hi hl
    exact ⟨k, hk, by rw [w2 a ha 8 (by decide), r8 a ha]; exact e⟩
  · rw [w2 a ha 16 (by decide), rA_c (v1 a ha 0 (by decide)).1]
    exact h.n16 a ha
  · rw [w2 a ha 17 (by decide), rA_c (v1 a ha 0 (by decide)).2]
    exact h.n17 a ha
theorem VC.f2 {cy : Nat → ClassId} {B : Nat → Nat × Nat} {K : Kp} {L : List Nat} {M0 M : Hp} {a  : Nat} {X : Nat → Int} {Y : Nat → Nat → Int32} {fs : List Value} {v : Int32} (h : VC B K L M0 M a X Y) (hW : WOK cy K L M) (ha : isk K L a 2 0) (hx : M a = .inr (2, fs)) (hl : 2 < fs.length) : VC B K L M0 (sF M a 2 (.int v)) a (va_up X 1 v.toInt) Y := by
  obtain ⟨h1, h2, h3, hB⟩ := h
  have rows : ∀ b, cax (sF M a 2 (.int v)) b = cax M b := fun b => funext fun j => rowf_cases (fun j f => f (sF M a 2 (.int v)) b = f M b) (vPl_c (cVt_sF hx 2 _ 12 (Or.inr (Or.inl (by decide)))) (RFc_sF _ _ _ _ _) (fun _ _ _ _ => ⟨(cVt_sF hx 3 _ 1 (Or.inl (by decide))), (ALc_sF _ _ _ _ _)⟩)) (vLf_c 2 (cVt_sF hx 2 _ 12 (Or.inr (Or.inl (by decide)))) (RFc_sF _ _ _ _ _) (fun _ _ _ _ => (cVt_sF hx 3 _ 2 (Or.inl (by decide))))) (vLf_c 0 (cVt_sF hx 2 _ 12 (Or.inr (Or.inl (by decide)))) (RFc_sF _ _ _ _ _) (fun _ _ _ _ => (cVt_sF hx 3 _ 0 (Or.inl (by decide))))) (vWho_c (cVt_sF hx 2 _ 8 (Or.inr (Or.inl (by decide)))) (RFc_sF _ _ _ _ _) (fun _ _ _ _ => ⟨(cVt_sF hx 9 _ 1 (Or.inl (by decide))), (cVt_sF hx 4 _ 0 (Or.inl (by decide)))⟩)) (vTe_c 2 (cVt_sF hx 2 _ 8 (Or.inr (Or.inl (by decide)))) (RFc_sF _ _ _ _ _) (fun _ _ _ _ => (cVt_sF hx 9 _ 2 (Or.inl (by decide))))) (vTe_c 3 (cVt_sF hx 2 _ 8 (Or.inr (Or.inl (by decide)))) (RFc_sF _ _ _ _ _) (fun _ _ _ _ => (cVt_sF hx 9 _ 3 (Or.inl (by decide))))) (vTe_c 5 (cVt_sF hx 2 _ 8 (Or.inr (Or.inl (by decide)))) (RFc_sF _ _ _ _ _) (fun _ _ _ _ => (cVt_sF hx 9 _ 5 (Or.inl (by decide))))) (vTe_c 6 (cVt_sF hx 2 _ 8 (Or.inr (Or.inl (by decide)))) (RFc_sF _ _ _ _ _) (fun _ _ _ _ => (cVt_sF hx 9 _ 6 (Or.inl (by decide))))) (vTe_c 7 (cVt_sF hx 2 _ 8 (Or.inr (Or.inl (by decide)))) (RFc_sF _ _ _ _ _) (fun _ _ _ _ => (cVt_sF hx 9 _ 7 (Or.inl (by decide))))) (vKd_c (cVt_sF hx 2 _ 8 (Or.inr (Or.inl (by decide)))) (RFc_sF _ _ _ _ _) (fun _ _ _ _ => ⟨(cVt_sF hx 9 _ 1 (Or.inl (by decide))), (cVt_sF hx 4 _ 1 (Or.inl (by decide)))⟩)) (vHr_c (cVt_sF hx 2 _ 8 (Or.inr (Or.inl (by decide)))) (RFc_sF _ _ _ _ _) (fun _ _ _ _ => ⟨(cVt_sF hx 9 _ 8 (Or.inl (by decide))), fun _ _ => (cVt_sF hx 9 _ 0 (Or.inl (by decide)))⟩)) (vTe_c 4 (cVt_sF hx 2 _ 8 (Or.inr (Or.inl (by decide)))) (RFc_sF _ _ _ _ _) (fun _ _ _ _ => (cVt_sF hx 9 _ 4 (Or.inl (by decide))))) (vOw_c (cVt_sF hx 2 _ 8 (Or.inr (Or.inl (by decide)))) (RFc_sF _ _ _ _ _) (fun _ _ _ _ => ⟨(cVt_sF hx 9 _ 1 (Or.inl (by decide))), (cVt_sF hx 4 _ 3 (Or.inl (by decide))), fun _ _ => (cVt_sF hx 2 _ 0 (Or.inr (Or.inl (by decide))))⟩)) (vTn_c (cVt_sF hx 2 _ 8 (Or.inr (Or.inl (by decide)))) (RFc_sF _ _ _ _ _)) (vRn_c (cVt_sF hx 2 _ 10 (Or.inr (Or.inl (by decide)))) (RFc_sF _ _ _ _ _)) (vRu_c 0 (cVt_sF hx 2 _ 10 (Or.inr (Or.inl (by decide)))) (RFc_sF _ _ _ _ _) (fun _ _ _ _ => (cVt_sF hx 6 _ 0 (Or.inl (by decide))))) (vRu_c 1 (cVt_sF hx 2 _ 10 (Or.inr (Or.inl (by decide)))) (RFc_sF _ _ _ _ _) (fun _ _ _ _ => (cVt_sF hx 6 _ 1 (Or.inl (by decide))))) (vTm_c (cVt_sF hx 2 _ 10 (Or.inr (Or.inl (by decide)))) (RFc_sF _ _ _ _ _) (fun i9 l9 hi9 hl9 => ⟨(cVt_sF hx 6 _ 2 (Or.inl (by decide))), (IFc_sF _ _ _ _ _)⟩)) (vEn_c (cVt_sF hx 2 _ 3 (Or.inr (Or.inl (by decide)))) (IFc_sF _ _ _ _ _)) (vMo_c (cVt_sF hx 2 _ 16 (Or.inr (Or.inl (by decide)))) (cVt_sF hx 1 _ 0 (Or.inl (by decide))) (RFc_sF _ _ _ _ _) (fun _ _ _ _ => (cVt_sF hx 9 _ 0 (Or.inl (by decide))))) (vDs_c 16 1 (cVt_sF hx 2 _ 16 (Or.inr (Or.inl (by decide)))) (cVt_sF hx 1 _ 1 (Or.inl (by decide))) (IFc_sF _ _ _ _ _)) (vDs_c 16 2 (cVt_sF hx 2 _ 16 (Or.inr (Or.inl (by decide)))) (cVt_sF hx 1 _ 2 (Or.inl (by decide))) (IFc_sF _ _ _ _ _)) (vDs_c 17 1 (cVt_sF hx 2 _ 17 (Or.inr (Or.inl (by decide)))) (cVt_sF hx 1 _ 1 (Or.inl (by decide))) (IFc_sF _ _ _ _ _)) (vDs_c 17 2 (cVt_sF hx 2 _ 17 (Or.inr (Or.inl (by decide)))) (cVt_sF hx 1 _ 2 (Or.inl (by decide))) (IFc_sF _ _ _ _ _)) (vUn_c (cVt_sF hx 2 _ 18 (Or.inr (Or.inl (by decide)))) (cVt_sF hx 10 _ 0 (Or.inl (by decide))) (IFc_sF _ _ _ _ _)) (vLe_c (cVt_sF hx 2 _ 6 (Or.inr (Or.inl (by decide)))) (IFc_sF _ _ _ _ _)) (vHe_c (cVt_sF hx 2 _ 7 (Or.inr (Or.inl (by decide)))) (RFc_sF _ _ _ _ _) (fun _ _ _ _ => (cVt_sF hx 9 _ 0 (Or.inl (by decide))))) (vEt_c (cVt_sF hx 2 _ 12 (Or.inr (Or.inl (by decide)))) (RFc_sF _ _ _ _ _) (fun i9 l9 hi9 hl9 => ⟨(cVt_sF hx 3 _ 1 (Or.inl (by decide))), (IFc_sF _ _ _ _ _)⟩)) (fun _ => rfl) j
  have xs : ∀ b j, (b ≠ a ∨ j ≠ 1) → cfx (sF M a 2 (.int v)) b j = cfx M b j := fun b j hq => xf_cases (fun j f => (b ≠ a ∨ j ≠ 1) → f (sF M a 2 (.int v)) b = f M b) (fun hq => (congrArg Int32.toInt (cV_c (cVt_sF hx 2 _ 1 (Or.inr (Or.inl (by decide))))))) (fun hq => (congrArg Int32.toInt (cV_c (cVt_sF hx 2 _ 2 (Or.inr (Or.inr (hq.resolve_right (fun z => z rfl)))))))) (fun hq => (congrArg Int32.toInt (cV_c (cVt_sF hx 2 _ 9 (Or.inr (Or.inl (by decide))))))) (fun hq => (congrArg Int32.toInt (cV_c (cVt_sF hx 2 _ 11 (Or.inr (Or.inl (by decide))))))) (fun hq => (congrArg Int32.toInt (cV_c (cVt_sF hx 2 _ 4 (Or.inr (Or.inl (by decide))))))) (fun hq => (congrArg Int32.toInt (cV_c (cVt_sF hx 2 _ 5 (Or.inr (Or.inl (by decide))))))) (fun hq => (congrArg Int32.toInt (cV_c (cVt_sF hx 2 _ 15 (Or.inr (Or.inl (by decide))))))) (fun hq => (congrArg Int32.toInt (cV_c (cVt_sF hx 2 _ 0 (Or.inr (Or.inl (by decide))))))) (fun hq => (x1_c 16 (cVt_sF hx 2 _ 16 (Or.inr (Or.inl (by decide)))) (cVt_sF hx 1 _ 3 (Or.inl (by decide))))) (fun hq => (x1_c 17 (cVt_sF hx 2 _ 17 (Or.inr (Or.inl (by decide)))) (cVt_sF hx 1 _ 3 (Or.inl (by decide))))) (fun hq => (x10_c 2 (cVt_sF hx 2 _ 18 (Or.inr (Or.inl (by decide)))) (cVt_sF hx 10 _ 2 (Or.inl (by decide))))) (fun hq => (x10_c 1 (cVt_sF hx 2 _ 18 (Or.inr (Or.inl (by decide)))) (cVt_sF hx 10 _ 1 (Or.inl (by decide))))) (fun j => fun hq => (lf_c (vLo_c 12 (cVt_sF hx 2 _ 8 (Or.inr (Or.inl (by decide)))) (RFc_sF _ _ _ _ _) (fun _ _ _ _ => (cVt_sF hx 9 _ 12 (Or.inl (by decide))))) j)) j hq
  refine ⟨fun b hb q => ⟨(funext fun j => xs b j (Or.inl q)).trans (h1 b hb q).1, (rows b).trans (h1 b hb q).2⟩, ?_, (rows a).trans h3, hB.c (fun b hb j hj => (cVt_sF hx 2 _ j (Or.inr (Or.inl (by revert hj; simp only [List.mem_cons, List.not_mem_nil, or_false]; omega))))) (fun b hb j hj => ⟨(cVt_sF hx 1 _ j (Or.inl (by decide))), (cVt_sF hx 1 _ j (Or.inl (by decide)))⟩) (fun b hb => (cVt_sF hx 10 _ 0 (Or.inl (by decide)))) (fun b hb i l hi hl => (cVt_sF hx 6 _ 2 (Or.inl (by decide)))) (fun b hb => RFc_sF _ _ _ _ _) (fun b hb => RFc_sF _ _ _ _ _) (fun b hb => RFc_sF _ _ _ _ _) (fun b hb i l hi hl => (cVt_sF hx 9 _ 0 (Or.inl (by decide)))) (fun b hb => RFc_sF _ _ _ _ _) (fun b hb i l hi hl => (cVt_sF hx 3 _ 1 (Or.inl (by decide))))⟩
  rw [← h2]
  exact cfx_up 1 (fun j hj => xs a j (Or.inr hj)) (congrArg Int32.toInt (cV_sF_self hx hl))
theorem VC.f9 {cy : Nat → ClassId} {B : Nat → Nat × Nat} {K : Kp} {L : List Nat} {M0 M : Hp} {a  : Nat} {X : Nat → Int} {Y : Nat → Nat → Int32} {fs : List Value} {v : Int32} (h : VC B K L M0 M a X Y) (hW : WOK cy K L M) (ha : isk K L a 2 0) (hx : M a = .inr (2, fs)) (hl : 9 < fs.length) : VC B K L M0 (sF M a 9 (.int v)) a (va_up X 10 v.toInt) Y := by
  obtain ⟨h1, h2, h3, hB⟩ := h
  have rows : ∀ b, cax (sF M a 9 (.int v)) b = cax M b := fun b => funext fun j => rowf_cases (fun j f => f (sF M a 9 (.int v)) b = f M b) (vPl_c (cVt_sF hx 2 _ 12 (Or.inr (Or.inl (by decide)))) (RFc_sF _ _ _ _ _) (fun _ _ _ _ => ⟨(cVt_sF hx 3 _ 1 (Or.inl (by decide))), (ALc_sF _ _ _ _ _)⟩)) (vLf_c 2 (cVt_sF hx 2 _ 12 (Or.inr (Or.inl (by decide)))) (RFc_sF _ _ _ _ _) (fun _ _ _ _ => (cVt_sF hx 3 _ 2 (Or.inl (by decide))))) (vLf_c 0 (cVt_sF hx 2 _ 12 (Or.inr (Or.inl (by decide)))) (RFc_sF _ _ _ _ _) (fun _ _ _ _ => (cVt_sF hx 3 _ 0 (Or.inl (by decide))))) (vWho_c (cVt_sF hx 2 _ 8 (Or.inr (Or.inl (by decide)))) (RFc_sF _ _ _ _ _) (fun _ _ _ _ => ⟨(cVt_sF hx 9 _ 1 (Or.inl (by decide))), (cVt_sF hx 4 _ 0 (Or.inl (by decide)))⟩)) (vTe_c 2 (cVt_sF hx 2 _ 8 (Or.inr (Or.inl (by decide)))) (RFc_sF _ _ _ _ _) (fun _ _ _ _ => (cVt_sF hx 9 _ 2 (Or.inl (by decide))))) (vTe_c 3 (cVt_sF hx 2 _ 8 (Or.inr (Or.inl (by decide)))) (RFc_sF _ _ _ _ _) (fun _ _ _ _ => (cVt_sF hx 9 _ 3 (Or.inl (by decide))))) (vTe_c 5 (cVt_sF hx 2 _ 8 (Or.inr (Or.inl (by decide)))) (RFc_sF _ _ _ _ _) (fun _ _ _ _ => (cVt_sF hx 9 _ 5 (Or.inl (by decide))))) (vTe_c 6 (cVt_sF hx 2 _ 8 (Or.inr (Or.inl (by decide)))) (RFc_sF _ _ _ _ _) (fun _ _ _ _ => (cVt_sF hx 9 _ 6 (Or.inl (by decide))))) (vTe_c 7 (cVt_sF hx 2 _ 8 (Or.inr (Or.inl (by decide)))) (RFc_sF _ _ _ _ _) (fun _ _ _ _ => (cVt_sF hx 9 _ 7 (Or.inl (by decide))))) (vKd_c (cVt_sF hx 2 _ 8 (Or.inr (Or.inl (by decide)))) (RFc_sF _ _ _ _ _) (fun _ _ _ _ => ⟨(cVt_sF hx 9 _ 1 (Or.inl (by decide))), (cVt_sF hx 4 _ 1 (Or.inl (by decide)))⟩)) (vHr_c (cVt_sF hx 2 _ 8 (Or.inr (Or.inl (by decide)))) (RFc_sF _ _ _ _ _) (fun _ _ _ _ => ⟨(cVt_sF hx 9 _ 8 (Or.inl (by decide))), fun _ _ => (cVt_sF hx 9 _ 0 (Or.inl (by decide)))⟩)) (vTe_c 4 (cVt_sF hx 2 _ 8 (Or.inr (Or.inl (by decide)))) (RFc_sF _ _ _ _ _) (fun _ _ _ _ => (cVt_sF hx 9 _ 4 (Or.inl (by decide))))) (vOw_c (cVt_sF hx 2 _ 8 (Or.inr (Or.inl (by decide)))) (RFc_sF _ _ _ _ _) (fun _ _ _ _ => ⟨(cVt_sF hx 9 _ 1 (Or.inl (by decide))), (cVt_sF hx 4 _ 3 (Or.inl (by decide))), fun _ _ => (cVt_sF hx 2 _ 0 (Or.inr (Or.inl (by decide))))⟩)) (vTn_c (cVt_sF hx 2 _ 8 (Or.inr (Or.inl (by decide)))) (RFc_sF _ _ _ _ _)) (vRn_c (cVt_sF hx 2 _ 10 (Or.inr (Or.inl (by decide)))) (RFc_sF _ _ _ _ _)) (vRu_c 0 (cVt_sF hx 2 _ 10 (Or.inr (Or.inl (by decide)))) (RFc_sF _ _ _ _ _) (fun _ _ _ _ => (cVt_sF hx 6 _ 0 (Or.inl (by decide))))) (vRu_c 1 (cVt_sF hx 2 _ 10 (Or.inr (Or.inl (by decide)))) (RFc_sF _ _ _ _ _) (fun _ _ _ _ => (cVt_sF hx 6 _ 1 (Or.inl (by decide))))) (vTm_c (cVt_sF hx 2 _ 10 (Or.inr (Or.inl (by decide)))) (RFc_sF _ _ _ _ _) (fun i9 l9 hi9 hl9 => ⟨(cVt_sF hx 6 _ 2 (Or.inl (by decide))), (IFc_sF _ _ _ _ _)⟩)) (vEn_c (cVt_sF hx 2 _ 3 (Or.inr (Or.inl (by decide)))) (IFc_sF _ _ _ _ _)) (vMo_c (cVt_sF hx 2 _ 16 (Or.inr (Or.inl (by decide)))) (cVt_sF hx 1 _ 0 (Or.inl (by decide))) (RFc_sF _ _ _ _ _) (fun _ _ _ _ => (cVt_sF hx 9 _ 0 (Or.inl (by decide))))) (vDs_c 16 1 (cVt_sF hx 2 _ 16 (Or.inr (Or.inl (by decide)))) (cVt_sF hx 1 _ 1 (Or.inl (by decide))) (IFc_sF _ _ _ _ _)) (vDs_c 16 2 (cVt_sF hx 2 _ 16 (Or.inr (Or.inl (by decide)))) (cVt_sF hx 1 _ 2 (Or.inl (by decide))) (IFc_sF _ _ _ _ _)) (vDs_c 17 1 (cVt_sF hx 2 _ 17 (Or.inr (Or.inl (by decide)))) (cVt_sF hx 1 _ 1 (Or.inl (by decide))) (IFc_sF _ _ _ _ _)) (vDs_c 17 2 (cVt_sF hx 2 _ 17 (Or.inr (Or.inl (by decide)))) (cVt_sF hx 1 _ 2 (Or.inl (by decide))) (IFc_sF _ _ _ _ _)) (vUn_c (cVt_sF hx 2 _ 18 (Or.inr (Or.inl (by decide)))) (cVt_sF hx 10 _ 0 (Or.inl (by decide))) (IFc_sF _ _ _ _ _)) (vLe_c (cVt_sF hx 2 _ 6 (Or.inr (Or.inl (by decide)))) (IFc_sF _ _ _ _ _)) (vHe_c (cVt_sF hx 2 _ 7 (Or.inr (Or.inl (by decide)))) (RFc_sF _ _ _ _ _) (fun _ _ _ _ => (cVt_sF hx 9 _ 0 (Or.inl (by decide))))) (vEt_c (cVt_sF hx 2 _ 12 (Or.inr (Or.inl (by decide)))) (RFc_sF _ _ _ _ _) (fun i9 l9 hi9 hl9 => ⟨(cVt_sF hx 3 _ 1 (Or.inl (by decide))), (IFc_sF _ _ _ _ _)⟩)) (fun _ => rfl) j
  have xs : ∀ b j, (b ≠ a ∨ j ≠ 10) → cfx (sF M a 9 (.int v)) b j = cfx M b j := fun b j hq => xf_cases (fun j f => (b ≠ a ∨ j ≠ 10) → f (sF M a 9 (.int v)) b = f M b) (fun hq => (congrArg Int32.toInt (cV_c (cVt_sF hx 2 _ 1 (Or.inr (Or.inl (by decide))))))) (fun hq => (congrArg Int32.toInt (cV_c (cVt_sF hx 2 _ 2 (Or.inr (Or.inl (by decide))))))) (fun hq => (congrArg Int32.toInt (cV_c (cVt_sF hx 2 _ 9 (Or.inr (Or.inr (hq.resolve_right (fun z => z rfl)))))))) (fun hq => (congrArg Int32.toInt (cV_c (cVt_sF hx 2 _ 11 (Or.inr (Or.inl (by decide))))))) (fun hq => (congrArg Int32.toInt (cV_c (cVt_sF hx 2 _ 4 (Or.inr (Or.inl (by decide))))))) (fun hq => (congrArg Int32.toInt (cV_c (cVt_sF hx 2 _ 5 (Or.inr (Or.inl (by decide))))))) (fun hq => (congrArg Int32.toInt (cV_c (cVt_sF hx 2 _ 15 (Or.inr (Or.inl (by decide))))))) (fun hq => (congrArg Int32.toInt (cV_c (cVt_sF hx 2 _ 0 (Or.inr (Or.inl (by decide))))))) (fun hq => (x1_c 16 (cVt_sF hx 2 _ 16 (Or.inr (Or.inl (by decide)))) (cVt_sF hx 1 _ 3 (Or.inl (by decide))))) (fun hq => (x1_c 17 (cVt_sF hx 2 _ 17 (Or.inr (Or.inl (by decide)))) (cVt_sF hx 1 _ 3 (Or.inl (by decide))))) (fun hq => (x10_c 2 (cVt_sF hx 2 _ 18 (Or.inr (Or.inl (by decide)))) (cVt_sF hx 10 _ 2 (Or.inl (by decide))))) (fun hq => (x10_c 1 (cVt_sF hx 2 _ 18 (Or.inr (Or.inl (by decide)))) (cVt_sF hx 10 _ 1 (Or.inl (by decide))))) (fun j => fun hq => (lf_c (vLo_c 12 (cVt_sF hx 2 _ 8 (Or.inr (Or.inl (by decide)))) (RFc_sF _ _ _ _ _) (fun _ _ _ _ => (cVt_sF hx 9 _ 12 (Or.inl (by decide))))) j)) j hq
  refine ⟨fun b hb q => ⟨(funext fun j => xs b j (Or.inl q)).trans (h1 b hb q).1, (rows b).trans (h1 b hb q).2⟩, ?_, (rows a).trans h3, hB.c (fun b hb j hj => (cVt_sF hx 2 _ j (Or.inr (Or.inl (by revert hj; simp only [List.mem_cons, List.not_mem_nil, or_false]; omega))))) (fun b hb j hj => ⟨(cVt_sF hx 1 _ j (Or.inl (by decide))), (cVt_sF hx 1 _ j (Or.inl (by decide)))⟩) (fun b hb => (cVt_sF hx 10 _ 0 (Or.inl (by decide)))) (fun b hb i l hi hl => (cVt_sF hx 6 _ 2 (Or.inl (by decide)))) (fun b hb => RFc_sF _ _ _ _ _) (fun b hb => RFc_sF _ _ _ _ _) (fun b hb => RFc_sF _ _ _ _ _) (fun b hb i l hi hl => (cVt_sF hx 9 _ 0 (Or.inl (by decide)))) (fun b hb => RFc_sF _ _ _ _ _) (fun b hb i l hi hl => (cVt_sF hx 3 _ 1 (Or.inl (by decide))))⟩
  rw [← h2]
  exact cfx_up 10 (fun j hj => xs a j (Or.inr hj)) (congrArg Int32.toInt (cV_sF_self hx hl))
theorem VC.f11 {cy : Nat → ClassId} {B : Nat → Nat × Nat} {K : Kp} {L : List Nat} {M0 M : Hp} {a  : Nat} {X : Nat → Int} {Y : Nat → Nat → Int32} {fs : List Value} {v : Int32} (h : VC B K L M0 M a X Y) (hW : WOK cy K L M) (ha : isk K L a 2 0) (hx : M a = .inr (2, fs)) (hl : 11 < fs.length) : VC B K L M0 (sF M a 11 (.int v)) a (va_up X 11 v.toInt) Y := by
  obtain ⟨h1, h2, h3, hB⟩ := h
  have rows : ∀ b, cax (sF M a 11 (.int v)) b = cax M b := fun b => funext fun j => rowf_cases (fun j f => f (sF M a 11 (.int v)) b = f M b) (vPl_c (cVt_sF hx 2 _ 12 (Or.inr (Or.inl (by decide)))) (RFc_sF _ _ _ _ _) (fun _ _ _ _ => ⟨(cVt_sF hx 3 _ 1 (Or.inl (by decide))), (ALc_sF _ _ _ _ _)⟩)) (vLf_c 2 (cVt_sF hx 2 _ 12 (Or.inr (Or.inl (by decide)))) (RFc_sF _ _ _ _ _) (fun _ _ _ _ => (cVt_sF hx 3 _ 2 (Or.inl (by decide))))) (vLf_c 0 (cVt_sF hx 2 _ 12 (Or.inr (Or.inl (by decide)))) (RFc_sF _ _ _ _ _) (fun _ _ _ _ => (cVt_sF hx 3 _ 0 (Or.inl (by decide))))) (vWho_c (cVt_sF hx 2 _ 8 (Or.inr (Or.inl (by decide)))) (RFc_sF _ _ _ _ _) (fun _ _ _ _ => ⟨(cVt_sF hx 9 _ 1 (Or.inl (by decide))), (cVt_sF hx 4 _ 0 (Or.inl (by decide)))⟩)) (vTe_c 2 (cVt_sF hx 2 _ 8 (Or.inr (Or.inl (by decide)))) (RFc_sF _ _ _ _ _) (fun _ _ _ _ => (cVt_sF hx 9 _ 2 (Or.inl (by decide))))) (vTe_c 3 (cVt_sF hx 2 _ 8 (Or.inr (Or.inl (by decide)))) (RFc_sF _ _ _ _ _) (fun _ _ _ _ => (cVt_sF hx 9 _ 3 (Or.inl (by decide))))) (vTe_c 5 (cVt_sF hx 2 _ 8 (Or.inr (Or.inl (by decide)))) (RFc_sF _ _ _ _ _) (fun _ _ _ _ => (cVt_sF hx 9 _ 5 (Or.inl (by decide))))) (vTe_c 6 (cVt_sF hx 2 _ 8 (Or.inr (Or.inl (by decide)))) (RFc_sF _ _ _ _ _) (fun _ _ _ _ => (cVt_sF hx 9 _ 6 (Or.inl (by decide))))) (vTe_c 7 (cVt_sF hx 2 _ 8 (Or.inr (Or.inl (by decide)))) (RFc_sF _ _ _ _ _) (fun _ _ _ _ => (cVt_sF hx 9 _ 7 (Or.inl (by decide))))) (vKd_c (cVt_sF hx 2 _ 8 (Or.inr (Or.inl (by decide)))) (RFc_sF _ _ _ _ _) (fun _ _ _ _ => ⟨(cVt_sF hx 9 _ 1 (Or.inl (by decide))), (cVt_sF hx 4 _ 1 (Or.inl (by decide)))⟩)) (vHr_c (cVt_sF hx 2 _ 8 (Or.inr (Or.inl (by decide)))) (RFc_sF _ _ _ _ _) (fun _ _ _ _ => ⟨(cVt_sF hx 9 _ 8 (Or.inl (by decide))), fun _ _ => (cVt_sF hx 9 _ 0 (Or.inl (by decide)))⟩)) (vTe_c 4 (cVt_sF hx 2 _ 8 (Or.inr (Or.inl (by decide)))) (RFc_sF _ _ _ _ _) (fun _ _ _ _ => (cVt_sF hx 9 _ 4 (Or.inl (by decide))))) (vOw_c (cVt_sF hx 2 _ 8 (Or.inr (Or.inl (by decide)))) (RFc_sF _ _ _ _ _) (fun _ _ _ _ => ⟨(cVt_sF hx 9 _ 1 (Or.inl (by decide))), (cVt_sF hx 4 _ 3 (Or.inl (by decide))), fun _ _ => (cVt_sF hx 2 _ 0 (Or.inr (Or.inl (by decide))))⟩)) (vTn_c (cVt_sF hx 2 _ 8 (Or.inr (Or.inl (by decide)))) (RFc_sF _ _ _ _ _)) (vRn_c (cVt_sF hx 2 _ 10 (Or.inr (Or.inl (by decide)))) (RFc_sF _ _ _ _ _)) (vRu_c 0 (cVt_sF hx 2 _ 10 (Or.inr (Or.inl (by decide)))) (RFc_sF _ _ _ _ _) (fun _ _ _ _ => (cVt_sF hx 6 _ 0 (Or.inl (by decide))))) (vRu_c 1 (cVt_sF hx 2 _ 10 (Or.inr (Or.inl (by decide)))) (RFc_sF _ _ _ _ _) (fun _ _ _ _ => (cVt_sF hx 6 _ 1 (Or.inl (by decide))))) (vTm_c (cVt_sF hx 2 _ 10 (Or.inr (Or.inl (by decide)))) (RFc_sF _ _ _ _ _) (fun i9 l9 hi9 hl9 => ⟨(cVt_sF hx 6 _ 2 (Or.inl (by decide))), (IFc_sF _ _ _ _ _)⟩)) (vEn_c (cVt_sF hx 2 _ 3 (Or.inr (Or.inl (by decide)))) (IFc_sF _ _ _ _ _)) (vMo_c (cVt_sF hx 2 _ 16 (Or.inr (Or.inl (by decide)))) (cVt_sF hx 1 _ 0 (Or.inl (by decide))) (RFc_sF _ _ _ _ _) (fun _ _ _ _ => (cVt_sF hx 9 _ 0 (Or.inl (by decide))))) (vDs_c 16 1 (cVt_sF hx 2 _ 16 (Or.inr (Or.inl (by decide)))) (cVt_sF hx 1 _ 1 (Or.inl (by decide))) (IFc_sF _ _ _ _ _)) (vDs_c 16 2 (cVt_sF hx 2 _ 16 (Or.inr (Or.inl (by decide)))) (cVt_sF hx 1 _ 2 (Or.inl (by decide))) (IFc_sF _ _ _ _ _)) (vDs_c 17 1 (cVt_sF hx 2 _ 17 (Or.inr (Or.inl (by decide)))) (cVt_sF hx 1 _ 1 (Or.inl (by decide))) (IFc_sF _ _ _ _ _)) (vDs_c 17 2 (cVt_sF hx 2 _ 17 (Or.inr (Or.inl (by decide)))) (cVt_sF hx 1 _ 2 (Or.inl (by decide))) (IFc_sF _ _ _ _ _)) (vUn_c (cVt_sF hx 2 _ 18 (Or.inr (Or.inl (by decide)))) (cVt_sF hx 10 _ 0 (Or.inl (by decide))) (IFc_sF _ _ _ _ _)) (vLe_c (cVt_sF hx 2 _ 6 (Or.inr (Or.inl (by decide)))) (IFc_sF _ _ _ _ _)) (vHe_c (cVt_sF hx 2 _ 7 (Or.inr (Or.inl (by decide)))) (RFc_sF _ _ _ _ _) (fun _ _ _ _ => (cVt_sF hx 9 _ 0 (Or.inl (by decide))))) (vEt_c (cVt_sF hx 2 _ 12 (Or.inr (Or.inl (by decide)))) (RFc_sF _ _ _ _ _) (fun i9 l9 hi9 hl9 => ⟨(cVt_sF hx 3 _ 1 (Or.inl (by decide))), (IFc_sF _ _ _ _ _)⟩)) (fun _ => rfl) j
  have xs : ∀ b j, (b ≠ a ∨ j ≠ 11) → cfx (sF M a 11 (.int v)) b j = cfx M b j := fun b j hq => xf_cases (fun j f => (b ≠ a ∨ j ≠ 11) → f (sF M a 11 (.int v)) b = f M b) (fun hq => (congrArg Int32.toInt (cV_c (cVt_sF hx 2 _ 1 (Or.inr (Or.inl (by decide))))))) (fun hq => (congrArg Int32.toInt (cV_c (cVt_sF hx 2 _ 2 (Or.inr (Or.inl (by decide))))))) (fun hq => (congrArg Int32.toInt (cV_c (cVt_sF hx 2 _ 9 (Or.inr (Or.inl (by decide))))))) (fun hq => (congrArg Int32.toInt (cV_c (cVt_sF hx 2 _ 11 (Or.inr (Or.inr (hq.resolve_right (fun z => z rfl)))))))) (fun hq => (congrArg Int32.toInt (cV_c (cVt_sF hx 2 _ 4 (Or.inr (Or.inl (by decide))))))) (fun hq => (congrArg Int32.toInt (cV_c (cVt_sF hx 2 _ 5 (Or.inr (Or.inl (by decide))))))) (fun hq => (congrArg Int32.toInt (cV_c (cVt_sF hx 2 _ 15 (Or.inr (Or.inl (by decide))))))) (fun hq => (congrArg Int32.toInt (cV_c (cVt_sF hx 2 _ 0 (Or.inr (Or.inl (by decide))))))) (fun hq => (x1_c 16 (cVt_sF hx 2 _ 16 (Or.inr (Or.inl (by decide)))) (cVt_sF hx 1 _ 3 (Or.inl (by decide))))) (fun hq => (x1_c 17 (cVt_sF hx 2 _ 17 (Or.inr (Or.inl (by decide)))) (cVt_sF hx 1 _ 3 (Or.inl (by decide))))) (fun hq => (x10_c 2 (cVt_sF hx 2 _ 18 (Or.inr (Or.inl (by decide)))) (cVt_sF hx 10 _ 2 (Or.inl (by decide))))) (fun hq => (x10_c 1 (cVt_sF hx 2 _ 18 (Or.inr (Or.inl (by decide)))) (cVt_sF hx 10 _ 1 (Or.inl (by decide))))) (fun j => fun hq => (lf_c (vLo_c 12 (cVt_sF hx 2 _ 8 (Or.inr (Or.inl (by decide)))) (RFc_sF _ _ _ _ _) (fun _ _ _ _ => (cVt_sF hx 9 _ 12 (Or.inl (by decide))))) j)) j hq
  refine ⟨fun b hb q => ⟨(funext fun j => xs b j (Or.inl q)).trans (h1 b hb q).1, (rows b).trans (h1 b hb q).2⟩, ?_, (rows a).trans h3, hB.c (fun b hb j hj => (cVt_sF hx 2 _ j (Or.inr (Or.inl (by revert hj; simp only [List.mem_cons, List.not_mem_nil, or_false]; omega))))) (fun b hb j hj => ⟨(cVt_sF hx 1 _ j (Or.inl (by decide))), (cVt_sF hx 1 _ j (Or.inl (by decide)))⟩) (fun b hb => (cVt_sF hx 10 _ 0 (Or.inl (by decide)))) (fun b hb i l hi hl => (cVt_sF hx 6 _ 2 (Or.inl (by decide)))) (fun b hb => RFc_sF _ _ _ _ _) (fun b hb => RFc_sF _ _ _ _ _) (fun b hb => RFc_sF _ _ _ _ _) (fun b hb i l hi hl => (cVt_sF hx 9 _ 0 (Or.inl (by decide)))) (fun b hb => RFc_sF _ _ _ _ _) (fun b hb i l hi hl => (cVt_sF hx 3 _ 1 (Or.inl (by decide))))⟩
  rw [← h2]
  exact cfx_up 11 (fun j hj => xs a j (Or.inr hj)) (congrArg Int32.toInt (cV_sF_self hx hl))
theorem VC.f4 {cy : Nat → ClassId} {B : Nat → Nat × Nat} {K : Kp} {L : List Nat} {M0 M : Hp} {a  : Nat} {X : Nat → Int} {Y : Nat → Nat → Int32} {fs : List Value} {v : Int32} (h : VC B K L M0 M a X Y) (hW : WOK cy K L M) (ha : isk K L a 2 0) (hx : M a = .inr (2, fs)) (hl : 4 < fs.length) : VC B K L M0 (sF M a 4 (.int v)) a (va_up X 12 v.toInt) Y := by
  obtain ⟨h1, h2, h3, hB⟩ := h
  have rows : ∀ b, cax (sF M a 4 (.int v)) b = cax M b := fun b => funext fun j => rowf_cases (fun j f => f (sF M a 4 (.int v)) b = f M b) (vPl_c (cVt_sF hx 2 _ 12 (Or.inr (Or.inl (by decide)))) (RFc_sF _ _ _ _ _) (fun _ _ _ _ => ⟨(cVt_sF hx 3 _ 1 (Or.inl (by decide))), (ALc_sF _ _ _ _ _)⟩)) (vLf_c 2 (cVt_sF hx 2 _ 12 (Or.inr (Or.inl (by decide)))) (RFc_sF _ _ _ _ _) (fun _ _ _ _ => (cVt_sF hx 3 _ 2 (Or.inl (by decide))))) (vLf_c 0 (cVt_sF hx 2 _ 12 (Or.inr (Or.inl (by decide)))) (RFc_sF _ _ _ _ _) (fun _ _ _ _ => (cVt_sF hx 3 _ 0 (Or.inl (by decide))))) (vWho_c (cVt_sF hx 2 _ 8 (Or.inr (Or.inl (by decide)))) (RFc_sF _ _ _ _ _) (fun _ _ _ _ => ⟨(cVt_sF hx 9 _ 1 (Or.inl (by decide))), (cVt_sF hx 4 _ 0 (Or.inl (by decide)))⟩)) (vTe_c 2 (cVt_sF hx 2 _ 8 (Or.inr (Or.inl (by decide)))) (RFc_sF _ _ _ _ _) (fun _ _ _ _ => (cVt_sF hx 9 _ 2 (Or.inl (by decide))))) (vTe_c 3 (cVt_sF hx 2 _ 8 (Or.inr (Or.inl (by decide)))) (RFc_sF _ _ _ _ _) (fun _ _ _ _ => (cVt_sF hx 9 _ 3 (Or.inl (by decide))))) (vTe_c 5 (cVt_sF hx 2 _ 8 (Or.inr (Or.inl (by decide)))) (RFc_sF _ _ _ _ _) (fun _ _ _ _ => (cVt_sF hx 9 _ 5 (Or.inl (by decide))))) (vTe_c 6 (cVt_sF hx 2 _ 8 (Or.inr (Or.inl (by decide)))) (RFc_sF _ _ _ _ _) (fun _ _ _ _ => (cVt_sF hx 9 _ 6 (Or.inl (by decide))))) (vTe_c 7 (cVt_sF hx 2 _ 8 (Or.inr (Or.inl (by decide)))) (RFc_sF _ _ _ _ _) (fun _ _ _ _ => (cVt_sF hx 9 _ 7 (Or.inl (by decide))))) (vKd_c (cVt_sF hx 2 _ 8 (Or.inr (Or.inl (by decide)))) (RFc_sF _ _ _ _ _) (fun _ _ _ _ => ⟨(cVt_sF hx 9 _ 1 (Or.inl (by decide))), (cVt_sF hx 4 _ 1 (Or.inl (by decide)))⟩)) (vHr_c (cVt_sF hx 2 _ 8 (Or.inr (Or.inl (by decide)))) (RFc_sF _ _ _ _ _) (fun _ _ _ _ => ⟨(cVt_sF hx 9 _ 8 (Or.inl (by decide))), fun _ _ => (cVt_sF hx 9 _ 0 (Or.inl (by decide)))⟩)) (vTe_c 4 (cVt_sF hx 2 _ 8 (Or.inr (Or.inl (by decide)))) (RFc_sF _ _ _ _ _) (fun _ _ _ _ => (cVt_sF hx 9 _ 4 (Or.inl (by decide))))) (vOw_c (cVt_sF hx 2 _ 8 (Or.inr (Or.inl (by decide)))) (RFc_sF _ _ _ _ _) (fun _ _ _ _ => ⟨(cVt_sF hx 9 _ 1 (Or.inl (by decide))), (cVt_sF hx 4 _ 3 (Or.inl (by decide))), fun _ _ => (cVt_sF hx 2 _ 0 (Or.inr (Or.inl (by decide))))⟩)) (vTn_c (cVt_sF hx 2 _ 8 (Or.inr (Or.inl (by decide)))) (RFc_sF _ _ _ _ _)) (vRn_c (cVt_sF hx 2 _ 10 (Or.inr (Or.inl (by decide)))) (RFc_sF _ _ _ _ _)) (vRu_c 0 (cVt_sF hx 2 _ 10 (Or.inr (Or.inl (by decide)))) (RFc_sF _ _ _ _ _) (fun _ _ _ _ => (cVt_sF hx 6 _ 0 (Or.inl (by decide))))) (vRu_c 1 (cVt_sF hx 2 _ 10 (Or.inr (Or.inl (by decide)))) (RFc_sF _ _ _ _ _) (fun _ _ _ _ => (cVt_sF hx 6 _ 1 (Or.inl (by decide))))) (vTm_c (cVt_sF hx 2 _ 10 (Or.inr (Or.inl (by decide)))) (RFc_sF _ _ _ _ _) (fun i9 l9 hi9 hl9 => ⟨(cVt_sF hx 6 _ 2 (Or.inl (by decide))), (IFc_sF _ _ _ _ _)⟩)) (vEn_c (cVt_sF hx 2 _ 3 (Or.inr (Or.inl (by decide)))) (IFc_sF _ _ _ _ _)) (vMo_c (cVt_sF hx 2 _ 16 (Or.inr (Or.inl (by decide)))) (cVt_sF hx 1 _ 0 (Or.inl (by decide))) (RFc_sF _ _ _ _ _) (fun _ _ _ _ => (cVt_sF hx 9 _ 0 (Or.inl (by decide))))) (vDs_c 16 1 (cVt_sF hx 2 _ 16 (Or.inr (Or.inl (by decide)))) (cVt_sF hx 1 _ 1 (Or.inl (by decide))) (IFc_sF _ _ _ _ _)) (vDs_c 16 2 (cVt_sF hx 2 _ 16 (Or.inr (Or.inl (by decide)))) (cVt_sF hx 1 _ 2 (Or.inl (by decide))) (IFc_sF _ _ _ _ _)) (vDs_c 17 1 (cVt_sF hx 2 _ 17 (Or.inr (Or.inl (by decide)))) (cVt_sF hx 1 _ 1 (Or.inl (by decide))) (IFc_sF _ _ _ _ _)) (vDs_c 17 2 (cVt_sF hx 2 _ 17 (Or.inr (Or.inl (by decide)))) (cVt_sF hx 1 _ 2 (Or.inl (by decide))) (IFc_sF _ _ _ _ _)) (vUn_c (cVt_sF hx 2 _ 18 (Or.inr (Or.inl (by decide)))) (cVt_sF hx 10 _ 0 (Or.inl (by decide))) (IFc_sF _ _ _ _ _)) (vLe_c (cVt_sF hx 2 _ 6 (Or.inr (Or.inl (by decide)))) (IFc_sF _ _ _ _ _)) (vHe_c (cVt_sF hx 2 _ 7 (Or.inr (Or.inl (by decide)))) (RFc_sF _ _ _ _ _) (fun _ _ _ _ => (cVt_sF hx 9 _ 0 (Or.inl (by decide))))) (vEt_c (cVt_sF hx 2 _ 12 (Or.inr (Or.inl (by decide)))) (RFc_sF _ _ _ _ _) (fun i9 l9 hi9 hl9 => ⟨(cVt_sF hx 3 _ 1 (Or.inl (by decide))), (IFc_sF _ _ _ _ _)⟩)) (fun _ => rfl) j
  have xs : ∀ b j, (b ≠ a ∨ j ≠ 12) → cfx (sF M a 4 (.int v)) b j = cfx M b j := fun b j hq => xf_cases (fun j f => (b ≠ a ∨ j ≠ 12) → f (sF M a 4 (.int v)) b = f M b) (fun hq => (congrArg Int32.toInt (cV_c (cVt_sF hx 2 _ 1 (Or.inr (Or.inl (by decide))))))) (fun hq => (congrArg Int32.toInt (cV_c (cVt_sF hx 2 _ 2 (Or.inr (Or.inl (by decide))))))) (fun hq => (congrArg Int32.toInt (cV_c (cVt_sF hx 2 _ 9 (Or.inr (Or.inl (by decide))))))) (fun hq => (congrArg Int32.toInt (cV_c (cVt_sF hx 2 _ 11 (Or.inr (Or.inl (by decide))))))) (fun hq => (congrArg Int32.toInt (cV_c (cVt_sF hx 2 _ 4 (Or.inr (Or.inr (hq.resolve_right (fun z => z rfl)))))))) (fun hq => (congrArg Int32.toInt (cV_c (cVt_sF hx 2 _ 5 (Or.inr (Or.inl (by decide))))))) (fun hq => (congrArg Int32.toInt (cV_c (cVt_sF hx 2 _ 15 (Or.inr (Or.inl (by decide))))))) (fun hq => (congrArg Int32.toInt (cV_c (cVt_sF hx 2 _ 0 (Or.inr (Or.inl (by decide))))))) (fun hq => (x1_c 16 (cVt_sF hx 2 _ 16 (Or.inr (Or.inl (by decide)))) (cVt_sF hx 1 _ 3 (Or.inl (by decide))))) (fun hq => (x1_c 17 (cVt_sF hx 2 _ 17 (Or.inr (Or.inl (by decide)))) (cVt_sF hx 1 _ 3 (Or.inl (by decide))))) (fun hq => (x10_c 2 (cVt_sF hx 2 _ 18 (Or.inr (Or.inl (by decide)))) (cVt_sF hx 10 _ 2 (Or.inl (by decide))))) (fun hq => (x10_c 1 (cVt_sF hx 2 _ 18 (Or.inr (Or.inl (by decide)))) (cVt_sF hx 10 _ 1 (Or.inl (by decide))))) (fun j => fun hq => (lf_c (vLo_c 12 (cVt_sF hx 2 _ 8 (Or.inr (Or.inl (by decide)))) (RFc_sF _ _ _ _ _) (fun _ _ _ _ => (cVt_sF hx 9 _ 12 (Or.inl (by decide))))) j)) j hq
  refine ⟨fun b hb q => ⟨(funext fun j => xs b j (Or.inl q)).trans (h1 b hb q).1, (rows b).trans (h1 b hb q).2⟩, ?_, (rows a).trans h3, hB.c (fun b hb j hj => (cVt_sF hx 2 _ j (Or.inr (Or.inl (by revert hj; simp only [List.mem_cons, List.not_mem_nil, or_false]; omega))))) (fun b hb j hj => ⟨(cVt_sF hx 1 _ j (Or.inl (by decide))), (cVt_sF hx 1 _ j (Or.inl (by decide)))⟩) (fun b hb => (cVt_sF hx 10 _ 0 (Or.inl (by decide)))) (fun b hb i l hi hl => (cVt_sF hx 6 _ 2 (Or.inl (by decide)))) (fun b hb => RFc_sF _ _ _ _ _) (fun b hb => RFc_sF _ _ _ _ _) (fun b hb => RFc_sF _ _ _ _ _) (fun b hb i l hi hl => (cVt_sF hx 9 _ 0 (Or.inl (by decide)))) (fun b hb => RFc_sF _ _ _ _ _) (fun b hb i l hi hl => (cVt_sF hx 3 _ 1 (Or.inl (by decide))))⟩
  rw [← h2]
  exact cfx_up 12 (fun j hj => xs a j (Or.inr hj)) (congrArg Int32.toInt (cV_sF_self hx hl))
theorem VC.f5 {cy : Nat → ClassId} {B : Nat → Nat × Nat} {K : Kp} {L : List Nat} {M0 M : Hp} {a  : Nat} {X : Nat → Int} {Y : Nat → Nat → Int32} {fs : List Value} {v : Int32} (h : VC B K L M0 M a X Y) (hW : WOK cy K L M) (ha : isk K L a 2 0) (hx : M a = .inr (2, fs)) (hl : 5 < fs.length) : VC B K L M0 (sF M a 5 (.int v)) a (va_up X 13 v.toInt) Y := by
  obtain ⟨h1, h2, h3, hB⟩ := h
  have rows : ∀ b, cax (sF M a 5 (.int v)) b = cax M b := fun b => funext fun j => rowf_cases (fun j f => f (sF M a 5 (.int v)) b = f M b) (vPl_c (cVt_sF hx 2 _ 12 (Or.inr (Or.inl (by decide)))) (RFc_sF _ _ _ _ _) (fun _ _ _ _ => ⟨(cVt_sF hx 3 _ 1 (Or.inl (by decide))), (ALc_sF _ _ _ _ _)⟩)) (vLf_c 2 (cVt_sF hx 2 _ 12 (Or.inr (Or.inl (by decide)))) (RFc_sF _ _ _ _ _) (fun _ _ _ _ => (cVt_sF hx 3 _ 2 (Or.inl (by decide))))) (vLf_c 0 (cVt_sF hx 2 _ 12 (Or.inr (Or.inl (by decide)))) (RFc_sF _ _ _ _ _) (fun _ _ _ _ => (cVt_sF hx 3 _ 0 (Or.inl (by decide))))) (vWho_c (cVt_sF hx 2 _ 8 (Or.inr (Or.inl (by decide)))) (RFc_sF _ _ _ _ _) (fun _ _ _ _ => ⟨(cVt_sF hx 9 _ 1 (Or.inl (by decide))), (cVt_sF hx 4 _ 0 (Or.inl (by decide)))⟩)) (vTe_c 2 (cVt_sF hx 2 _ 8 (Or.inr (Or.inl (by decide)))) (RFc_sF _ _ _ _ _) (fun _ _ _ _ => (cVt_sF hx 9 _ 2 (Or.inl (by decide))))) (vTe_c 3 (cVt_sF hx 2 _ 8 (Or.inr (Or.inl (by decide)))) (RFc_sF _ _ _ _ _) (fun _ _ _ _ => (cVt_sF hx 9 _ 3 (Or.inl (by decide))))) (vTe_c 5 (cVt_sF hx 2 _ 8 (Or.inr (Or.inl (by decide)))) (RFc_sF _ _ _ _ _) (fun _ _ _ _ => (cVt_sF hx 9 _ 5 (Or.inl (by decide))))) (vTe_c 6 (cVt_sF hx 2 _ 8 (Or.inr (Or.inl (by decide)))) (RFc_sF _ _ _ _ _) (fun _ _ _ _ => (cVt_sF hx 9 _ 6 (Or.inl (by decide))))) (vTe_c 7 (cVt_sF hx 2 _ 8 (Or.inr (Or.inl (by decide)))) (RFc_sF _ _ _ _ _) (fun _ _ _ _ => (cVt_sF hx 9 _ 7 (Or.inl (by decide))))) (vKd_c (cVt_sF hx 2 _ 8 (Or.inr (Or.inl (by decide)))) (RFc_sF _ _ _ _ _) (fun _ _ _ _ => ⟨(cVt_sF hx 9 _ 1 (Or.inl (by decide))), (cVt_sF hx 4 _ 1 (Or.inl (by decide)))⟩)) (vHr_c (cVt_sF hx 2 _ 8 (Or.inr (Or.inl (by decide)))) (RFc_sF _ _ _ _ _) (fun _ _ _ _ => ⟨(cVt_sF hx 9 _ 8 (Or.inl (by decide))), fun _ _ => (cVt_sF hx 9 _ 0 (Or.inl (by decide)))⟩)) (vTe_c 4 (cVt_sF hx 2 _ 8 (Or.inr (Or.inl (by decide)))) (RFc_sF _ _ _ _ _) (fun _ _ _ _ => (cVt_sF hx 9 _ 4 (Or.inl (by decide))))) (vOw_c (cVt_sF hx 2 _ 8 (Or.inr (Or.inl (by decide)))) (RFc_sF _ _ _ _ _) (fun _ _ _ _ => ⟨(cVt_sF hx 9 _ 1 (Or.inl (by decide))), (cVt_sF hx 4 _ 3 (Or.inl (by decide))), fun _ _ => (cVt_sF hx 2 _ 0 (Or.inr (Or.inl (by decide))))⟩)) (vTn_c (cVt_sF hx 2 _ 8 (Or.inr (Or.inl (by decide)))) (RFc_sF _ _ _ _ _)) (vRn_c (cVt_sF hx 2 _ 10 (Or.inr (Or.inl (by decide)))) (RFc_sF _ _ _ _ _)) (vRu_c 0 (cVt_sF hx 2 _ 10 (Or.inr (Or.inl (by decide)))) (RFc_sF _ _ _ _ _) (fun _ _ _ _ => (cVt_sF hx 6 _ 0 (Or.inl (by decide))))) (vRu_c 1 (cVt_sF hx 2 _ 10 (Or.inr (Or.inl (by decide)))) (RFc_sF _ _ _ _ _) (fun _ _ _ _ => (cVt_sF hx 6 _ 1 (Or.inl (by decide))))) (vTm_c (cVt_sF hx 2 _ 10 (Or.inr (Or.inl (by decide)))) (RFc_sF _ _ _ _ _) (fun i9 l9 hi9 hl9 => ⟨(cVt_sF hx 6 _ 2 (Or.inl (by decide))), (IFc_sF _ _ _ _ _)⟩)) (vEn_c (cVt_sF hx 2 _ 3 (Or.inr (Or.inl (by decide)))) (IFc_sF _ _ _ _ _)) (vMo_c (cVt_sF hx 2 _ 16 (Or.inr (Or.inl (by decide)))) (cVt_sF hx 1 _ 0 (Or.inl (by decide))) (RFc_sF _ _ _ _ _) (fun _ _ _ _ => (cVt_sF hx 9 _ 0 (Or.inl (by decide))))) (vDs_c 16 1 (cVt_sF hx 2 _ 16 (Or.inr (Or.inl (by decide)))) (cVt_sF hx 1 _ 1 (Or.inl (by decide))) (IFc_sF _ _ _ _ _)) (vDs_c 16 2 (cVt_sF hx 2 _ 16 (Or.inr (Or.inl (by decide)))) (cVt_sF hx 1 _ 2 (Or.inl (by decide))) (IFc_sF _ _ _ _ _)) (vDs_c 17 1 (cVt_sF hx 2 _ 17 (Or.inr (Or.inl (by decide)))) (cVt_sF hx 1 _ 1 (Or.inl (by decide))) (IFc_sF _ _ _ _ _)) (vDs_c 17 2 (cVt_sF hx 2 _ 17 (Or.inr (Or.inl (by decide)))) (cVt_sF hx 1 _ 2 (Or.inl (by decide))) (IFc_sF _ _ _ _ _)) (vUn_c (cVt_sF hx 2 _ 18 (Or.inr (Or.inl (by decide)))) (cVt_sF hx 10 _ 0 (Or.inl (by decide))) (IFc_sF _ _ _ _ _)) (vLe_c (cVt_sF hx 2 _ 6 (Or.inr (Or.inl (by decide)))) (IFc_sF _ _ _ _ _)) (vHe_c (cVt_sF hx 2 _ 7 (Or.inr (Or.inl (by decide)))) (RFc_sF _ _ _ _ _) (fun _ _ _ _ => (cVt_sF hx 9 _ 0 (Or.inl (by decide))))) (vEt_c (cVt_sF hx 2 _ 12 (Or.inr (Or.inl (by decide)))) (RFc_sF _ _ _ _ _) (fun i9 l9 hi9 hl9 => ⟨(cVt_sF hx 3 _ 1 (Or.inl (by decide))), (IFc_sF _ _ _ _ _)⟩)) (fun _ => rfl) j
  have xs : ∀ b j, (b ≠ a ∨ j ≠ 13) → cfx (sF M a 5 (.int v)) b j = cfx M b j := fun b j hq => xf_cases (fun j f => (b ≠ a ∨ j ≠ 13) → f (sF M a 5 (.int v)) b = f M b) (fun hq => (congrArg Int32.toInt (cV_c (cVt_sF hx 2 _ 1 (Or.inr (Or.inl (by decide))))))) (fun hq => (congrArg Int32.toInt (cV_c (cVt_sF hx 2 _ 2 (Or.inr (Or.inl (by decide))))))) (fun hq => (congrArg Int32.toInt (cV_c (cVt_sF hx 2 _ 9 (Or.inr (Or.inl (by decide))))))) (fun hq => (congrArg Int32.toInt (cV_c (cVt_sF hx 2 _ 11 (Or.inr (Or.inl (by decide))))))) (fun hq => (congrArg Int32.toInt (cV_c (cVt_sF hx 2 _ 4 (Or.inr (Or.inl (by decide))))))) (fun hq => (congrArg Int32.toInt (cV_c (cVt_sF hx 2 _ 5 (Or.inr (Or.inr (hq.resolve_right (fun z => z rfl)))))))) (fun hq => (congrArg Int32.toInt (cV_c (cVt_sF hx 2 _ 15 (Or.inr (Or.inl (by decide))))))) (fun hq => (congrArg Int32.toInt (cV_c (cVt_sF hx 2 _ 0 (Or.inr (Or.inl (by decide))))))) (fun hq => (x1_c 16 (cVt_sF hx 2 _ 16 (Or.inr (Or.inl (by decide)))) (cVt_sF hx 1 _ 3 (Or.inl (by decide))))) (fun hq => (x1_c 17 (cVt_sF hx 2 _ 17 (Or.inr (Or.inl (by decide)))) (cVt_sF hx 1 _ 3 (Or.inl (by decide))))) (fun hq => (x10_c 2 (cVt_sF hx 2 _ 18 (Or.inr (Or.inl (by decide)))) (cVt_sF hx 10 _ 2 (Or.inl (by decide))))) (fun hq => (x10_c 1 (cVt_sF hx 2 _ 18 (Or.inr (Or.inl (by decide)))) (cVt_sF hx 10 _ 1 (Or.inl (by decide))))) (fun j => fun hq => (lf_c (vLo_c 12 (cVt_sF hx 2 _ 8 (Or.inr (Or.inl (by decide)))) (RFc_sF _ _ _ _ _) (fun _ _ _ _ => (cVt_sF hx 9 _ 12 (Or.inl (by decide))))) j)) j hq
  refine ⟨fun b hb q => ⟨(funext fun j => xs b j (Or.inl q)).trans (h1 b hb q).1, (rows b).trans (h1 b hb q).2⟩, ?_, (rows a).trans h3, hB.c (fun b hb j hj => (cVt_sF hx 2 _ j (Or.inr (Or.inl (by revert hj; simp only [List.mem_cons, List.not_mem_nil, or_false]; omega))))) (fun b hb j hj => ⟨(cVt_sF hx 1 _ j (Or.inl (by decide))), (cVt_sF hx 1 _ j (Or.inl (by decide)))⟩) (fun b hb => (cVt_sF hx 10 _ 0 (Or.inl (by decide)))) (fun b hb i l hi hl => (cVt_sF hx 6 _ 2 (Or.inl (by decide)))) (fun b hb => RFc_sF _ _ _ _ _) (fun b hb => RFc_sF _ _ _ _ _) (fun b hb => RFc_sF _ _ _ _ _) (fun b hb i l hi hl => (cVt_sF hx 9 _ 0 (Or.inl (by decide)))) (fun b hb => RFc_sF _ _ _ _ _) (fun b hb i l hi hl => (cVt_sF hx 3 _ 1 (Or.inl (by decide))))⟩
  rw [← h2]
  exact cfx_up 13 (fun j hj => xs a j (Or.inr hj)) (congrArg Int32.toInt (cV_sF_self hx hl))
theorem VC.f15 {cy : Nat → ClassId} {B : Nat → Nat × Nat} {K : Kp} {L : List Nat} {M0 M : Hp} {a  : Nat} {X : Nat → Int} {Y : Nat → Nat → Int32} {fs : List Value} {v : Int32} (h : VC B K L M0 M a X Y) (hW : WOK cy K L M) (ha : isk K L a 2 0) (hx : M a = .inr (2, fs)) (hl : 15 < fs.length) : VC B K L M0 (sF M a 15 (.int v)) a (va_up X 18 v.toInt) Y := by
  obtain ⟨h1, h2, h3, hB⟩ := h
  have rows : ∀ b, cax (sF M a 15 (.int v)) b = cax M b := fun b => funext fun j => rowf_cases (fun j f => f (sF M a 15 (.int v)) b = f M b) (vPl_c (cVt_sF hx 2 _ 12 (Or.inr (Or.inl (by decide)))) (RFc_sF _ _ _ _ _) (fun _ _ _ _ => ⟨(cVt_sF hx 3 _ 1 (Or.inl (by decide))), (ALc_sF _ _ _ _ _)⟩)) (vLf_c 2 (cVt_sF hx 2 _ 12 (Or.inr (Or.inl (by decide)))) (RFc_sF _ _ _ _ _) (fun _ _ _ _ => (cVt_sF hx 3 _ 2 (Or.inl (by decide))))) (vLf_c 0 (cVt_sF hx 2 _ 12 (Or.inr (Or.inl (by decide)))) (RFc_sF _ _ _ _ _) (fun _ _ _ _ => (cVt_sF hx 3 _ 0 (Or.inl (by decide))))) (vWho_c (cVt_sF hx 2 _ 8 (Or.inr (Or.inl (by decide)))) (RFc_sF _ _ _ _ _) (fun _ _ _ _ => ⟨(cVt_sF hx 9 _ 1 (Or.inl (by decide))), (cVt_sF hx 4 _ 0 (Or.inl (by decide)))⟩)) (vTe_c 2 (cVt_sF hx 2 _ 8 (Or.inr (Or.inl (by decide)))) (RFc_sF _ _ _ _ _) (fun _ _ _ _ => (cVt_sF hx 9 _ 2 (Or.inl (by decide))))) (vTe_c 3 (cVt_sF hx 2 _ 8 (Or.inr (Or.inl (by decide)))) (RFc_sF _ _ _ _ _) (fun _ _ _ _ => (cVt_sF hx 9 _ 3 (Or.inl (by decide))))) (vTe_c 5 (cVt_sF hx 2 _ 8 (Or.inr (Or.inl (by decide)))) (RFc_sF _ _ _ _ _) (fun _ _ _ _ => (cVt_sF hx 9 _ 5 (Or.inl (by decide))))) (vTe_c 6 (cVt_sF hx 2 _ 8 (Or.inr (Or.inl (by decide)))) (RFc_sF _ _ _ _ _) (fun _ _ _ _ => (cVt_sF hx 9 _ 6 (Or.inl (by decide))))) (vTe_c 7 (cVt_sF hx 2 _ 8 (Or.inr (Or.inl (by decide)))) (RFc_sF _ _ _ _ _) (fun _ _ _ _ => (cVt_sF hx 9 _ 7 (Or.inl (by decide))))) (vKd_c (cVt_sF hx 2 _ 8 (Or.inr (Or.inl (by decide)))) (RFc_sF _ _ _ _ _) (fun _ _ _ _ => ⟨(cVt_sF hx 9 _ 1 (Or.inl (by decide))), (cVt_sF hx 4 _ 1 (Or.inl (by decide)))⟩)) (vHr_c (cVt_sF hx 2 _ 8 (Or.inr (Or.inl (by decide)))) (RFc_sF _ _ _ _ _) (fun _ _ _ _ => ⟨(cVt_sF hx 9 _ 8 (Or.inl (by decide))), fun _ _ => (cVt_sF hx 9 _ 0 (Or.inl (by decide)))⟩)) (vTe_c 4 (cVt_sF hx 2 _ 8 (Or.inr (Or.inl (by decide)))) (RFc_sF _ _ _ _ _) (fun _ _ _ _ => (cVt_sF hx 9 _ 4 (Or.inl (by decide))))) (vOw_c (cVt_sF hx 2 _ 8 (Or.inr (Or.inl (by decide)))) (RFc_sF _ _ _ _ _) (fun _ _ _ _ => ⟨(cVt_sF hx 9 _ 1 (Or.inl (by decide))), (cVt_sF hx 4 _ 3 (Or.inl (by decide))), fun _ _ => (cVt_sF hx 2 _ 0 (Or.inr (Or.inl (by decide))))⟩)) (vTn_c (cVt_sF hx 2 _ 8 (Or.inr (Or.inl (by decide)))) (RFc_sF _ _ _ _ _)) (vRn_c (cVt_sF hx 2 _ 10 (Or.inr (Or.inl (by decide)))) (RFc_sF _ _ _ _ _)) (vRu_c 0 (cVt_sF hx 2 _ 10 (Or.inr (Or.inl (by decide)))) (RFc_sF _ _ _ _ _) (fun _ _ _ _ => (cVt_sF hx 6 _ 0 (Or.inl (by decide))))) (vRu_c 1 (cVt_sF hx 2 _ 10 (Or.inr (Or.inl (by decide)))) (RFc_sF _ _ _ _ _) (fun _ _ _ _ => (cVt_sF hx 6 _ 1 (Or.inl (by decide))))) (vTm_c (cVt_sF hx 2 _ 10 (Or.inr (Or.inl (by decide)))) (RFc_sF _ _ _ _ _) (fun i9 l9 hi9 hl9 => ⟨(cVt_sF hx 6 _ 2 (Or.inl (by decide))), (IFc_sF _ _ _ _ _)⟩)) (vEn_c (cVt_sF hx 2 _ 3 (Or.inr (Or.inl (by decide)))) (IFc_sF _ _ _ _ _)) (vMo_c (cVt_sF hx 2 _ 16 (Or.inr (Or.inl (by decide)))) (cVt_sF hx 1 _ 0 (Or.inl (by decide))) (RFc_sF _ _ _ _ _) (fun _ _ _ _ => (cVt_sF hx 9 _ 0 (Or.inl (by decide))))) (vDs_c 16 1 (cVt_sF hx 2 _ 16 (Or.inr (Or.inl (by decide)))) (cVt_sF hx 1 _ 1 (Or.inl (by decide))) (IFc_sF _ _ _ _ _)) (vDs_c 16 2 (cVt_sF hx 2 _ 16 (Or.inr (Or.inl (by decide)))) (cVt_sF hx 1 _ 2 (Or.inl (by decide))) (IFc_sF _ _ _ _ _)) (vDs_c 17 1 (cVt_sF hx 2 _ 17 (Or.inr (Or.inl (by decide)))) (cVt_sF hx 1 _ 1 (Or.inl (by decide))) (IFc_sF _ _ _ _ _)) (vDs_c 17 2 (cVt_sF hx 2 _ 17 (Or.inr (Or.inl (by decide)))) (cVt_sF hx 1 _ 2 (Or.inl (by decide))) (IFc_sF _ _ _ _ _)) (vUn_c (cVt_sF hx 2 _ 18 (Or.inr (Or.inl (by decide)))) (cVt_sF hx 10 _ 0 (Or.inl (by decide))) (IFc_sF _ _ _ _ _)) (vLe_c (cVt_sF hx 2 _ 6 (Or.inr (Or.inl (by decide)))) (IFc_sF _ _ _ _ _)) (vHe_c (cVt_sF hx 2 _ 7 (Or.inr (Or.inl (by decide)))) (RFc_sF _ _ _ _ _) (fun _ _ _ _ => (cVt_sF hx 9 _ 0 (Or.inl (by decide))))) (vEt_c (cVt_sF hx 2 _ 12 (Or.inr (Or.inl (by decide)))) (RFc_sF _ _ _ _ _) (fun i9 l9 hi9 hl9 => ⟨(cVt_sF hx 3 _ 1 (Or.inl (by decide))), (IFc_sF _ _ _ _ _)⟩)) (fun _ => rfl) j
  have xs : ∀ b j, (b ≠ a ∨ j ≠ 18) → cfx (sF M a 15 (.int v)) b j = cfx M b j := fun b j hq => xf_cases (fun j f => (b ≠ a ∨ j ≠ 18) → f (sF M a 15 (.int v)) b = f M b) (fun hq => (congrArg Int32.toInt (cV_c (cVt_sF hx 2 _ 1 (Or.inr (Or.inl (by decide))))))) (fun hq => (congrArg Int32.toInt (cV_c (cVt_sF hx 2 _ 2 (Or.inr (Or.inl (by decide))))))) (fun hq => (congrArg Int32.toInt (cV_c (cVt_sF hx 2 _ 9 (Or.inr (Or.inl (by decide))))))) (fun hq => (congrArg Int32.toInt (cV_c (cVt_sF hx 2 _ 11 (Or.inr (Or.inl (by decide))))))) (fun hq => (congrArg Int32.toInt (cV_c (cVt_sF hx 2 _ 4 (Or.inr (Or.inl (by decide))))))) (fun hq => (congrArg Int32.toInt (cV_c (cVt_sF hx 2 _ 5 (Or.inr (Or.inl (by decide))))))) (fun hq => (congrArg Int32.toInt (cV_c (cVt_sF hx 2 _ 15 (Or.inr (Or.inr (hq.resolve_right (fun z => z rfl)))))))) (fun hq => (congrArg Int32.toInt (cV_c (cVt_sF hx 2 _ 0 (Or.inr (Or.inl (by decide))))))) (fun hq => (x1_c 16 (cVt_sF hx 2 _ 16 (Or.inr (Or.inl (by decide)))) (cVt_sF hx 1 _ 3 (Or.inl (by decide))))) (fun hq => (x1_c 17 (cVt_sF hx 2 _ 17 (Or.inr (Or.inl (by decide)))) (cVt_sF hx 1 _ 3 (Or.inl (by decide))))) (fun hq => (x10_c 2 (cVt_sF hx 2 _ 18 (Or.inr (Or.inl (by decide)))) (cVt_sF hx 10 _ 2 (Or.inl (by decide))))) (fun hq => (x10_c 1 (cVt_sF hx 2 _ 18 (Or.inr (Or.inl (by decide)))) (cVt_sF hx 10 _ 1 (Or.inl (by decide))))) (fun j => fun hq => (lf_c (vLo_c 12 (cVt_sF hx 2 _ 8 (Or.inr (Or.inl (by decide)))) (RFc_sF _ _ _ _ _) (fun _ _ _ _ => (cVt_sF hx 9 _ 12 (Or.inl (by decide))))) j)) j hq
  refine ⟨fun b hb q => ⟨(funext fun j => xs b j (Or.inl q)).trans (h1 b hb q).1, (rows b).trans (h1 b hb q).2⟩, ?_, (rows a).trans h3, hB.c (fun b hb j hj => (cVt_sF hx 2 _ j (Or.inr (Or.inl (by revert hj; simp only [List.mem_cons, List.not_mem_nil, or_false]; omega))))) (fun b hb j hj => ⟨(cVt_sF hx 1 _ j (Or.inl (by decide))), (cVt_sF hx 1 _ j (Or.inl (by decide)))⟩) (fun b hb => (cVt_sF hx 10 _ 0 (Or.inl (by decide)))) (fun b hb i l hi hl => (cVt_sF hx 6 _ 2 (Or.inl (by decide)))) (fun b hb => RFc_sF _ _ _ _ _) (fun b hb => RFc_sF _ _ _ _ _) (fun b hb => RFc_sF _ _ _ _ _) (fun b hb i l hi hl => (cVt_sF hx 9 _ 0 (Or.inl (by decide)))) (fun b hb => RFc_sF _ _ _ _ _) (fun b hb i l hi hl => (cVt_sF hx 3 _ 1 (Or.inl (by decide))))⟩
  rw [← h2]
  exact cfx_up 18 (fun j hj => xs a j (Or.inr hj)) (congrArg Int32.toInt (cV_sF_self hx hl))
theorem VC.s9_5 {cy : Nat → ClassId} {B : Nat → Nat × Nat} {K : Kp} {L : List Nat} {M0 M : Hp} {a x i : Nat} {X : Nat → Int} {Y : Nat → Nat → Int32} {fs : List Value} {v : Int32} (h : VC B K L M0 M a X Y) (hW : WOK cy K L M) (ha : isk K L a 2 0) (hi : i < 24) (hs : RFc (M (rA 2 M a 8)) i = some x) (hx : M x = .inr (9, fs)) (hl : 5 < fs.length) : VC B K L M0 (sF M x 5 (.int v)) a X (va_up Y 22 (upd (Y 22) i v)) := by
  obtain ⟨h1, h2, h3, hB⟩ := h
  have hne : ∀ b i' l, isk K L b 2 0 → i' < 24 → RFc (M (rA 2 M b 8)) i' = some l → l = x → (b, i') = (a, i) := fun b i' l hb hi' hl' z => (hB.te b hb i' l hi' hl').symm.trans (by rw [z]; exact (hB.te a ha i x hi hs))
  have rows : ∀ b j, j ≠ 22 → cax (sF M x 5 (.int v)) b j = cax M b j := fun b j hq => rowf_cases (fun j f => j ≠ 22 → f (sF M x 5 (.int v)) b = f M b) (fun hq => (vPl_c (cVt_sF hx 2 _ 12 (Or.inl (by decide))) (RFc_sF _ _ _ _ _) (fun _ _ _ _ => ⟨(cVt_sF hx 3 _ 1 (Or.inl (by decide))), (ALc_sF _ _ _ _ _)⟩))) (fun hq => (vLf_c 2 (cVt_sF hx 2 _ 12 (Or.inl (by decide))) (RFc_sF _ _ _ _ _) (fun _ _ _ _ => (cVt_sF hx 3 _ 2 (Or.inl (by decide)))))) (fun hq => (vLf_c 0 (cVt_sF hx 2 _ 12 (Or.inl (by decide))) (RFc_sF _ _ _ _ _) (fun _ _ _ _ => (cVt_sF hx 3 _ 0 (Or.inl (by decide)))))) (fun hq => (vWho_c (cVt_sF hx 2 _ 8 (Or.inl (by decide))) (RFc_sF _ _ _ _ _) (fun _ _ _ _ => ⟨(cVt_sF hx 9 _ 1 (Or.inr (Or.inl (by decide)))), (cVt_sF hx 4 _ 0 (Or.inl (by decide)))⟩))) (fun hq => (vTe_c 2 (cVt_sF hx 2 _ 8 (Or.inl (by decide))) (RFc_sF _ _ _ _ _) (fun _ _ _ _ => (cVt_sF hx 9 _ 2 (Or.inr (Or.inl (by decide))))))) (fun hq => (vTe_c 3 (cVt_sF hx 2 _ 8 (Or.inl (by decide))) (RFc_sF _ _ _ _ _) (fun _ _ _ _ => (cVt_sF hx 9 _ 3 (Or.inr (Or.inl (by decide))))))) (fun hq => absurd rfl hq) (fun hq => (vTe_c 6 (cVt_sF hx 2 _ 8 (Or.inl (by decide))) (RFc_sF _ _ _ _ _) (fun _ _ _ _ => (cVt_sF hx 9 _ 6 (Or.inr (Or.inl (by decide))))))) (fun hq => (vTe_c 7 (cVt_sF hx 2 _ 8 (Or.inl (by decide))) (RFc_sF _ _ _ _ _) (fun _ _ _ _ => (cVt_sF hx 9 _ 7 (Or.inr (Or.inl (by decide))))))) (fun hq => (vKd_c (cVt_sF hx 2 _ 8 (Or.inl (by decide))) (RFc_sF _ _ _ _ _) (fun _ _ _ _ => ⟨(cVt_sF hx 9 _ 1 (Or.inr (Or.inl (by decide)))), (cVt_sF hx 4 _ 1 (Or.inl (by decide)))⟩))) (fun hq => (vHr_c (cVt_sF hx 2 _ 8 (Or.inl (by decide))) (RFc_sF _ _ _ _ _) (fun _ _ _ _ => ⟨(cVt_sF hx 9 _ 8 (Or.inr (Or.inl (by decide)))), fun _ _ => (cVt_sF hx 9 _ 0 (Or.inr (Or.inl (by decide))))⟩))) (fun hq => (vTe_c 4 (cVt_sF hx 2 _ 8 (Or.inl (by decide))) (RFc_sF _ _ _ _ _) (fun _ _ _ _ => (cVt_sF hx 9 _ 4 (Or.inr (Or.inl (by decide))))))) (fun hq => (vOw_c (cVt_sF hx 2 _ 8 (Or.inl (by decide))) (RFc_sF _ _ _ _ _) (fun _ _ _ _ => ⟨(cVt_sF hx 9 _ 1 (Or.inr (Or.inl (by decide)))), (cVt_sF hx 4 _ 3 (Or.inl (by decide))), fun _ _ => (cVt_sF hx 2 _ 0 (Or.inl (by decide)))⟩))) (fun hq => (vTn_c (cVt_sF hx 2 _ 8 (Or.inl (by decide))) (RFc_sF _ _ _ _ _))) (fun hq => (vRn_c (cVt_sF hx 2 _ 10 (Or.inl (by decide))) (RFc_sF _ _ _ _ _))) (fun hq => (vRu_c 0 (cVt_sF hx 2 _ 10 (Or.inl (by decide))) (RFc_sF _ _ _ _ _) (fun _ _ _ _ => (cVt_sF hx 6 _ 0 (Or.inl (by decide)))))) (fun hq => (vRu_c 1 (cVt_sF hx 2 _ 10 (Or.inl (by decide))) (RFc_sF _ _ _ _ _) (fun _ _ _ _ => (cVt_sF hx 6 _ 1 (Or.inl (by decide)))))) (fun hq => (vTm_c (cVt_sF hx 2 _ 10 (Or.inl (by decide))) (RFc_sF _ _ _ _ _) (fun i9 l9 hi9 hl9 => ⟨(cVt_sF hx 6 _ 2 (Or.inl (by decide))), (IFc_sF _ _ _ _ _)⟩))) (fun hq => (vEn_c (cVt_sF hx 2 _ 3 (Or.inl (by decide))) (IFc_sF _ _ _ _ _))) (fun hq => (vMo_c (cVt_sF hx 2 _ 16 (Or.inl (by decide))) (cVt_sF hx 1 _ 0 (Or.inl (by decide))) (RFc_sF _ _ _ _ _) (fun _ _ _ _ => (cVt_sF hx 9 _ 0 (Or.inr (Or.inl (by decide))))))) (fun hq => (vDs_c 16 1 (cVt_sF hx 2 _ 16 (Or.inl (by decide))) (cVt_sF hx 1 _ 1 (Or.inl (by decide))) (IFc_sF _ _ _ _ _))) (fun hq => (vDs_c 16 2 (cVt_sF hx 2 _ 16 (Or.inl (by decide))) (cVt_sF hx 1 _ 2 (Or.inl (by decide))) (IFc_sF _ _ _ _ _))) (fun hq => (vDs_c 17 1 (cVt_sF hx 2 _ 17 (Or.inl (by decide))) (cVt_sF hx 1 _ 1 (Or.inl (by decide))) (IFc_sF _ _ _ _ _))) (fun hq => (vDs_c 17 2 (cVt_sF hx 2 _ 17 (Or.inl (by decide))) (cVt_sF hx 1 _ 2 (Or.inl (by decide))) (IFc_sF _ _ _ _ _))) (fun hq => (vUn_c (cVt_sF hx 2 _ 18 (Or.inl (by decide))) (cVt_sF hx 10 _ 0 (Or.inl (by decide))) (IFc_sF _ _ _ _ _))) (fun hq => (vLe_c (cVt_sF hx 2 _ 6 (Or.inl (by decide))) (IFc_sF _ _ _ _ _))) (fun hq => (vHe_c (cVt_sF hx 2 _ 7 (Or.inl (by decide))) (RFc_sF _ _ _ _ _) (fun _ _ _ _ => (cVt_sF hx 9 _ 0 (Or.inr (Or.inl (by decide))))))) (fun hq => (vEt_c (cVt_sF hx 2 _ 12 (Or.inl (by decide))) (RFc_sF _ _ _ _ _) (fun i9 l9 hi9 hl9 => ⟨(cVt_sF hx 3 _ 1 (Or.inl (by decide))), (IFc_sF _ _ _ _ _)⟩))) (fun _ => fun _ => rfl) j hq
  have rowr : ∀ b, isk K L b 2 0 → b ≠ a → cax (sF M x 5 (.int v)) b 22 = cax M b 22 := fun b hb q => vTe_c 5 (cVt_sF hx 2 _ 8 (Or.inl (by decide))) (RFc_sF _ _ _ _ _) (fun i' l hi' hl' => cVt_sF hx 9 l 5 (Or.inr (Or.inr (fun z => q (congrArg Prod.fst (hne b i' l hb hi' hl' z))))))
  have rowa : cax (sF M x 5 (.int v)) a 22 = upd (cax M a 22) i v := by
    funext i'
    show vTe 5 (sF M x 5 (.int v)) a i' = upd (vTe 5 M a) i v i'
    by_cases z : i' = i
    · subst z
      rw [upd_self]
      unfold vTe
      rw [if_pos hi, rA_c (cVt_sF hx 2 _ 8 (Or.inl (by decide))), RFc_sF, hs]
      exact cV_sF_self hx hl
    · rw [upd_ne _ _ z]
      unfold vTe
      rw [rA_c (cVt_sF hx 2 _ 8 (Or.inl (by decide))), RFc_sF]
      by_cases q : i' < 24
      · rw [if_pos q, if_pos q]
        cases e : RFc (M (rA 2 M a 8)) i' with
        | none => rfl
        | some l => exact cV_c (cVt_sF hx 9 l 5 (Or.inr (Or.inr (fun w => z (congrArg Prod.snd (hne a i' l ha q e w))))))
      · rw [if_neg q, if_neg q]
  have xs : ∀ b, cfx (sF M x 5 (.int v)) b = cfx M b := fun b => funext fun j => xf_cases (fun j f => f (sF M x 5 (.int v)) b = f M b) (congrArg Int32.toInt (cV_c (cVt_sF hx 2 _ 1 (Or.inl (by decide))))) (congrArg Int32.toInt (cV_c (cVt_sF hx 2 _ 2 (Or.inl (by decide))))) (congrArg Int32.toInt (cV_c (cVt_sF hx 2 _ 9 (Or.inl (by decide))))) (congrArg Int32.toInt (cV_c (cVt_sF hx 2 _ 11 (Or.inl (by decide))))) (congrArg Int32.toInt (cV_c (cVt_sF hx 2 _ 4 (Or.inl (by decide))))) (congrArg Int32.toInt (cV_c (cVt_sF hx 2 _ 5 (Or.inl (by decide))))) (congrArg Int32.toInt (cV_c (cVt_sF hx 2 _ 15 (Or.inl (by decide))))) (congrArg Int32.toInt (cV_c (cVt_sF hx 2 _ 0 (Or.inl (by decide))))) (x1_c 16 (cVt_sF hx 2 _ 16 (Or.inl (by decide))) (cVt_sF hx 1 _ 3 (Or.inl (by decide)))) (x1_c 17 (cVt_sF hx 2 _ 17 (Or.inl (by decide))) (cVt_sF hx 1 _ 3 (Or.inl (by decide)))) (x10_c 2 (cVt_sF hx 2 _ 18 (Or.inl (by decide))) (cVt_sF hx 10 _ 2 (Or.inl (by decide)))) (x10_c 1 (cVt_sF hx 2 _ 18 (Or.inl (by decide))) (cVt_sF hx 10 _ 1 (Or.inl (by decide)))) (fun j => (lf_c (vLo_c 12 (cVt_sF hx 2 _ 8 (Or.inl (by decide))) (RFc_sF _ _ _ _ _) (fun _ _ _ _ => (cVt_sF hx 9 _ 12 (Or.inr (Or.inl (by decide)))))) j)) j
  refine ⟨fun b hb q => ⟨(xs b).trans (h1 b hb q).1, (funext fun j => ?_ : cax (sF M x 5 (.int v)) b = cax M b).trans (h1 b hb q).2⟩, (xs a).trans h2, ?_, hB.c (fun b hb j hj => (cVt_sF hx 2 _ j (Or.inl (by decide)))) (fun b hb j hj => ⟨(cVt_sF hx 1 _ j (Or.inl (by decide))), (cVt_sF hx 1 _ j (Or.inl (by decide)))⟩) (fun b hb => (cVt_sF hx 10 _ 0 (Or.inl (by decide)))) (fun b hb i l hi hl => (cVt_sF hx 6 _ 2 (Or.inl (by decide)))) (fun b hb => RFc_sF _ _ _ _ _) (fun b hb => RFc_sF _ _ _ _ _) (fun b hb => RFc_sF _ _ _ _ _) (fun b hb i l hi hl => (cVt_sF hx 9 _ 0 (Or.inr (Or.inl (by decide))))) (fun b hb => RFc_sF _ _ _ _ _) (fun b hb i l hi hl => (cVt_sF hx 3 _ 1 (Or.inl (by decide))))⟩
  · by_cases z : j = 22
    · rw [z]
      exact rowr b hb q
    · exact rows b j z
  · rw [← h3]
    exact cax_up 22 (fun j hj => rows a j hj) rowa
theorem VC.s9_6 {cy : Nat → ClassId} {B : Nat → Nat × Nat} {K : Kp} {L : List Nat} {M0 M : Hp} {a x i : Nat} {X : Nat → Int} {Y : Nat → Nat → Int32} {fs : List Value} {v : Int32} (h : VC B K L M0 M a X Y) (hW : WOK cy K L M) (ha : isk K L a 2 0) (hi : i < 24) (hs : RFc (M (rA 2 M a 8)) i = some x) (hx : M x = .inr (9, fs)) (hl : 6 < fs.length) : VC B K L M0 (sF M x 6 (.int v)) a X (va_up Y 23 (upd (Y 23) i v)) := by
  obtain ⟨h1, h2, h3, hB⟩ := h
  have hne : ∀ b i' l, isk K L b 2 0 → i' < 24 → RFc (M (rA 2 M b 8)) i' = some l → l = x → (b, i') = (a, i) := fun b i' l hb hi' hl' z => (hB.te b hb i' l hi' hl').symm.trans (by rw [z]; exact (hB.te a ha i x hi hs))
  have rows : ∀ b j, j ≠ 23 → cax (sF M x 6 (.int v)) b j = cax M b j := fun b j hq => rowf_cases (fun j f => j ≠ 23 → f (sF M x 6 (.int v)) b = f M b) (fun hq => (vPl_c (cVt_sF hx 2 _ 12 (Or.inl (by decide))) (RFc_sF _ _ _ _ _) (fun _ _ _ _ => ⟨(cVt_sF hx 3 _ 1 (Or.inl (by decide))), (ALc_sF _ _ _ _ _)⟩))) (fun hq => (vLf_c 2 (cVt_sF hx 2 _ 12 (Or.inl (by decide))) (RFc_sF _ _ _ _ _) (fun _ _ _ _ => (cVt_sF hx 3 _ 2 (Or.inl (by decide)))))) (fun hq => (vLf_c 0 (cVt_sF hx 2 _ 12 (Or.inl (by decide))) (RFc_sF _ _ _ _ _) (fun _ _ _ _ => (cVt_sF hx 3 _ 0 (Or.inl (by decide)))))) (fun hq => (vWho_c (cVt_sF hx 2 _ 8 (Or.inl (by decide))) (RFc_sF _ _ _ _ _) (fun _ _ _ _ => ⟨(cVt_sF hx 9 _ 1 (Or.inr (Or.inl (by decide)))), (cVt_sF hx 4 _ 0 (Or.inl (by decide)))⟩))) (fun hq => (vTe_c 2 (cVt_sF hx 2 _ 8 (Or.inl (by decide))) (RFc_sF _ _ _ _ _) (fun _ _ _ _ => (cVt_sF hx 9 _ 2 (Or.inr (Or.inl (by decide))))))) (fun hq => (vTe_c 3 (cVt_sF hx 2 _ 8 (Or.inl (by decide))) (RFc_sF _ _ _ _ _) (fun _ _ _ _ => (cVt_sF hx 9 _ 3 (Or.inr (Or.inl (by decide))))))) (fun hq => (vTe_c 5 (cVt_sF hx 2 _ 8 (Or.inl (by decide))) (RFc_sF _ _ _ _ _) (fun _ _ _ _ => (cVt_sF hx 9 _ 5 (Or.inr (Or.inl (by decide))))))) (fun hq => absurd rfl hq) (fun hq => (vTe_c 7 (cVt_sF hx 2 _ 8 (Or.inl (by decide))) (RFc_sF _ _ _ _ _) (fun _ _ _ _ => (cVt_sF hx 9 _ 7 (Or.inr (Or.inl (by decide))))))) (fun hq => (vKd_c (cVt_sF hx 2 _ 8 (Or.inl (by decide))) (RFc_sF _ _ _ _ _) (fun _ _ _ _ => ⟨(cVt_sF hx 9 _ 1 (Or.inr (Or.inl (by decide)))), (cVt_sF hx 4 _ 1 (Or.inl (by decide)))⟩))) (fun hq => (vHr_c (cVt_sF hx 2 _ 8 (Or.inl (by decide))) (RFc_sF _ _ _ _ _) (fun _ _ _ _ => ⟨(cVt_sF hx 9 _ 8 (Or.inr (Or.inl (by decide)))), fun _ _ => (cVt_sF hx 9 _ 0 (Or.inr (Or.inl (by decide))))⟩))) (fun hq => (vTe_c 4 (cVt_sF hx 2 _ 8 (Or.inl (by decide))) (RFc_sF _ _ _ _ _) (fun _ _ _ _ => (cVt_sF hx 9 _ 4 (Or.inr (Or.inl (by decide))))))) (fun hq => (vOw_c (cVt_sF hx 2 _ 8 (Or.inl (by decide))) (RFc_sF _ _ _ _ _) (fun _ _ _ _ => ⟨(cVt_sF hx 9 _ 1 (Or.inr (Or.inl (by decide)))), (cVt_sF hx 4 _ 3 (Or.inl (by decide))), fun _ _ => (cVt_sF hx 2 _ 0 (Or.inl (by decide)))⟩))) (fun hq => (vTn_c (cVt_sF hx 2 _ 8 (Or.inl (by decide))) (RFc_sF _ _ _ _ _))) (fun hq => (vRn_c (cVt_sF hx 2 _ 10 (Or.inl (by decide))) (RFc_sF _ _ _ _ _))) (fun hq => (vRu_c 0 (cVt_sF hx 2 _ 10 (Or.inl (by decide))) (RFc_sF _ _ _ _ _) (fun _ _ _ _ => (cVt_sF hx 6 _ 0 (Or.inl (by decide)))))) (fun hq => (vRu_c 1 (cVt_sF hx 2 _ 10 (Or.inl (by decide))) (RFc_sF _ _ _ _ _) (fun _ _ _ _ => (cVt_sF hx 6 _ 1 (Or.inl (by decide)))))) (fun hq => (vTm_c (cVt_sF hx 2 _ 10 (Or.inl (by decide))) (RFc_sF _ _ _ _ _) (fun i9 l9 hi9 hl9 => ⟨(cVt_sF hx 6 _ 2 (Or.inl (by decide))), (IFc_sF _ _ _ _ _)⟩))) (fun hq => (vEn_c (cVt_sF hx 2 _ 3 (Or.inl (by decide))) (IFc_sF _ _ _ _ _))) (fun hq => (vMo_c (cVt_sF hx 2 _ 16 (Or.inl (by decide))) (cVt_sF hx 1 _ 0 (Or.inl (by decide))) (RFc_sF _ _ _ _ _) (fun _ _ _ _ => (cVt_sF hx 9 _ 0 (Or.inr (Or.inl (by decide))))))) (fun hq => (vDs_c 16 1 (cVt_sF hx 2 _ 16 (Or.inl (by decide))) (cVt_sF hx 1 _ 1 (Or.inl (by decide))) (IFc_sF _ _ _ _ _))) (fun hq => (vDs_c 16 2 (cVt_sF hx 2 _ 16 (Or.inl (by decide))) (cVt_sF hx 1 _ 2 (Or.inl (by decide))) (IFc_sF _ _ _ _ _))) (fun hq => (vDs_c 17 1 (cVt_sF hx 2 _ 17 (Or.inl (by decide))) (cVt_sF hx 1 _ 1 (Or.inl (by decide))) (IFc_sF _ _ _ _ _))) (fun hq => (vDs_c 17 2 (cVt_sF hx 2 _ 17 (Or.inl (by decide))) (cVt_sF hx 1 _ 2 (Or.inl (by decide))) (IFc_sF _ _ _ _ _))) (fun hq => (vUn_c (cVt_sF hx 2 _ 18 (Or.inl (by decide))) (cVt_sF hx 10 _ 0 (Or.inl (by decide))) (IFc_sF _ _ _ _ _))) (fun hq => (vLe_c (cVt_sF hx 2 _ 6 (Or.inl (by decide))) (IFc_sF _ _ _ _ _))) (fun hq => (vHe_c (cVt_sF hx 2 _ 7 (Or.inl (by decide))) (RFc_sF _ _ _ _ _) (fun _ _ _ _ => (cVt_sF hx 9 _ 0 (Or.inr (Or.inl (by decide))))))) (fun hq => (vEt_c (cVt_sF hx 2 _ 12 (Or.inl (by decide))) (RFc_sF _ _ _ _ _) (fun i9 l9 hi9 hl9 => ⟨(cVt_sF hx 3 _ 1 (Or.inl (by decide))), (IFc_sF _ _ _ _ _)⟩))) (fun _ => fun _ => rfl) j hq
  have rowr : ∀ b, isk K L b 2 0 → b ≠ a → cax (sF M x 6 (.int v)) b 23 = cax M b 23 := fun b hb q => vTe_c 6 (cVt_sF hx 2 _ 8 (Or.inl (by decide))) (RFc_sF _ _ _ _ _) (fun i' l hi' hl' => cVt_sF hx 9 l 6 (Or.inr (Or.inr (fun z => q (congrArg Prod.fst (hne b i' l hb hi' hl' z))))))
  have rowa : cax (sF M x 6 (.int v)) a 23 = upd (cax M a 23) i v := by
    funext i'
    show vTe 6 (sF M x 6 (.int v)) a i' = upd (vTe 6 M a) i v i'
    by_cases z : i' = i
    · subst z
      rw [upd_self]
      unfold vTe
      rw [if_pos hi, rA_c (cVt_sF hx 2 _ 8 (Or.inl (by decide))), RFc_sF, hs]
      exact cV_sF_self hx hl
    · rw [upd_ne _ _ z]
      unfold vTe
      rw [rA_c (cVt_sF hx 2 _ 8 (Or.inl (by decide))), RFc_sF]
      by_cases q : i' < 24
      · rw [if_pos q, if_pos q]
        cases e : RFc (M (rA 2 M a 8)) i' with
        | none => rfl
        | some l => exact cV_c (cVt_sF hx 9 l 6 (Or.inr (Or.inr (fun w => z (congrArg Prod.snd (hne a i' l ha q e w))))))
      · rw [if_neg q, if_neg q]
  have xs : ∀ b, cfx (sF M x 6 (.int v)) b = cfx M b := fun b => funext fun j => xf_cases (fun j f => f (sF M x 6 (.int v)) b = f M b) (congrArg Int32.toInt (cV_c (cVt_sF hx 2 _ 1 (Or.inl (by decide))))) (congrArg Int32.toInt (cV_c (cVt_sF hx 2 _ 2 (Or.inl (by decide))))) (congrArg Int32.toInt (cV_c (cVt_sF hx 2 _ 9 (Or.inl (by decide))))) (congrArg Int32.toInt (cV_c (cVt_sF hx 2 _ 11 (Or.inl (by decide))))) (congrArg Int32.toInt (cV_c (cVt_sF hx 2 _ 4 (Or.inl (by decide))))) (congrArg Int32.toInt (cV_c (cVt_sF hx 2 _ 5 (Or.inl (by decide))))) (congrArg Int32.toInt (cV_c (cVt_sF hx 2 _ 15 (Or.inl (by decide))))) (congrArg Int32.toInt (cV_c (cVt_sF hx 2 _ 0 (Or.inl (by decide))))) (x1_c 16 (cVt_sF hx 2 _ 16 (Or.inl (by decide))) (cVt_sF hx 1 _ 3 (Or.inl (by decide)))) (x1_c 17 (cVt_sF hx 2 _ 17 (Or.inl (by decide))) (cVt_sF hx 1 _ 3 (Or.inl (by decide)))) (x10_c 2 (cVt_sF hx 2 _ 18 (Or.inl (by decide))) (cVt_sF hx 10 _ 2 (Or.inl (by decide)))) (x10_c 1 (cVt_sF hx 2 _ 18 (Or.inl (by decide))) (cVt_sF hx 10 _ 1 (Or.inl (by decide)))) (fun j => (lf_c (vLo_c 12 (cVt_sF hx 2 _ 8 (Or.inl (by decide))) (RFc_sF _ _ _ _ _) (fun _ _ _ _ => (cVt_sF hx 9 _ 12 (Or.inr (Or.inl (by decide)))))) j)) j
  refine ⟨fun b hb q => ⟨(xs b).trans (h1 b hb q).1, (funext fun j => ?_ : cax (sF M x 6 (.int v)) b = cax M b).trans (h1 b hb q).2⟩, (xs a).trans h2, ?_, hB.c (fun b hb j hj => (cVt_sF hx 2 _ j (Or.inl (by decide)))) (fun b hb j hj => ⟨(cVt_sF hx 1 _ j (Or.inl (by decide))), (cVt_sF hx 1 _ j (Or.inl (by decide)))⟩) (fun b hb => (cVt_sF hx 10 _ 0 (Or.inl (by decide)))) (fun b hb i l hi hl => (cVt_sF hx 6 _ 2 (Or.inl (by decide)))) (fun b hb => RFc_sF _ _ _ _ _) (fun b hb => RFc_sF _ _ _ _ _) (fun b hb => RFc_sF _ _ _ _ _) (fun b hb i l hi hl => (cVt_sF hx 9 _ 0 (Or.inr (Or.inl (by decide))))) (fun b hb => RFc_sF _ _ _ _ _) (fun b hb i l hi hl => (cVt_sF hx 3 _ 1 (Or.inl (by decide))))⟩
  · by_cases z : j = 23
    · rw [z]
      exact rowr b hb q
    · exact rows b j z
  · rw [← h3]
    exact cax_up 23 (fun j hj => rows a j hj) rowa
theorem VC.s9_7 {cy : Nat → ClassId} {B : Nat → Nat × Nat} {K : Kp} {L : List Nat} {M0 M : Hp} {a x i : Nat} {X : Nat → Int} {Y : Nat → Nat → Int32} {fs : List Value} {v : Int32} (h : VC B K L M0 M a X Y) (hW : WOK cy K L M) (ha : isk K L a 2 0) (hi : i < 24) (hs : RFc (M (rA 2 M a 8)) i = some x) (hx : M x = .inr (9, fs)) (hl : 7 < fs.length) : VC B K L M0 (sF M x 7 (.int v)) a X (va_up Y 24 (upd (Y 24) i v)) := by
  obtain ⟨h1, h2, h3, hB⟩ := h
  have hne : ∀ b i' l, isk K L b 2 0 → i' < 24 → RFc (M (rA 2 M b 8)) i' = some l → l = x → (b, i') = (a, i) := fun b i' l hb hi' hl' z => (hB.te b hb i' l hi' hl').symm.trans (by rw [z]; exact (hB.te a ha i x hi hs))
  have rows : ∀ b j, j ≠ 24 → cax (sF M x 7 (.int v)) b j = cax M b j := fun b j hq => rowf_cases (fun j f => j ≠ 24 → f (sF M x 7 (.int v)) b = f M b) (fun hq => (vPl_c (cVt_sF hx 2 _ 12 (Or.inl (by decide))) (RFc_sF _ _ _ _ _) (fun _ _ _ _ => ⟨(cVt_sF hx 3 _ 1 (Or.inl (by decide))), (ALc_sF _ _ _ _ _)⟩))) (fun hq => (vLf_c 2 (cVt_sF hx 2 _ 12 (Or.inl (by decide))) (RFc_sF _ _ _ _ _) (fun _ _ _ _ => (cVt_sF hx 3 _ 2 (Or.inl (by decide)))))) (fun hq => (vLf_c 0 (cVt_sF hx 2 _ 12 (Or.inl (by decide))) (RFc_sF _ _ _ _ _) (fun _ _ _ _ => (cVt_sF hx 3 _ 0 (Or.inl (by decide)))))) (fun hq => (vWho_c (cVt_sF hx 2 _ 8 (Or.inl (by decide))) (RFc_sF _ _ _ _ _) (fun _ _ _ _ => ⟨(cVt_sF hx 9 _ 1 (Or.inr (Or.inl (by decide)))), (cVt_sF hx 4 _ 0 (Or.inl (by decide)))⟩))) (fun hq => (vTe_c 2 (cVt_sF hx 2 _ 8 (Or.inl (by decide))) (RFc_sF _ _ _ _ _) (fun _ _ _ _ => (cVt_sF hx 9 _ 2 (Or.inr (Or.inl (by decide))))))) (fun hq => (vTe_c 3 (cVt_sF hx 2 _ 8 (Or.inl (by decide))) (RFc_sF _ _ _ _ _) (fun _ _ _ _ => (cVt_sF hx 9 _ 3 (Or.inr (Or.inl (by decide))))))) (fun hq => (vTe_c 5 (cVt_sF hx 2 _ 8 (Or.inl (by decide))) (RFc_sF _ _ _ _ _) (fun _ _ _ _ => (cVt_sF hx 9 _ 5 (Or.inr (Or.inl (by decide))))))) (fun hq => (vTe_c 6 (cVt_sF hx 2 _ 8 (Or.inl (by decide))) (RFc_sF _ _ _ _ _) (fun _ _ _ _ => (cVt_sF hx 9 _ 6 (Or.inr (Or.inl (by decide))))))) (fun hq => absurd rfl hq) (fun hq => (vKd_c (cVt_sF hx 2 _ 8 (Or.inl (by decide))) (RFc_sF _ _ _ _ _) (fun _ _ _ _ => ⟨(cVt_sF hx 9 _ 1 (Or.inr (Or.inl (by decide)))), (cVt_sF hx 4 _ 1 (Or.inl (by decide)))⟩))) (fun hq => (vHr_c (cVt_sF hx 2 _ 8 (Or.inl (by decide))) (RFc_sF _ _ _ _ _) (fun _ _ _ _ => ⟨(cVt_sF hx 9 _ 8 (Or.inr (Or.inl (by decide)))), fun _ _ => (cVt_sF hx 9 _ 0 (Or.inr (Or.inl (by decide))))⟩))) (fun hq => (vTe_c 4 (cVt_sF hx 2 _ 8 (Or.inl (by decide))) (RFc_sF _ _ _ _ _) (fun _ _ _ _ => (cVt_sF hx 9 _ 4 (Or.inr (Or.inl (by decide))))))) (fun hq => (vOw_c (cVt_sF hx 2 _ 8 (Or.inl (by decide))) (RFc_sF _ _ _ _ _) (fun _ _ _ _ => ⟨(cVt_sF hx 9 _ 1 (Or.inr (Or.inl (by decide)))), (cVt_sF hx 4 _ 3 (Or.inl (by decide))), fun _ _ => (cVt_sF hx 2 _ 0 (Or.inl (by decide)))⟩))) (fun hq => (vTn_c (cVt_sF hx 2 _ 8 (Or.inl (by decide))) (RFc_sF _ _ _ _ _))) (fun hq => (vRn_c (cVt_sF hx 2 _ 10 (Or.inl (by decide))) (RFc_sF _ _ _ _ _))) (fun hq => (vRu_c 0 (cVt_sF hx 2 _ 10 (Or.inl (by decide))) (RFc_sF _ _ _ _ _) (fun _ _ _ _ => (cVt_sF hx 6 _ 0 (Or.inl (by decide)))))) (fun hq => (vRu_c 1 (cVt_sF hx 2 _ 10 (Or.inl (by decide))) (RFc_sF _ _ _ _ _) (fun _ _ _ _ => (cVt_sF hx 6 _ 1 (Or.inl (by decide)))))) (fun hq => (vTm_c (cVt_sF hx 2 _ 10 (Or.inl (by decide))) (RFc_sF _ _ _ _ _) (fun i9 l9 hi9 hl9 => ⟨(cVt_sF hx 6 _ 2 (Or.inl (by decide))), (IFc_sF _ _ _ _ _)⟩))) (fun hq => (vEn_c (cVt_sF hx 2 _ 3 (Or.inl (by decide))) (IFc_sF _ _ _ _ _))) (fun hq => (vMo_c (cVt_sF hx 2 _ 16 (Or.inl (by decide))) (cVt_sF hx 1 _ 0 (Or.inl (by decide))) (RFc_sF _ _ _ _ _) (fun _ _ _ _ => (cVt_sF hx 9 _ 0 (Or.inr (Or.inl (by decide))))))) (fun hq => (vDs_c 16 1 (cVt_sF hx 2 _ 16 (Or.inl (by decide))) (cVt_sF hx 1 _ 1 (Or.inl (by decide))) (IFc_sF _ _ _ _ _))) (fun hq => (vDs_c 16 2 (cVt_sF hx 2 _ 16 (Or.inl (by decide))) (cVt_sF hx 1 _ 2 (Or.inl (by decide))) (IFc_sF _ _ _ _ _))) (fun hq => (vDs_c 17 1 (cVt_sF hx 2 _ 17 (Or.inl (by decide))) (cVt_sF hx 1 _ 1 (Or.inl (by decide))) (IFc_sF _ _ _ _ _))) (fun hq => (vDs_c 17 2 (cVt_sF hx 2 _ 17 (Or.inl (by decide))) (cVt_sF hx 1 _ 2 (Or.inl (by decide))) (IFc_sF _ _ _ _ _))) (fun hq => (vUn_c (cVt_sF hx 2 _ 18 (Or.inl (by decide))) (cVt_sF hx 10 _ 0 (Or.inl (by decide))) (IFc_sF _ _ _ _ _))) (fun hq => (vLe_c (cVt_sF hx 2 _ 6 (Or.inl (by decide))) (IFc_sF _ _ _ _ _))) (fun hq => (vHe_c (cVt_sF hx 2 _ 7 (Or.inl (by decide))) (RFc_sF _ _ _ _ _) (fun _ _ _ _ => (cVt_sF hx 9 _ 0 (Or.inr (Or.inl (by decide))))))) (fun hq => (vEt_c (cVt_sF hx 2 _ 12 (Or.inl (by decide))) (RFc_sF _ _ _ _ _) (fun i9 l9 hi9 hl9 => ⟨(cVt_sF hx 3 _ 1 (Or.inl (by decide))), (IFc_sF _ _ _ _ _)⟩))) (fun _ => fun _ => rfl) j hq
  have rowr : ∀ b, isk K L b 2 0 → b ≠ a → cax (sF M x 7 (.int v)) b 24 = cax M b 24 := fun b hb q => vTe_c 7 (cVt_sF hx 2 _ 8 (Or.inl (by decide))) (RFc_sF _ _ _ _ _) (fun i' l hi' hl' => cVt_sF hx 9 l 7 (Or.inr (Or.inr (fun z => q (congrArg Prod.fst (hne b i' l hb hi' hl' z))))))
  have rowa : cax (sF M x 7 (.int v)) a 24 = upd (cax M a 24) i v := by
    funext i'
    show vTe 7 (sF M x 7 (.int v)) a i' = upd (vTe 7 M a) i v i'
    by_cases z : i' = i
    · subst z
      rw [upd_self]
      unfold vTe
      rw [if_pos hi, rA_c (cVt_sF hx 2 _ 8 (Or.inl (by decide))), RFc_sF, hs]
      exact cV_sF_self hx hl
    · rw [upd_ne _ _ z]
      unfold vTe
      rw [rA_c (cVt_sF hx 2 _ 8 (Or.inl (by decide))), RFc_sF]
      by_cases q : i' < 24
      · rw [if_pos q, if_pos q]
        cases e : RFc (M (rA 2 M a 8)) i' with
        | none => rfl
        | some l => exact cV_c (cVt_sF hx 9 l 7 (Or.inr (Or.inr (fun w => z (congrArg Prod.snd (hne a i' l ha q e w))))))
      · rw [if_neg q, if_neg q]
  have xs : ∀ b, cfx (sF M x 7 (.int v)) b = cfx M b := fun b => funext fun j => xf_cases (fun j f => f (sF M x 7 (.int v)) b = f M b) (congrArg Int32.toInt (cV_c (cVt_sF hx 2 _ 1 (Or.inl (by decide))))) (congrArg Int32.toInt (cV_c (cVt_sF hx 2 _ 2 (Or.inl (by decide))))) (congrArg Int32.toInt (cV_c (cVt_sF hx 2 _ 9 (Or.inl (by decide))))) (congrArg Int32.toInt (cV_c (cVt_sF hx 2 _ 11 (Or.inl (by decide))))) (congrArg Int32.toInt (cV_c (cVt_sF hx 2 _ 4 (Or.inl (by decide))))) (congrArg Int32.toInt (cV_c (cVt_sF hx 2 _ 5 (Or.inl (by decide))))) (congrArg Int32.toInt (cV_c (cVt_sF hx 2 _ 15 (Or.inl (by decide))))) (congrArg Int32.toInt (cV_c (cVt_sF hx 2 _ 0 (Or.inl (by decide))))) (x1_c 16 (cVt_sF hx 2 _ 16 (Or.inl (by decide))) (cVt_sF hx 1 _ 3 (Or.inl (by decide)))) (x1_c 17 (cVt_sF hx 2 _ 17 (Or.inl (by decide))) (cVt_sF hx 1 _ 3 (Or.inl (by decide)))) (x10_c 2 (cVt_sF hx 2 _ 18 (Or.inl (by decide))) (cVt_sF hx 10 _ 2 (Or.inl (by decide)))) (x10_c 1 (cVt_sF hx 2 _ 18 (Or.inl (by decide))) (cVt_sF hx 10 _ 1 (Or.inl (by decide)))) (fun j => (lf_c (vLo_c 12 (cVt_sF hx 2 _ 8 (Or.inl (by decide))) (RFc_sF _ _ _ _ _) (fun _ _ _ _ => (cVt_sF hx 9 _ 12 (Or.inr (Or.inl (by decide)))))) j)) j
  refine ⟨fun b hb q => ⟨(xs b).trans (h1 b hb q).1, (funext fun j => ?_ : cax (sF M x 7 (.int v)) b = cax M b).trans (h1 b hb q).2⟩, (xs a).trans h2, ?_, hB.c (fun b hb j hj => (cVt_sF hx 2 _ j (Or.inl (by decide)))) (fun b hb j hj => ⟨(cVt_sF hx 1 _ j (Or.inl (by decide))), (cVt_sF hx 1 _ j (Or.inl (by decide)))⟩) (fun b hb => (cVt_sF hx 10 _ 0 (Or.inl (by decide)))) (fun b hb i l hi hl => (cVt_sF hx 6 _ 2 (Or.inl (by decide)))) (fun b hb => RFc_sF _ _ _ _ _) (fun b hb => RFc_sF _ _ _ _ _) (fun b hb => RFc_sF _ _ _ _ _) (fun b hb i l hi hl => (cVt_sF hx 9 _ 0 (Or.inr (Or.inl (by decide))))) (fun b hb => RFc_sF _ _ _ _ _) (fun b hb i l hi hl => (cVt_sF hx 3 _ 1 (Or.inl (by decide))))⟩
  · by_cases z : j = 24
    · rw [z]
      exact rowr b hb q
    · exact rows b j z
  · rw [← h3]
    exact cax_up 24 (fun j hj => rows a j hj) rowa
theorem VC.s3_2 {cy : Nat → ClassId} {B : Nat → Nat × Nat} {K : Kp} {L : List Nat} {M0 M : Hp} {a x i : Nat} {X : Nat → Int} {Y : Nat → Nat → Int32} {fs : List Value} {v : Int32} (h : VC B K L M0 M a X Y) (hW : WOK cy K L M) (ha : isk K L a 2 0) (hi : i < 1000) (hs : RFc (M (rA 2 M a 12)) i = some x) (hx : M x = .inr (3, fs)) (hl : 2 < fs.length) : VC B K L M0 (sF M x 2 (.int v)) a X (va_up Y 3 (upd (Y 3) i v)) := by
  obtain ⟨h1, h2, h3, hB⟩ := h
  have hne : ∀ b i' l, isk K L b 2 0 → i' < 1000 → RFc (M (rA 2 M b 12)) i' = some l → l = x → (b, i') = (a, i) := fun b i' l hb hi' hl' z => (hB.lf b hb i' l hi' hl').1.symm.trans (by rw [z]; exact (hB.lf a ha i x hi hs).1)
  have rows : ∀ b j, j ≠ 3 → cax (sF M x 2 (.int v)) b j = cax M b j := fun b j hq => rowf_cases (fun j f => j ≠ 3 → f (sF M x 2 (.int v)) b = f M b) (fun hq => (vPl_c (cVt_sF hx 2 _ 12 (Or.inl (by decide))) (RFc_sF _ _ _ _ _) (fun _ _ _ _ => ⟨(cVt_sF hx 3 _ 1 (Or.inr (Or.inl (by decide)))), (ALc_sF _ _ _ _ _)⟩))) (fun hq => absurd rfl hq) (fun hq => (vLf_c 0 (cVt_sF hx 2 _ 12 (Or.inl (by decide))) (RFc_sF _ _ _ _ _) (fun _ _ _ _ => (cVt_sF hx 3 _ 0 (Or.inr (Or.inl (by decide))))))) (fun hq => (vWho_c (cVt_sF hx 2 _ 8 (Or.inl (by decide))) (RFc_sF _ _ _ _ _) (fun _ _ _ _ => ⟨(cVt_sF hx 9 _ 1 (Or.inl (by decide))), (cVt_sF hx 4 _ 0 (Or.inl (by decide)))⟩))) (fun hq => (vTe_c 2 (cVt_sF hx 2 _ 8 (Or.inl (by decide))) (RFc_sF _ _ _ _ _) (fun _ _ _ _ => (cVt_sF hx 9 _ 2 (Or.inl (by decide)))))) (fun hq => (vTe_c 3 (cVt_sF hx 2 _ 8 (Or.inl (by decide))) (RFc_sF _ _ _ _ _) (fun _ _ _ _ => (cVt_sF hx 9 _ 3 (Or.inl (by decide)))))) (fun hq => (vTe_c 5 (cVt_sF hx 2 _ 8 (Or.inl (by decide))) (RFc_sF _ _ _ _ _) (fun _ _ _ _ => (cVt_sF hx 9 _ 5 (Or.inl (by decide)))))) (fun hq => (vTe_c 6 (cVt_sF hx 2 _ 8 (Or.inl (by decide))) (RFc_sF _ _ _ _ _) (fun _ _ _ _ => (cVt_sF hx 9 _ 6 (Or.inl (by decide)))))) (fun hq => (vTe_c 7 (cVt_sF hx 2 _ 8 (Or.inl (by decide))) (RFc_sF _ _ _ _ _) (fun _ _ _ _ => (cVt_sF hx 9 _ 7 (Or.inl (by decide)))))) (fun hq => (vKd_c (cVt_sF hx 2 _ 8 (Or.inl (by decide))) (RFc_sF _ _ _ _ _) (fun _ _ _ _ => ⟨(cVt_sF hx 9 _ 1 (Or.inl (by decide))), (cVt_sF hx 4 _ 1 (Or.inl (by decide)))⟩))) (fun hq => (vHr_c (cVt_sF hx 2 _ 8 (Or.inl (by decide))) (RFc_sF _ _ _ _ _) (fun _ _ _ _ => ⟨(cVt_sF hx 9 _ 8 (Or.inl (by decide))), fun _ _ => (cVt_sF hx 9 _ 0 (Or.inl (by decide)))⟩))) (fun hq => (vTe_c 4 (cVt_sF hx 2 _ 8 (Or.inl (by decide))) (RFc_sF _ _ _ _ _) (fun _ _ _ _ => (cVt_sF hx 9 _ 4 (Or.inl (by decide)))))) (fun hq => (vOw_c (cVt_sF hx 2 _ 8 (Or.inl (by decide))) (RFc_sF _ _ _ _ _) (fun _ _ _ _ => ⟨(cVt_sF hx 9 _ 1 (Or.inl (by decide))), (cVt_sF hx 4 _ 3 (Or.inl (by decide))), fun _ _ => (cVt_sF hx 2 _ 0 (Or.inl (by decide)))⟩))) (fun hq => (vTn_c (cVt_sF hx 2 _ 8 (Or.inl (by decide))) (RFc_sF _ _ _ _ _))) (fun hq => (vRn_c (cVt_sF hx 2 _ 10 (Or.inl (by decide))) (RFc_sF _ _ _ _ _))) (fun hq => (vRu_c 0 (cVt_sF hx 2 _ 10 (Or.inl (by decide))) (RFc_sF _ _ _ _ _) (fun _ _ _ _ => (cVt_sF hx 6 _ 0 (Or.inl (by decide)))))) (fun hq => (vRu_c 1 (cVt_sF hx 2 _ 10 (Or.inl (by decide))) (RFc_sF _ _ _ _ _) (fun _ _ _ _ => (cVt_sF hx 6 _ 1 (Or.inl (by decide)))))) (fun hq => (vTm_c (cVt_sF hx 2 _ 10 (Or.inl (by decide))) (RFc_sF _ _ _ _ _) (fun i9 l9 hi9 hl9 => ⟨(cVt_sF hx 6 _ 2 (Or.inl (by decide))), (IFc_sF _ _ _ _ _)⟩))) (fun hq => (vEn_c (cVt_sF hx 2 _ 3 (Or.inl (by decide))) (IFc_sF _ _ _ _ _))) (fun hq => (vMo_c (cVt_sF hx 2 _ 16 (Or.inl (by decide))) (cVt_sF hx 1 _ 0 (Or.inl (by decide))) (RFc_sF _ _ _ _ _) (fun _ _ _ _ => (cVt_sF hx 9 _ 0 (Or.inl (by decide)))))) (fun hq => (vDs_c 16 1 (cVt_sF hx 2 _ 16 (Or.inl (by decide))) (cVt_sF hx 1 _ 1 (Or.inl (by decide))) (IFc_sF _ _ _ _ _))) (fun hq => (vDs_c 16 2 (cVt_sF hx 2 _ 16 (Or.inl (by decide))) (cVt_sF hx 1 _ 2 (Or.inl (by decide))) (IFc_sF _ _ _ _ _))) (fun hq => (vDs_c 17 1 (cVt_sF hx 2 _ 17 (Or.inl (by decide))) (cVt_sF hx 1 _ 1 (Or.inl (by decide))) (IFc_sF _ _ _ _ _))) (fun hq => (vDs_c 17 2 (cVt_sF hx 2 _ 17 (Or.inl (by decide))) (cVt_sF hx 1 _ 2 (Or.inl (by decide))) (IFc_sF _ _ _ _ _))) (fun hq => (vUn_c (cVt_sF hx 2 _ 18 (Or.inl (by decide))) (cVt_sF hx 10 _ 0 (Or.inl (by decide))) (IFc_sF _ _ _ _ _))) (fun hq => (vLe_c (cVt_sF hx 2 _ 6 (Or.inl (by decide))) (IFc_sF _ _ _ _ _))) (fun hq => (vHe_c (cVt_sF hx 2 _ 7 (Or.inl (by decide))) (RFc_sF _ _ _ _ _) (fun _ _ _ _ => (cVt_sF hx 9 _ 0 (Or.inl (by decide)))))) (fun hq => (vEt_c (cVt_sF hx 2 _ 12 (Or.inl (by decide))) (RFc_sF _ _ _ _ _) (fun i9 l9 hi9 hl9 => ⟨(cVt_sF hx 3 _ 1 (Or.inr (Or.inl (by decide)))), (IFc_sF _ _ _ _ _)⟩))) (fun _ => fun _ => rfl) j hq
  have rowr : ∀ b, isk K L b 2 0 → b ≠ a → cax (sF M x 2 (.int v)) b 3 = cax M b 3 := fun b hb q => vLf_c 2 (cVt_sF hx 2 _ 12 (Or.inl (by decide))) (RFc_sF _ _ _ _ _) (fun i' l hi' hl' => cVt_sF hx 3 l 2 (Or.inr (Or.inr (fun z => q (congrArg Prod.fst (hne b i' l hb hi' hl' z))))))
  have rowa : cax (sF M x 2 (.int v)) a 3 = upd (cax M a 3) i v := by
    funext i'
    show vLf 2 (sF M x 2 (.int v)) a i' = upd (vLf 2 M a) i v i'
    by_cases z : i' = i
    · subst z
      rw [upd_self]
      unfold vLf
      rw [if_pos hi, rA_c (cVt_sF hx 2 _ 12 (Or.inl (by decide))), RFc_sF, hs]
      exact cV_sF_self hx hl
    · rw [upd_ne _ _ z]
      unfold vLf
      rw [rA_c (cVt_sF hx 2 _ 12 (Or.inl (by decide))), RFc_sF]
      by_cases q : i' < 1000
      · rw [if_pos q, if_pos q]
        cases e : RFc (M (rA 2 M a 12)) i' with
        | none => rfl
        | some l => exact cV_c (cVt_sF hx 3 l 2 (Or.inr (Or.inr (fun w => z (congrArg Prod.snd (hne a i' l ha q e w))))))
      · rw [if_neg q, if_neg q]
  have xs : ∀ b, cfx (sF M x 2 (.int v)) b = cfx M b := fun b => funext fun j => xf_cases (fun j f => f (sF M x 2 (.int v)) b = f M b) (congrArg Int32.toInt (cV_c (cVt_sF hx 2 _ 1 (Or.inl (by decide))))) (congrArg Int32.toInt (cV_c (cVt_sF hx 2 _ 2 (Or.inl (by decide))))) (congrArg Int32.toInt (cV_c (cVt_sF hx 2 _ 9 (Or.inl (by decide))))) (congrArg Int32.toInt (cV_c (cVt_sF hx 2 _ 11 (Or.inl (by decide))))) (congrArg Int32.toInt (cV_c (cVt_sF hx 2 _ 4 (Or.inl (by decide))))) (congrArg Int32.toInt (cV_c (cVt_sF hx 2 _ 5 (Or.inl (by decide))))) (congrArg Int32.toInt (cV_c (cVt_sF hx 2 _ 15 (Or.inl (by decide))))) (congrArg Int32.toInt (cV_c (cVt_sF hx 2 _ 0 (Or.inl (by decide))))) (x1_c 16 (cVt_sF hx 2 _ 16 (Or.inl (by decide))) (cVt_sF hx 1 _ 3 (Or.inl (by decide)))) (x1_c 17 (cVt_sF hx 2 _ 17 (Or.inl (by decide))) (cVt_sF hx 1 _ 3 (Or.inl (by decide)))) (x10_c 2 (cVt_sF hx 2 _ 18 (Or.inl (by decide))) (cVt_sF hx 10 _ 2 (Or.inl (by decide)))) (x10_c 1 (cVt_sF hx 2 _ 18 (Or.inl (by decide))) (cVt_sF hx 10 _ 1 (Or.inl (by decide)))) (fun j => (lf_c (vLo_c 12 (cVt_sF hx 2 _ 8 (Or.inl (by decide))) (RFc_sF _ _ _ _ _) (fun _ _ _ _ => (cVt_sF hx 9 _ 12 (Or.inl (by decide))))) j)) j
  refine ⟨fun b hb q => ⟨(xs b).trans (h1 b hb q).1, (funext fun j => ?_ : cax (sF M x 2 (.int v)) b = cax M b).trans (h1 b hb q).2⟩, (xs a).trans h2, ?_, hB.c (fun b hb j hj => (cVt_sF hx 2 _ j (Or.inl (by decide)))) (fun b hb j hj => ⟨(cVt_sF hx 1 _ j (Or.inl (by decide))), (cVt_sF hx 1 _ j (Or.inl (by decide)))⟩) (fun b hb => (cVt_sF hx 10 _ 0 (Or.inl (by decide)))) (fun b hb i l hi hl => (cVt_sF hx 6 _ 2 (Or.inl (by decide)))) (fun b hb => RFc_sF _ _ _ _ _) (fun b hb => RFc_sF _ _ _ _ _) (fun b hb => RFc_sF _ _ _ _ _) (fun b hb i l hi hl => (cVt_sF hx 9 _ 0 (Or.inl (by decide)))) (fun b hb => RFc_sF _ _ _ _ _) (fun b hb i l hi hl => (cVt_sF hx 3 _ 1 (Or.inr (Or.inl (by decide)))))⟩
  · by_cases z : j = 3
    · rw [z]
      exact rowr b hb q
    · exact rows b j z
  · rw [← h3]
    exact cax_up 3 (fun j hj => rows a j hj) rowa
theorem VC.s6_1 {cy : Nat → ClassId} {B : Nat → Nat × Nat} {K : Kp} {L : List Nat} {M0 M : Hp} {a x i : Nat} {X : Nat → Int} {Y : Nat → Nat → Int32} {fs : List Value} {v : Int32} (h : VC B K L M0 M a X Y) (hW : WOK cy K L M) (ha : isk K L a 2 0) (hi : i < 16) (hs : RFc (M (rA 2 M a 10)) i = some x) (hx : M x = .inr (6, fs)) (hl : 1 < fs.length) : VC B K L M0 (sF M x 1 (.int v)) a X (va_up Y 35 (upd (Y 35) i v)) := by
  obtain ⟨h1, h2, h3, hB⟩ := h
  have hne : ∀ b i' l, isk K L b 2 0 → i' < 16 → RFc (M (rA 2 M b 10)) i' = some l → l = x → (b, i') = (a, i) := fun b i' l hb hi' hl' z => (hB.ru b hb i' l hi' hl').1.symm.trans (by rw [z]; exact (hB.ru a ha i x hi hs).1)
  have rows : ∀ b j, j ≠ 35 → cax (sF M x 1 (.int v)) b j = cax M b j := fun b j hq => rowf_cases (fun j f => j ≠ 35 → f (sF M x 1 (.int v)) b = f M b) (fun hq => (vPl_c (cVt_sF hx 2 _ 12 (Or.inl (by decide))) (RFc_sF _ _ _ _ _) (fun _ _ _ _ => ⟨(cVt_sF hx 3 _ 1 (Or.inl (by decide))), (ALc_sF _ _ _ _ _)⟩))) (fun hq => (vLf_c 2 (cVt_sF hx 2 _ 12 (Or.inl (by decide))) (RFc_sF _ _ _ _ _) (fun _ _ _ _ => (cVt_sF hx 3 _ 2 (Or.inl (by decide)))))) (fun hq => (vLf_c 0 (cVt_sF hx 2 _ 12 (Or.inl (by decide))) (RFc_sF _ _ _ _ _) (fun _ _ _ _ => (cVt_sF hx 3 _ 0 (Or.inl (by decide)))))) (fun hq => (vWho_c (cVt_sF hx 2 _ 8 (Or.inl (by decide))) (RFc_sF _ _ _ _ _) (fun _ _ _ _ => ⟨(cVt_sF hx 9 _ 1 (Or.inl (by decide))), (cVt_sF hx 4 _ 0 (Or.inl (by decide)))⟩))) (fun hq => (vTe_c 2 (cVt_sF hx 2 _ 8 (Or.inl (by decide))) (RFc_sF _ _ _ _ _) (fun _ _ _ _ => (cVt_sF hx 9 _ 2 (Or.inl (by decide)))))) (fun hq => (vTe_c 3 (cVt_sF hx 2 _ 8 (Or.inl (by decide))) (RFc_sF _ _ _ _ _) (fun _ _ _ _ => (cVt_sF hx 9 _ 3 (Or.inl (by decide)))))) (fun hq => (vTe_c 5 (cVt_sF hx 2 _ 8 (Or.inl (by decide))) (RFc_sF _ _ _ _ _) (fun _ _ _ _ => (cVt_sF hx 9 _ 5 (Or.inl (by decide)))))) (fun hq => (vTe_c 6 (cVt_sF hx 2 _ 8 (Or.inl (by decide))) (RFc_sF _ _ _ _ _) (fun _ _ _ _ => (cVt_sF hx 9 _ 6 (Or.inl (by decide)))))) (fun hq => (vTe_c 7 (cVt_sF hx 2 _ 8 (Or.inl (by decide))) (RFc_sF _ _ _ _ _) (fun _ _ _ _ => (cVt_sF hx 9 _ 7 (Or.inl (by decide)))))) (fun hq => (vKd_c (cVt_sF hx 2 _ 8 (Or.inl (by decide))) (RFc_sF _ _ _ _ _) (fun _ _ _ _ => ⟨(cVt_sF hx 9 _ 1 (Or.inl (by decide))), (cVt_sF hx 4 _ 1 (Or.inl (by decide)))⟩))) (fun hq => (vHr_c (cVt_sF hx 2 _ 8 (Or.inl (by decide))) (RFc_sF _ _ _ _ _) (fun _ _ _ _ => ⟨(cVt_sF hx 9 _ 8 (Or.inl (by decide))), fun _ _ => (cVt_sF hx 9 _ 0 (Or.inl (by decide)))⟩))) (fun hq => (vTe_c 4 (cVt_sF hx 2 _ 8 (Or.inl (by decide))) (RFc_sF _ _ _ _ _) (fun _ _ _ _ => (cVt_sF hx 9 _ 4 (Or.inl (by decide)))))) (fun hq => (vOw_c (cVt_sF hx 2 _ 8 (Or.inl (by decide))) (RFc_sF _ _ _ _ _) (fun _ _ _ _ => ⟨(cVt_sF hx 9 _ 1 (Or.inl (by decide))), (cVt_sF hx 4 _ 3 (Or.inl (by decide))), fun _ _ => (cVt_sF hx 2 _ 0 (Or.inl (by decide)))⟩))) (fun hq => (vTn_c (cVt_sF hx 2 _ 8 (Or.inl (by decide))) (RFc_sF _ _ _ _ _))) (fun hq => (vRn_c (cVt_sF hx 2 _ 10 (Or.inl (by decide))) (RFc_sF _ _ _ _ _))) (fun hq => (vRu_c 0 (cVt_sF hx 2 _ 10 (Or.inl (by decide))) (RFc_sF _ _ _ _ _) (fun _ _ _ _ => (cVt_sF hx 6 _ 0 (Or.inr (Or.inl (by decide))))))) (fun hq => absurd rfl hq) (fun hq => (vTm_c (cVt_sF hx 2 _ 10 (Or.inl (by decide))) (RFc_sF _ _ _ _ _) (fun i9 l9 hi9 hl9 => ⟨(cVt_sF hx 6 _ 2 (Or.inr (Or.inl (by decide)))), (IFc_sF _ _ _ _ _)⟩))) (fun hq => (vEn_c (cVt_sF hx 2 _ 3 (Or.inl (by decide))) (IFc_sF _ _ _ _ _))) (fun hq => (vMo_c (cVt_sF hx 2 _ 16 (Or.inl (by decide))) (cVt_sF hx 1 _ 0 (Or.inl (by decide))) (RFc_sF _ _ _ _ _) (fun _ _ _ _ => (cVt_sF hx 9 _ 0 (Or.inl (by decide)))))) (fun hq => (vDs_c 16 1 (cVt_sF hx 2 _ 16 (Or.inl (by decide))) (cVt_sF hx 1 _ 1 (Or.inl (by decide))) (IFc_sF _ _ _ _ _))) (fun hq => (vDs_c 16 2 (cVt_sF hx 2 _ 16 (Or.inl (by decide))) (cVt_sF hx 1 _ 2 (Or.inl (by decide))) (IFc_sF _ _ _ _ _))) (fun hq => (vDs_c 17 1 (cVt_sF hx 2 _ 17 (Or.inl (by decide))) (cVt_sF hx 1 _ 1 (Or.inl (by decide))) (IFc_sF _ _ _ _ _))) (fun hq => (vDs_c 17 2 (cVt_sF hx 2 _ 17 (Or.inl (by decide))) (cVt_sF hx 1 _ 2 (Or.inl (by decide))) (IFc_sF _ _ _ _ _))) (fun hq => (vUn_c (cVt_sF hx 2 _ 18 (Or.inl (by decide))) (cVt_sF hx 10 _ 0 (Or.inl (by decide))) (IFc_sF _ _ _ _ _))) (fun hq => (vLe_c (cVt_sF hx 2 _ 6 (Or.inl (by decide))) (IFc_sF _ _ _ _ _))) (fun hq => (vHe_c (cVt_sF hx 2 _ 7 (Or.inl (by decide))) (RFc_sF _ _ _ _ _) (fun _ _ _ _ => (cVt_sF hx 9 _ 0 (Or.inl (by decide)))))) (fun hq => (vEt_c (cVt_sF hx 2 _ 12 (Or.inl (by decide))) (RFc_sF _ _ _ _ _) (fun i9 l9 hi9 hl9 => ⟨(cVt_sF hx 3 _ 1 (Or.inl (by decide))), (IFc_sF _ _ _ _ _)⟩))) (fun _ => fun _ => rfl) j hq
  have rowr : ∀ b, isk K L b 2 0 → b ≠ a → cax (sF M x 1 (.int v)) b 35 = cax M b 35 := fun b hb q => vRu_c 1 (cVt_sF hx 2 _ 10 (Or.inl (by decide))) (RFc_sF _ _ _ _ _) (fun i' l hi' hl' => cVt_sF hx 6 l 1 (Or.inr (Or.inr (fun z => q (congrArg Prod.fst (hne b i' l hb hi' hl' z))))))
  have rowa : cax (sF M x 1 (.int v)) a 35 = upd (cax M a 35) i v := by
    funext i'
    show vRu 1 (sF M x 1 (.int v)) a i' = upd (vRu 1 M a) i v i'
    by_cases z : i' = i
    · subst z
      rw [upd_self]
      unfold vRu
      rw [if_pos hi, rA_c (cVt_sF hx 2 _ 10 (Or.inl (by decide))), RFc_sF, hs]
      exact cV_sF_self hx hl
    · rw [upd_ne _ _ z]
      unfold vRu
      rw [rA_c (cVt_sF hx 2 _ 10 (Or.inl (by decide))), RFc_sF]
      by_cases q : i' < 16
      · rw [if_pos q, if_pos q]
        cases e : RFc (M (rA 2 M a 10)) i' with
        | none => rfl
        | some l => exact cV_c (cVt_sF hx 6 l 1 (Or.inr (Or.inr (fun w => z (congrArg Prod.snd (hne a i' l ha q e w))))))
      · rw [if_neg q, if_neg q]
  have xs : ∀ b, cfx (sF M x 1 (.int v)) b = cfx M b := fun b => funext fun j => xf_cases (fun j f => f (sF M x 1 (.int v)) b = f M b) (congrArg Int32.toInt (cV_c (cVt_sF hx 2 _ 1 (Or.inl (by decide))))) (congrArg Int32.toInt (cV_c (cVt_sF hx 2 _ 2 (Or.inl (by decide))))) (congrArg Int32.toInt (cV_c (cVt_sF hx 2 _ 9 (Or.inl (by decide))))) (congrArg Int32.toInt (cV_c (cVt_sF hx 2 _ 11 (Or.inl (by decide))))) (congrArg Int32.toInt (cV_c (cVt_sF hx 2 _ 4 (Or.inl (by decide))))) (congrArg Int32.toInt (cV_c (cVt_sF hx 2 _ 5 (Or.inl (by decide))))) (congrArg Int32.toInt (cV_c (cVt_sF hx 2 _ 15 (Or.inl (by decide))))) (congrArg Int32.toInt (cV_c (cVt_sF hx 2 _ 0 (Or.inl (by decide))))) (x1_c 16 (cVt_sF hx 2 _ 16 (Or.inl (by decide))) (cVt_sF hx 1 _ 3 (Or.inl (by decide)))) (x1_c 17 (cVt_sF hx 2 _ 17 (Or.inl (by decide))) (cVt_sF hx 1 _ 3 (Or.inl (by decide)))) (x10_c 2 (cVt_sF hx 2 _ 18 (Or.inl (by decide))) (cVt_sF hx 10 _ 2 (Or.inl (by decide)))) (x10_c 1 (cVt_sF hx 2 _ 18 (Or.inl (by decide))) (cVt_sF hx 10 _ 1 (Or.inl (by decide)))) (fun j => (lf_c (vLo_c 12 (cVt_sF hx 2 _ 8 (Or.inl (by decide))) (RFc_sF _ _ _ _ _) (fun _ _ _ _ => (cVt_sF hx 9 _ 12 (Or.inl (by decide))))) j)) j
  refine ⟨fun b hb q => ⟨(xs b).trans (h1 b hb q).1, (funext fun j => ?_ : cax (sF M x 1 (.int v)) b = cax M b).trans (h1 b hb q).2⟩, (xs a).trans h2, ?_, hB.c (fun b hb j hj => (cVt_sF hx 2 _ j (Or.inl (by decide)))) (fun b hb j hj => ⟨(cVt_sF hx 1 _ j (Or.inl (by decide))), (cVt_sF hx 1 _ j (Or.inl (by decide)))⟩) (fun b hb => (cVt_sF hx 10 _ 0 (Or.inl (by decide)))) (fun b hb i l hi hl => (cVt_sF hx 6 _ 2 (Or.inr (Or.inl (by decide))))) (fun b hb => RFc_sF _ _ _ _ _) (fun b hb => RFc_sF _ _ _ _ _) (fun b hb => RFc_sF _ _ _ _ _) (fun b hb i l hi hl => (cVt_sF hx 9 _ 0 (Or.inl (by decide)))) (fun b hb => RFc_sF _ _ _ _ _) (fun b hb i l hi hl => (cVt_sF hx 3 _ 1 (Or.inl (by decide))))⟩
  · by_cases z : j = 35
    · rw [z]
      exact rowr b hb q
    · exact rows b j z
  · rw [← h3]
    exact cax_up 35 (fun j hj => rows a j hj) rowa
theorem VC.s9_8 {cy : Nat → ClassId} {B : Nat → Nat × Nat} {K : Kp} {L : List Nat} {M0 M : Hp} {a x i u : Nat} {X : Nat → Int} {Y : Nat → Nat → Int32} {fs : List Value} (h : VC B K L M0 M a X Y) (hW : WOK cy K L M) (ha : isk K L a 2 0) (hi : i < 24) (hs : RFc (M (rA 2 M a 8)) i = some x) (hx : M x = .inr (9, fs)) (hl : 8 < fs.length) : VC B K L M0 (sF M x 8 (.ref u)) a X (va_up Y 25 (upd (Y 25) i (cV 9 M u 0))) := by
  obtain ⟨h1, h2, h3, hB⟩ := h
  have hne : ∀ b i' l, isk K L b 2 0 → i' < 24 → RFc (M (rA 2 M b 8)) i' = some l → l = x → (b, i') = (a, i) := fun b i' l hb hi' hl' z => (hB.te b hb i' l hi' hl').symm.trans (by rw [z]; exact hB.te a ha i x hi hs)
  have rows : ∀ b j, j ≠ 25 → cax (sF M x 8 (.ref u)) b j = cax M b j := fun b j hq => rowf_cases (fun j f => j ≠ 25 → f (sF M x 8 (.ref u)) b = f M b) (fun hq => (vPl_c (cVt_sF hx 2 _ 12 (Or.inl (by decide))) (RFc_sF _ _ _ _ _) (fun _ _ _ _ => ⟨(cVt_sF hx 3 _ 1 (Or.inl (by decide))), (ALc_sF _ _ _ _ _)⟩))) (fun hq => (vLf_c 2 (cVt_sF hx 2 _ 12 (Or.inl (by decide))) (RFc_sF _ _ _ _ _) (fun _ _ _ _ => (cVt_sF hx 3 _ 2 (Or.inl (by decide)))))) (fun hq => (vLf_c 0 (cVt_sF hx 2 _ 12 (Or.inl (by decide))) (RFc_sF _ _ _ _ _) (fun _ _ _ _ => (cVt_sF hx 3 _ 0 (Or.inl (by decide)))))) (fun hq => (vWho_c (cVt_sF hx 2 _ 8 (Or.inl (by decide))) (RFc_sF _ _ _ _ _) (fun _ _ _ _ => ⟨(cVt_sF hx 9 _ 1 (Or.inr (Or.inl (by decide)))), (cVt_sF hx 4 _ 0 (Or.inl (by decide)))⟩))) (fun hq => (vTe_c 2 (cVt_sF hx 2 _ 8 (Or.inl (by decide))) (RFc_sF _ _ _ _ _) (fun _ _ _ _ => (cVt_sF hx 9 _ 2 (Or.inr (Or.inl (by decide))))))) (fun hq => (vTe_c 3 (cVt_sF hx 2 _ 8 (Or.inl (by decide))) (RFc_sF _ _ _ _ _) (fun _ _ _ _ => (cVt_sF hx 9 _ 3 (Or.inr (Or.inl (by decide))))))) (fun hq => (vTe_c 5 (cVt_sF hx 2 _ 8 (Or.inl (by decide))) (RFc_sF _ _ _ _ _) (fun _ _ _ _ => (cVt_sF hx 9 _ 5 (Or.inr (Or.inl (by decide))))))) (fun hq => (vTe_c 6 (cVt_sF hx 2 _ 8 (Or.inl (by decide))) (RFc_sF _ _ _ _ _) (fun _ _ _ _ => (cVt_sF hx 9 _ 6 (Or.inr (Or.inl (by decide))))))) (fun hq => (vTe_c 7 (cVt_sF hx 2 _ 8 (Or.inl (by decide))) (RFc_sF _ _ _ _ _) (fun _ _ _ _ => (cVt_sF hx 9 _ 7 (Or.inr (Or.inl (by decide))))))) (fun hq => (vKd_c (cVt_sF hx 2 _ 8 (Or.inl (by decide))) (RFc_sF _ _ _ _ _) (fun _ _ _ _ => ⟨(cVt_sF hx 9 _ 1 (Or.inr (Or.inl (by decide)))), (cVt_sF hx 4 _ 1 (Or.inl (by decide)))⟩))) (fun hq => absurd rfl hq) (fun hq => (vTe_c 4 (cVt_sF hx 2 _ 8 (Or.inl (by decide))) (RFc_sF _ _ _ _ _) (fun _ _ _ _ => (cVt_sF hx 9 _ 4 (Or.inr (Or.inl (by decide))))))) (fun hq => (vOw_c (cVt_sF hx 2 _ 8 (Or.inl (by decide))) (RFc_sF _ _ _ _ _) (fun _ _ _ _ => ⟨(cVt_sF hx 9 _ 1 (Or.inr (Or.inl (by decide)))), (cVt_sF hx 4 _ 3 (Or.inl (by decide))), fun _ _ => (cVt_sF hx 2 _ 0 (Or.inl (by decide)))⟩))) (fun hq => (vTn_c (cVt_sF hx 2 _ 8 (Or.inl (by decide))) (RFc_sF _ _ _ _ _))) (fun hq => (vRn_c (cVt_sF hx 2 _ 10 (Or.inl (by decide))) (RFc_sF _ _ _ _ _))) (fun hq => (vRu_c 0 (cVt_sF hx 2 _ 10 (Or.inl (by decide))) (RFc_sF _ _ _ _ _) (fun _ _ _ _ => (cVt_sF hx 6 _ 0 (Or.inl (by decide)))))) (fun hq => (vRu_c 1 (cVt_sF hx 2 _ 10 (Or.inl (by decide))) (RFc_sF _ _ _ _ _) (fun _ _ _ _ => (cVt_sF hx 6 _ 1 (Or.inl (by decide)))))) (fun hq => (vTm_c (cVt_sF hx 2 _ 10 (Or.inl (by decide))) (RFc_sF _ _ _ _ _) (fun i9 l9 hi9 hl9 => ⟨(cVt_sF hx 6 _ 2 (Or.inl (by decide))), (IFc_sF _ _ _ _ _)⟩))) (fun hq => (vEn_c (cVt_sF hx 2 _ 3 (Or.inl (by decide))) (IFc_sF _ _ _ _ _))) (fun hq => (vMo_c (cVt_sF hx 2 _ 16 (Or.inl (by decide))) (cVt_sF hx 1 _ 0 (Or.inl (by decide))) (RFc_sF _ _ _ _ _) (fun _ _ _ _ => (cVt_sF hx 9 _ 0 (Or.inr (Or.inl (by decide))))))) (fun hq => (vDs_c 16 1 (cVt_sF hx 2 _ 16 (Or.inl (by decide))) (cVt_sF hx 1 _ 1 (Or.inl (by decide))) (IFc_sF _ _ _ _ _))) (fun hq => (vDs_c 16 2 (cVt_sF hx 2 _ 16 (Or.inl (by decide))) (cVt_sF hx 1 _ 2 (Or.inl (by decide))) (IFc_sF _ _ _ _ _))) (fun hq => (vDs_c 17 1 (cVt_sF hx 2 _ 17 (Or.inl (by decide))) (cVt_sF hx 1 _ 1 (Or.inl (by decide))) (IFc_sF _ _ _ _ _))) (fun hq => (vDs_c 17 2 (cVt_sF hx 2 _ 17 (Or.inl (by decide))) (cVt_sF hx 1 _ 2 (Or.inl (by decide))) (IFc_sF _ _ _ _ _))) (fun hq => (vUn_c (cVt_sF hx 2 _ 18 (Or.inl (by decide))) (cVt_sF hx 10 _ 0 (Or.inl (by decide))) (IFc_sF _ _ _ _ _))) (fun hq => (vLe_c (cVt_sF hx 2 _ 6 (Or.inl (by decide))) (IFc_sF _ _ _ _ _))) (fun hq => (vHe_c (cVt_sF hx 2 _ 7 (Or.inl (by decide))) (RFc_sF _ _ _ _ _) (fun _ _ _ _ => (cVt_sF hx 9 _ 0 (Or.inr (Or.inl (by decide))))))) (fun hq => (vEt_c (cVt_sF hx 2 _ 12 (Or.inl (by decide))) (RFc_sF _ _ _ _ _) (fun i9 l9 hi9 hl9 => ⟨(cVt_sF hx 3 _ 1 (Or.inl (by decide))), (IFc_sF _ _ _ _ _)⟩))) (fun _ => fun _ => rfl) j hq
  have rowr : ∀ b, isk K L b 2 0 → b ≠ a → cax (sF M x 8 (.ref u)) b 25 = cax M b 25 := fun b hb q => vHr_c (cVt_sF hx 2 _ 8 (Or.inl (by decide))) (RFc_sF _ _ _ _ _) (fun i' l hi' hl' => ⟨cVt_sF hx 9 l 8 (Or.inr (Or.inr (fun z => q (congrArg Prod.fst (hne b i' l hb hi' hl' z))))), fun _ _ => (cVt_sF hx 9 _ 0 (Or.inr (Or.inl (by decide))))⟩)
  have rowa : cax (sF M x 8 (.ref u)) a 25 = upd (cax M a 25) i (cV 9 M u 0) := by
    funext i'
    show vHr (sF M x 8 (.ref u)) a i' = upd (vHr M a) i (cV 9 M u 0) i'
    by_cases z : i' = i
    · subst z
      rw [upd_self]
      unfold vHr
      rw [if_pos hi, rA_c (cVt_sF hx 2 _ 8 (Or.inl (by decide))), RFc_sF, hs]
      show hrN (sF M x 8 (.ref u)) (cR 9 (sF M x 8 (.ref u)) x 8) = _
      rw [show cR 9 (sF M x 8 (.ref u)) x 8 = some u from by unfold cR; rw [cVt_sF_self hx hl]]
      exact cV_c (cVt_sF hx 9 _ 0 (Or.inr (Or.inl (by decide))))
    · rw [upd_ne _ _ z]
      unfold vHr
      rw [rA_c (cVt_sF hx 2 _ 8 (Or.inl (by decide))), RFc_sF]
      by_cases q : i' < 24
      · rw [if_pos q, if_pos q]
        cases e : RFc (M (rA 2 M a 8)) i' with
        | none => rfl
        | some l =>
          show hrN (sF M x 8 (.ref u)) (cR 9 (sF M x 8 (.ref u)) l 8) = hrN M (cR 9 M l 8)
          rw [cR_c (cVt_sF hx 9 l 8 (Or.inr (Or.inr (fun w => z (congrArg Prod.snd (hne a i' l ha q e w))))))]
          exact hrN_c _ (fun _ _ => (cVt_sF hx 9 _ 0 (Or.inr (Or.inl (by decide)))))
      · rw [if_neg q, if_neg q]
  have xs : ∀ b, cfx (sF M x 8 (.ref u)) b = cfx M b := fun b => funext fun j => xf_cases (fun j f => f (sF M x 8 (.ref u)) b = f M b) (congrArg Int32.toInt (cV_c (cVt_sF hx 2 _ 1 (Or.inl (by decide))))) (congrArg Int32.toInt (cV_c (cVt_sF hx 2 _ 2 (Or.inl (by decide))))) (congrArg Int32.toInt (cV_c (cVt_sF hx 2 _ 9 (Or.inl (by decide))))) (congrArg Int32.toInt (cV_c (cVt_sF hx 2 _ 11 (Or.inl (by decide))))) (congrArg Int32.toInt (cV_c (cVt_sF hx 2 _ 4 (Or.inl (by decide))))) (congrArg Int32.toInt (cV_c (cVt_sF hx 2 _ 5 (Or.inl (by decide))))) (congrArg Int32.toInt (cV_c (cVt_sF hx 2 _ 15 (Or.inl (by decide))))) (congrArg Int32.toInt (cV_c (cVt_sF hx 2 _ 0 (Or.inl (by decide))))) (x1_c 16 (cVt_sF hx 2 _ 16 (Or.inl (by decide))) (cVt_sF hx 1 _ 3 (Or.inl (by decide)))) (x1_c 17 (cVt_sF hx 2 _ 17 (Or.inl (by decide))) (cVt_sF hx 1 _ 3 (Or.inl (by decide)))) (x10_c 2 (cVt_sF hx 2 _ 18 (Or.inl (by decide))) (cVt_sF hx 10 _ 2 (Or.inl (by decide)))) (x10_c 1 (cVt_sF hx 2 _ 18 (Or.inl (by decide))) (cVt_sF hx 10 _ 1 (Or.inl (by decide)))) (fun j => (lf_c (vLo_c 12 (cVt_sF hx 2 _ 8 (Or.inl (by decide))) (RFc_sF _ _ _ _ _) (fun _ _ _ _ => (cVt_sF hx 9 _ 12 (Or.inr (Or.inl (by decide)))))) j)) j
  refine ⟨fun b hb q => ⟨(xs b).trans (h1 b hb q).1, (funext fun j => ?_ : cax (sF M x 8 (.ref u)) b = cax M b).trans (h1 b hb q).2⟩, (xs a).trans h2, ?_, hB.c (fun b hb j hj => (cVt_sF hx 2 _ j (Or.inl (by decide)))) (fun b hb j hj => ⟨(cVt_sF hx 1 _ j (Or.inl (by decide))), (cVt_sF hx 1 _ j (Or.inl (by decide)))⟩) (fun b hb => (cVt_sF hx 10 _ 0 (Or.inl (by decide)))) (fun b hb i l hi hl => (cVt_sF hx 6 _ 2 (Or.inl (by decide)))) (fun b hb => RFc_sF _ _ _ _ _) (fun b hb => RFc_sF _ _ _ _ _) (fun b hb => RFc_sF _ _ _ _ _) (fun b hb i l hi hl => (cVt_sF hx 9 _ 0 (Or.inr (Or.inl (by decide))))) (fun b hb => RFc_sF _ _ _ _ _) (fun b hb i l hi hl => (cVt_sF hx 3 _ 1 (Or.inl (by decide))))⟩
  · by_cases z : j = 25
    · rw [z]
      exact rowr b hb q
    · exact rows b j z
  · rw [← h3]
    exact cax_up 25 (fun j hj => rows a j hj) rowa
theorem VC.s9_12 {cy : Nat → ClassId} {B : Nat → Nat × Nat} {K : Kp} {L : List Nat} {M0 M : Hp} {a x i : Nat} {X : Nat → Int} {Y : Nat → Nat → Int32} {fs : List Value} {v : Int64} (h : VC B K L M0 M a X Y) (hW : WOK cy K L M) (ha : isk K L a 2 0) (hi : i < 24) (hs : RFc (M (rA 2 M a 8)) i = some x) (hx : M x = .inr (9, fs)) (hl : 12 < fs.length) : VC B K L M0 (sF M x 12 (.long v)) a (va_up X (lKey 3 i) v.toInt) Y := by
  obtain ⟨h1, h2, h3, hB⟩ := h
  have hne : ∀ b i' l, isk K L b 2 0 → i' < 24 → RFc (M (rA 2 M b 8)) i' = some l → l = x → (b, i') = (a, i) := fun b i' l hb hi' hl' z => (hB.te b hb i' l hi' hl').symm.trans (by rw [z]; exact hB.te a ha i x hi hs)
  have lone : ∀ b k, isk K L b 2 0 → (b ≠ a ∨ k ≠ i) → vLo 12 (sF M x 12 (.long v)) b k = vLo 12 M b k := fun b k hb hk => by
    unfold vLo
    rw [rA_c (cVt_sF hx 2 _ 8 (Or.inl (by decide))), RFc_sF]
    by_cases q : k < 24
    · rw [if_pos q, if_pos q]
      cases e : RFc (M (rA 2 M b 8)) k with
      | none => rfl
      | some l => exact congrArg Int64.toInt (cL_c (cVt_sF hx 9 l 12 (Or.inr (Or.inr (fun z => hk.elim (fun w => w (congrArg Prod.fst (hne b k l hb q e z))) (fun w => w (congrArg Prod.snd (hne b k l hb q e z))))))))
    · rw [if_neg q, if_neg q]
  have lat : cfx (sF M x 12 (.long v)) a (lKey 3 i) = v.toInt := by
    show xf (lKey 3 i) (sF M x 12 (.long v)) a = _
    rw [xf_key (r := 3) (i := i), lf_key (by decide)]
    show vLo 12 (sF M x 12 (.long v)) a i = v.toInt
    unfold vLo
    rw [if_pos hi, rA_c (cVt_sF hx 2 _ 8 (Or.inl (by decide))), RFc_sF, hs]
    show (cL 9 (sF M x 12 (.long v)) x 12).toInt = v.toInt
    unfold cL
    rw [cVt_sF_self hx hl]
  have rows : ∀ b, cax (sF M x 12 (.long v)) b = cax M b := fun b => funext fun j => rowf_cases (fun j f => f (sF M x 12 (.long v)) b = f M b) (vPl_c (cVt_sF hx 2 _ 12 (Or.inl (by decide))) (RFc_sF _ _ _ _ _) (fun _ _ _ _ => ⟨(cVt_sF hx 3 _ 1 (Or.inl (by decide))), (ALc_sF _ _ _ _ _)⟩)) (vLf_c 2 (cVt_sF hx 2 _ 12 (Or.inl (by decide))) (RFc_sF _ _ _ _ _) (fun _ _ _ _ => (cVt_sF hx 3 _ 2 (Or.inl (by decide))))) (vLf_c 0 (cVt_sF hx 2 _ 12 (Or.inl (by decide))) (RFc_sF _ _ _ _ _) (fun _ _ _ _ => (cVt_sF hx 3 _ 0 (Or.inl (by decide))))) (vWho_c (cVt_sF hx 2 _ 8 (Or.inl (by decide))) (RFc_sF _ _ _ _ _) (fun _ _ _ _ => ⟨(cVt_sF hx 9 _ 1 (Or.inr (Or.inl (by decide)))), (cVt_sF hx 4 _ 0 (Or.inl (by decide)))⟩)) (vTe_c 2 (cVt_sF hx 2 _ 8 (Or.inl (by decide))) (RFc_sF _ _ _ _ _) (fun _ _ _ _ => (cVt_sF hx 9 _ 2 (Or.inr (Or.inl (by decide)))))) (vTe_c 3 (cVt_sF hx 2 _ 8 (Or.inl (by decide))) (RFc_sF _ _ _ _ _) (fun _ _ _ _ => (cVt_sF hx 9 _ 3 (Or.inr (Or.inl (by decide)))))) (vTe_c 5 (cVt_sF hx 2 _ 8 (Or.inl (by decide))) (RFc_sF _ _ _ _ _) (fun _ _ _ _ => (cVt_sF hx 9 _ 5 (Or.inr (Or.inl (by decide)))))) (vTe_c 6 (cVt_sF hx 2 _ 8 (Or.inl (by decide))) (RFc_sF _ _ _ _ _) (fun _ _ _ _ => (cVt_sF hx 9 _ 6 (Or.inr (Or.inl (by decide)))))) (vTe_c 7 (cVt_sF hx 2 _ 8 (Or.inl (by decide))) (RFc_sF _ _ _ _ _) (fun _ _ _ _ => (cVt_sF hx 9 _ 7 (Or.inr (Or.inl (by decide)))))) (vKd_c (cVt_sF hx 2 _ 8 (Or.inl (by decide))) (RFc_sF _ _ _ _ _) (fun _ _ _ _ => ⟨(cVt_sF hx 9 _ 1 (Or.inr (Or.inl (by decide)))), (cVt_sF hx 4 _ 1 (Or.inl (by decide)))⟩)) (vHr_c (cVt_sF hx 2 _ 8 (Or.inl (by decide))) (RFc_sF _ _ _ _ _) (fun _ _ _ _ => ⟨(cVt_sF hx 9 _ 8 (Or.inr (Or.inl (by decide)))), fun _ _ => (cVt_sF hx 9 _ 0 (Or.inr (Or.inl (by decide))))⟩)) (vTe_c 4 (cVt_sF hx 2 _ 8 (Or.inl (by decide))) (RFc_sF _ _ _ _ _) (fun _ _ _ _ => (cVt_sF hx 9 _ 4 (Or.inr (Or.inl (by decide)))))) (vOw_c (cVt_sF hx 2 _ 8 (Or.inl (by decide))) (RFc_sF _ _ _ _ _) (fun _ _ _ _ => ⟨(cVt_sF hx 9 _ 1 (Or.inr (Or.inl (by decide)))), (cVt_sF hx 4 _ 3 (Or.inl (by decide))), fun _ _ => (cVt_sF hx 2 _ 0 (Or.inl (by decide)))⟩)) (vTn_c (cVt_sF hx 2 _ 8 (Or.inl (by decide))) (RFc_sF _ _ _ _ _)) (vRn_c (cVt_sF hx 2 _ 10 (Or.inl (by decide))) (RFc_sF _ _ _ _ _)) (vRu_c 0 (cVt_sF hx 2 _ 10 (Or.inl (by decide))) (RFc_sF _ _ _ _ _) (fun _ _ _ _ => (cVt_sF hx 6 _ 0 (Or.inl (by decide))))) (vRu_c 1 (cVt_sF hx 2 _ 10 (Or.inl (by decide))) (RFc_sF _ _ _ _ _) (fun _ _ _ _ => (cVt_sF hx 6 _ 1 (Or.inl (by decide))))) (vTm_c (cVt_sF hx 2 _ 10 (Or.inl (by decide))) (RFc_sF _ _ _ _ _) (fun i9 l9 hi9 hl9 => ⟨(cVt_sF hx 6 _ 2 (Or.inl (by decide))), (IFc_sF _ _ _ _ _)⟩)) (vEn_c (cVt_sF hx 2 _ 3 (Or.inl (by decide))) (IFc_sF _ _ _ _ _)) (vMo_c (cVt_sF hx 2 _ 16 (Or.inl (by decide))) (cVt_sF hx 1 _ 0 (Or.inl (by decide))) (RFc_sF _ _ _ _ _) (fun _ _ _ _ => (cVt_sF hx 9 _ 0 (Or.inr (Or.inl (by decide)))))) (vDs_c 16 1 (cVt_sF hx 2 _ 16 (Or.inl (by decide))) (cVt_sF hx 1 _ 1 (Or.inl (by decide))) (IFc_sF _ _ _ _ _)) (vDs_c 16 2 (cVt_sF hx 2 _ 16 (Or.inl (by decide))) (cVt_sF hx 1 _ 2 (Or.inl (by decide))) (IFc_sF _ _ _ _ _)) (vDs_c 17 1 (cVt_sF hx 2 _ 17 (Or.inl (by decide))) (cVt_sF hx 1 _ 1 (Or.inl (by decide))) (IFc_sF _ _ _ _ _)) (vDs_c 17 2 (cVt_sF hx 2 _ 17 (Or.inl (by decide))) (cVt_sF hx 1 _ 2 (Or.inl (by decide))) (IFc_sF _ _ _ _ _)) (vUn_c (cVt_sF hx 2 _ 18 (Or.inl (by decide))) (cVt_sF hx 10 _ 0 (Or.inl (by decide))) (IFc_sF _ _ _ _ _)) (vLe_c (cVt_sF hx 2 _ 6 (Or.inl (by decide))) (IFc_sF _ _ _ _ _)) (vHe_c (cVt_sF hx 2 _ 7 (Or.inl (by decide))) (RFc_sF _ _ _ _ _) (fun _ _ _ _ => (cVt_sF hx 9 _ 0 (Or.inr (Or.inl (by decide)))))) (vEt_c (cVt_sF hx 2 _ 12 (Or.inl (by decide))) (RFc_sF _ _ _ _ _) (fun i9 l9 hi9 hl9 => ⟨(cVt_sF hx 3 _ 1 (Or.inl (by decide))), (IFc_sF _ _ _ _ _)⟩)) (fun _ => rfl) j
  have xs : ∀ b j, (isk K L b 2 0 ∧ (b ≠ a ∨ j ≠ lKey 3 i)) → cfx (sF M x 12 (.long v)) b j = cfx M b j := fun b j hq => xf_cases (fun j f => (isk K L b 2 0 ∧ (b ≠ a ∨ j ≠ lKey 3 i)) → f (sF M x 12 (.long v)) b = f M b) (fun hq => (congrArg Int32.toInt (cV_c (cVt_sF hx 2 _ 1 (Or.inl (by decide)))))) (fun hq => (congrArg Int32.toInt (cV_c (cVt_sF hx 2 _ 2 (Or.inl (by decide)))))) (fun hq => (congrArg Int32.toInt (cV_c (cVt_sF hx 2 _ 9 (Or.inl (by decide)))))) (fun hq => (congrArg Int32.toInt (cV_c (cVt_sF hx 2 _ 11 (Or.inl (by decide)))))) (fun hq => (congrArg Int32.toInt (cV_c (cVt_sF hx 2 _ 4 (Or.inl (by decide)))))) (fun hq => (congrArg Int32.toInt (cV_c (cVt_sF hx 2 _ 5 (Or.inl (by decide)))))) (fun hq => (congrArg Int32.toInt (cV_c (cVt_sF hx 2 _ 15 (Or.inl (by decide)))))) (fun hq => (congrArg Int32.toInt (cV_c (cVt_sF hx 2 _ 0 (Or.inl (by decide)))))) (fun hq => (x1_c 16 (cVt_sF hx 2 _ 16 (Or.inl (by decide))) (cVt_sF hx 1 _ 3 (Or.inl (by decide))))) (fun hq => (x1_c 17 (cVt_sF hx 2 _ 17 (Or.inl (by decide))) (cVt_sF hx 1 _ 3 (Or.inl (by decide))))) (fun hq => (x10_c 2 (cVt_sF hx 2 _ 18 (Or.inl (by decide))) (cVt_sF hx 10 _ 2 (Or.inl (by decide))))) (fun hq => (x10_c 1 (cVt_sF hx 2 _ 18 (Or.inl (by decide))) (cVt_sF hx 10 _ 1 (Or.inl (by decide))))) (fun j => fun hq => (by by_cases w : b = a; exact lf_one (i := i) (fun k hk => lone b k hq.1 (Or.inr hk)) j (hq.2.resolve_left (fun z => z w)); exact lf_c (funext fun k => lone b k hq.1 (Or.inl w)) j)) j hq
  refine ⟨fun b hb q => ⟨(funext fun j => xs b j ⟨hb, Or.inl q⟩).trans (h1 b hb q).1, (rows b).trans (h1 b hb q).2⟩, ?_, (rows a).trans h3, hB.c (fun b hb j hj => (cVt_sF hx 2 _ j (Or.inl (by decide)))) (fun b hb j hj => ⟨(cVt_sF hx 1 _ j (Or.inl (by decide))), (cVt_sF hx 1 _ j (Or.inl (by decide)))⟩) (fun b hb => (cVt_sF hx 10 _ 0 (Or.inl (by decide)))) (fun b hb i l hi hl => (cVt_sF hx 6 _ 2 (Or.inl (by decide)))) (fun b hb => RFc_sF _ _ _ _ _) (fun b hb => RFc_sF _ _ _ _ _) (fun b hb => RFc_sF _ _ _ _ _) (fun b hb i l hi hl => (cVt_sF hx 9 _ 0 (Or.inr (Or.inl (by decide))))) (fun b hb => RFc_sF _ _ _ _ _) (fun b hb i l hi hl => (cVt_sF hx 3 _ 1 (Or.inl (by decide))))⟩
  rw [← h2]
  exact cfx_up (lKey 3 i) (fun j hj => xs a j ⟨ha, Or.inr hj⟩) lat
theorem VC.n16 {cy : Nat → ClassId} {B : Nat → Nat × Nat} {K : Kp} {L : List Nat} {M0 M : Hp} {a x : Nat} {X : Nat → Int} {Y : Nat → Nat → Int32} {fs : List Value} {v : Int32} (h : VC B K L M0 M a X Y) (hW : WOK cy K L M) (ha : isk K L a 2 0) (hs : rA 2 M a 16 = x) (hx : M x = .inr (1, fs)) (hl : 3 < fs.length) : VC B K L M0 (sF M x 3 (.int v)) a (va_up X 14 v.toInt) Y := by
  obtain ⟨h1, h2, h3, hB⟩ := h
  have ow : ∀ b, isk K L b 2 0 → B (rA 2 M b 16) = (b, 0) := fun b hb => hB.e0 b hb 16 (by decide)
  have owx : B x = (a, 0) := by
    rw [← hs]
    exact ow a ha
  have rows : ∀ b, cax (sF M x 3 (.int v)) b = cax M b := fun b => funext fun j => rowf_cases (fun j f => f (sF M x 3 (.int v)) b = f M b) (vPl_c (cVt_sF hx 2 _ 12 (Or.inl (by decide))) (RFc_sF _ _ _ _ _) (fun _ _ _ _ => ⟨(cVt_sF hx 3 _ 1 (Or.inl (by decide))), (ALc_sF _ _ _ _ _)⟩)) (vLf_c 2 (cVt_sF hx 2 _ 12 (Or.inl (by decide))) (RFc_sF _ _ _ _ _) (fun _ _ _ _ => (cVt_sF hx 3 _ 2 (Or.inl (by decide))))) (vLf_c 0 (cVt_sF hx 2 _ 12 (Or.inl (by decide))) (RFc_sF _ _ _ _ _) (fun _ _ _ _ => (cVt_sF hx 3 _ 0 (Or.inl (by decide))))) (vWho_c (cVt_sF hx 2 _ 8 (Or.inl (by decide))) (RFc_sF _ _ _ _ _) (fun _ _ _ _ => ⟨(cVt_sF hx 9 _ 1 (Or.inl (by decide))), (cVt_sF hx 4 _ 0 (Or.inl (by decide)))⟩)) (vTe_c 2 (cVt_sF hx 2 _ 8 (Or.inl (by decide))) (RFc_sF _ _ _ _ _) (fun _ _ _ _ => (cVt_sF hx 9 _ 2 (Or.inl (by decide))))) (vTe_c 3 (cVt_sF hx 2 _ 8 (Or.inl (by decide))) (RFc_sF _ _ _ _ _) (fun _ _ _ _ => (cVt_sF hx 9 _ 3 (Or.inl (by decide))))) (vTe_c 5 (cVt_sF hx 2 _ 8 (Or.inl (by decide))) (RFc_sF _ _ _ _ _) (fun _ _ _ _ => (cVt_sF hx 9 _ 5 (Or.inl (by decide))))) (vTe_c 6 (cVt_sF hx 2 _ 8 (Or.inl (by decide))) (RFc_sF _ _ _ _ _) (fun _ _ _ _ => (cVt_sF hx 9 _ 6 (Or.inl (by decide))))) (vTe_c 7 (cVt_sF hx 2 _ 8 (Or.inl (by decide))) (RFc_sF _ _ _ _ _) (fun _ _ _ _ => (cVt_sF hx 9 _ 7 (Or.inl (by decide))))) (vKd_c (cVt_sF hx 2 _ 8 (Or.inl (by decide))) (RFc_sF _ _ _ _ _) (fun _ _ _ _ => ⟨(cVt_sF hx 9 _ 1 (Or.inl (by decide))), (cVt_sF hx 4 _ 1 (Or.inl (by decide)))⟩)) (vHr_c (cVt_sF hx 2 _ 8 (Or.inl (by decide))) (RFc_sF _ _ _ _ _) (fun _ _ _ _ => ⟨(cVt_sF hx 9 _ 8 (Or.inl (by decide))), fun _ _ => (cVt_sF hx 9 _ 0 (Or.inl (by decide)))⟩)) (vTe_c 4 (cVt_sF hx 2 _ 8 (Or.inl (by decide))) (RFc_sF _ _ _ _ _) (fun _ _ _ _ => (cVt_sF hx 9 _ 4 (Or.inl (by decide))))) (vOw_c (cVt_sF hx 2 _ 8 (Or.inl (by decide))) (RFc_sF _ _ _ _ _) (fun _ _ _ _ => ⟨(cVt_sF hx 9 _ 1 (Or.inl (by decide))), (cVt_sF hx 4 _ 3 (Or.inl (by decide))), fun _ _ => (cVt_sF hx 2 _ 0 (Or.inl (by decide)))⟩)) (vTn_c (cVt_sF hx 2 _ 8 (Or.inl (by decide))) (RFc_sF _ _ _ _ _)) (vRn_c (cVt_sF hx 2 _ 10 (Or.inl (by decide))) (RFc_sF _ _ _ _ _)) (vRu_c 0 (cVt_sF hx 2 _ 10 (Or.inl (by decide))) (RFc_sF _ _ _ _ _) (fun _ _ _ _ => (cVt_sF hx 6 _ 0 (Or.inl (by decide))))) (vRu_c 1 (cVt_sF hx 2 _ 10 (Or.inl (by decide))) (RFc_sF _ _ _ _ _) (fun _ _ _ _ => (cVt_sF hx 6 _ 1 (Or.inl (by decide))))) (vTm_c (cVt_sF hx 2 _ 10 (Or.inl (by decide))) (RFc_sF _ _ _ _ _) (fun i9 l9 hi9 hl9 => ⟨(cVt_sF hx 6 _ 2 (Or.inl (by decide))), (IFc_sF _ _ _ _ _)⟩)) (vEn_c (cVt_sF hx 2 _ 3 (Or.inl (by decide))) (IFc_sF _ _ _ _ _)) (vMo_c (cVt_sF hx 2 _ 16 (Or.inl (by decide))) (cVt_sF hx 1 _ 0 (Or.inr (Or.inl (by decide)))) (RFc_sF _ _ _ _ _) (fun _ _ _ _ => (cVt_sF hx 9 _ 0 (Or.inl (by decide))))) (vDs_c 16 1 (cVt_sF hx 2 _ 16 (Or.inl (by decide))) (cVt_sF hx 1 _ 1 (Or.inr (Or.inl (by decide)))) (IFc_sF _ _ _ _ _)) (vDs_c 16 2 (cVt_sF hx 2 _ 16 (Or.inl (by decide))) (cVt_sF hx 1 _ 2 (Or.inr (Or.inl (by decide)))) (IFc_sF _ _ _ _ _)) (vDs_c 17 1 (cVt_sF hx 2 _ 17 (Or.inl (by decide))) (cVt_sF hx 1 _ 1 (Or.inr (Or.inl (by decide)))) (IFc_sF _ _ _ _ _)) (vDs_c 17 2 (cVt_sF hx 2 _ 17 (Or.inl (by decide))) (cVt_sF hx 1 _ 2 (Or.inr (Or.inl (by decide)))) (IFc_sF _ _ _ _ _)) (vUn_c (cVt_sF hx 2 _ 18 (Or.inl (by decide))) (cVt_sF hx 10 _ 0 (Or.inl (by decide))) (IFc_sF _ _ _ _ _)) (vLe_c (cVt_sF hx 2 _ 6 (Or.inl (by decide))) (IFc_sF _ _ _ _ _)) (vHe_c (cVt_sF hx 2 _ 7 (Or.inl (by decide))) (RFc_sF _ _ _ _ _) (fun _ _ _ _ => (cVt_sF hx 9 _ 0 (Or.inl (by decide))))) (vEt_c (cVt_sF hx 2 _ 12 (Or.inl (by decide))) (RFc_sF _ _ _ _ _) (fun i9 l9 hi9 hl9 => ⟨(cVt_sF hx 3 _ 1 (Or.inl (by decide))), (IFc_sF _ _ _ _ _)⟩)) (fun _ => rfl) j
  have xs : ∀ b j, (isk K L b 2 0 ∧ (b ≠ a ∨ j ≠ 14)) → cfx (sF M x 3 (.int v)) b j = cfx M b j := fun b j hq => xf_cases (fun j f => (isk K L b 2 0 ∧ (b ≠ a ∨ j ≠ 14)) → f (sF M x 3 (.int v)) b = f M b) (fun hq => (congrArg Int32.toInt (cV_c (cVt_sF hx 2 _ 1 (Or.inl (by decide)))))) (fun hq => (congrArg Int32.toInt (cV_c (cVt_sF hx 2 _ 2 (Or.inl (by decide)))))) (fun hq => (congrArg Int32.toInt (cV_c (cVt_sF hx 2 _ 9 (Or.inl (by decide)))))) (fun hq => (congrArg Int32.toInt (cV_c (cVt_sF hx 2 _ 11 (Or.inl (by decide)))))) (fun hq => (congrArg Int32.toInt (cV_c (cVt_sF hx 2 _ 4 (Or.inl (by decide)))))) (fun hq => (congrArg Int32.toInt (cV_c (cVt_sF hx 2 _ 5 (Or.inl (by decide)))))) (fun hq => (congrArg Int32.toInt (cV_c (cVt_sF hx 2 _ 15 (Or.inl (by decide)))))) (fun hq => (congrArg Int32.toInt (cV_c (cVt_sF hx 2 _ 0 (Or.inl (by decide)))))) (fun hq => (x1_c 16 (cVt_sF hx 2 _ 16 (Or.inl (by decide))) (cVt_sF hx 1 _ 3 (Or.inr (Or.inr (fun z => (hq.2.resolve_right (fun w => w rfl)) (congrArg Prod.fst ((ow b hq.1).symm.trans ((congrArg B z).trans owx))))))))) (fun hq => (x1_c 17 (cVt_sF hx 2 _ 17 (Or.inl (by decide))) (cVt_sF hx 1 _ 3 (Or.inr (Or.inr (fun z => absurd (congrArg Prod.snd ((hB.e17 b hq.1).symm.trans ((congrArg B z).trans owx))) (show ¬ (1 : Nat) = 0 by decide))))))) (fun hq => (x10_c 2 (cVt_sF hx 2 _ 18 (Or.inl (by decide))) (cVt_sF hx 10 _ 2 (Or.inl (by decide))))) (fun hq => (x10_c 1 (cVt_sF hx 2 _ 18 (Or.inl (by decide))) (cVt_sF hx 10 _ 1 (Or.inl (by decide))))) (fun j => fun hq => (lf_c (vLo_c 12 (cVt_sF hx 2 _ 8 (Or.inl (by decide))) (RFc_sF _ _ _ _ _) (fun _ _ _ _ => (cVt_sF hx 9 _ 12 (Or.inl (by decide))))) j)) j hq
  refine ⟨fun b hb q => ⟨(funext fun j => xs b j ⟨hb, Or.inl q⟩).trans (h1 b hb q).1, (rows b).trans (h1 b hb q).2⟩, ?_, (rows a).trans h3, hB.c (fun b hb j hj => (cVt_sF hx 2 _ j (Or.inl (by decide)))) (fun b hb j hj => ⟨(cVt_sF hx 1 _ j (Or.inr (Or.inl (by omega)))), (cVt_sF hx 1 _ j (Or.inr (Or.inl (by omega))))⟩) (fun b hb => (cVt_sF hx 10 _ 0 (Or.inl (by decide)))) (fun b hb i l hi hl => (cVt_sF hx 6 _ 2 (Or.inl (by decide)))) (fun b hb => RFc_sF _ _ _ _ _) (fun b hb => RFc_sF _ _ _ _ _) (fun b hb => RFc_sF _ _ _ _ _) (fun b hb i l hi hl => (cVt_sF hx 9 _ 0 (Or.inl (by decide)))) (fun b hb => RFc_sF _ _ _ _ _) (fun b hb i l hi hl => (cVt_sF hx 3 _ 1 (Or.inl (by decide))))⟩
  rw [← h2]
  exact cfx_up 14 (fun j hj => xs a j ⟨ha, Or.inr hj⟩) (by show (cV 1 _ (rA 2 _ a 16) 3).toInt = _; rw [rA_c (cVt_sF hx 2 _ 16 (Or.inl (by decide))), hs, cV_sF_self hx hl])
theorem VC.n17 {cy : Nat → ClassId} {B : Nat → Nat × Nat} {K : Kp} {L : List Nat} {M0 M : Hp} {a x : Nat} {X : Nat → Int} {Y : Nat → Nat → Int32} {fs : List Value} {v : Int32} (h : VC B K L M0 M a X Y) (hW : WOK cy K L M) (ha : isk K L a 2 0) (hs : rA 2 M a 17 = x) (hx : M x = .inr (1, fs)) (hl : 3 < fs.length) : VC B K L M0 (sF M x 3 (.int v)) a (va_up X 15 v.toInt) Y := by
  obtain ⟨h1, h2, h3, hB⟩ := h
  have ow : ∀ b, isk K L b 2 0 → B (rA 2 M b 17) = (b, 1) := fun b hb => hB.e17 b hb
  have owx : B x = (a, 1) := by
    rw [← hs]
    exact ow a ha
  have rows : ∀ b, cax (sF M x 3 (.int v)) b = cax M b := fun b => funext fun j => rowf_cases (fun j f => f (sF M x 3 (.int v)) b = f M b) (vPl_c (cVt_sF hx 2 _ 12 (Or.inl (by decide))) (RFc_sF _ _ _ _ _) (fun _ _ _ _ => ⟨(cVt_sF hx 3 _ 1 (Or.inl (by decide))), (ALc_sF _ _ _ _ _)⟩)) (vLf_c 2 (cVt_sF hx 2 _ 12 (Or.inl (by decide))) (RFc_sF _ _ _ _ _) (fun _ _ _ _ => (cVt_sF hx 3 _ 2 (Or.inl (by decide))))) (vLf_c 0 (cVt_sF hx 2 _ 12 (Or.inl (by decide))) (RFc_sF _ _ _ _ _) (fun _ _ _ _ => (cVt_sF hx 3 _ 0 (Or.inl (by decide))))) (vWho_c (cVt_sF hx 2 _ 8 (Or.inl (by decide))) (RFc_sF _ _ _ _ _) (fun _ _ _ _ => ⟨(cVt_sF hx 9 _ 1 (Or.inl (by decide))), (cVt_sF hx 4 _ 0 (Or.inl (by decide)))⟩)) (vTe_c 2 (cVt_sF hx 2 _ 8 (Or.inl (by decide))) (RFc_sF _ _ _ _ _) (fun _ _ _ _ => (cVt_sF hx 9 _ 2 (Or.inl (by decide))))) (vTe_c 3 (cVt_sF hx 2 _ 8 (Or.inl (by decide))) (RFc_sF _ _ _ _ _) (fun _ _ _ _ => (cVt_sF hx 9 _ 3 (Or.inl (by decide))))) (vTe_c 5 (cVt_sF hx 2 _ 8 (Or.inl (by decide))) (RFc_sF _ _ _ _ _) (fun _ _ _ _ => (cVt_sF hx 9 _ 5 (Or.inl (by decide))))) (vTe_c 6 (cVt_sF hx 2 _ 8 (Or.inl (by decide))) (RFc_sF _ _ _ _ _) (fun _ _ _ _ => (cVt_sF hx 9 _ 6 (Or.inl (by decide))))) (vTe_c 7 (cVt_sF hx 2 _ 8 (Or.inl (by decide))) (RFc_sF _ _ _ _ _) (fun _ _ _ _ => (cVt_sF hx 9 _ 7 (Or.inl (by decide))))) (vKd_c (cVt_sF hx 2 _ 8 (Or.inl (by decide))) (RFc_sF _ _ _ _ _) (fun _ _ _ _ => ⟨(cVt_sF hx 9 _ 1 (Or.inl (by decide))), (cVt_sF hx 4 _ 1 (Or.inl (by decide)))⟩)) (vHr_c (cVt_sF hx 2 _ 8 (Or.inl (by decide))) (RFc_sF _ _ _ _ _) (fun _ _ _ _ => ⟨(cVt_sF hx 9 _ 8 (Or.inl (by decide))), fun _ _ => (cVt_sF hx 9 _ 0 (Or.inl (by decide)))⟩)) (vTe_c 4 (cVt_sF hx 2 _ 8 (Or.inl (by decide))) (RFc_sF _ _ _ _ _) (fun _ _ _ _ => (cVt_sF hx 9 _ 4 (Or.inl (by decide))))) (vOw_c (cVt_sF hx 2 _ 8 (Or.inl (by decide))) (RFc_sF _ _ _ _ _) (fun _ _ _ _ => ⟨(cVt_sF hx 9 _ 1 (Or.inl (by decide))), (cVt_sF hx 4 _ 3 (Or.inl (by decide))), fun _ _ => (cVt_sF hx 2 _ 0 (Or.inl (by decide)))⟩)) (vTn_c (cVt_sF hx 2 _ 8 (Or.inl (by decide))) (RFc_sF _ _ _ _ _)) (vRn_c (cVt_sF hx 2 _ 10 (Or.inl (by decide))) (RFc_sF _ _ _ _ _)) (vRu_c 0 (cVt_sF hx 2 _ 10 (Or.inl (by decide))) (RFc_sF _ _ _ _ _) (fun _ _ _ _ => (cVt_sF hx 6 _ 0 (Or.inl (by decide))))) (vRu_c 1 (cVt_sF hx 2 _ 10 (Or.inl (by decide))) (RFc_sF _ _ _ _ _) (fun _ _ _ _ => (cVt_sF hx 6 _ 1 (Or.inl (by decide))))) (vTm_c (cVt_sF hx 2 _ 10 (Or.inl (by decide))) (RFc_sF _ _ _ _ _) (fun i9 l9 hi9 hl9 => ⟨(cVt_sF hx 6 _ 2 (Or.inl (by decide))), (IFc_sF _ _ _ _ _)⟩)) (vEn_c (cVt_sF hx 2 _ 3 (Or.inl (by decide))) (IFc_sF _ _ _ _ _)) (vMo_c (cVt_sF hx 2 _ 16 (Or.inl (by decide))) (cVt_sF hx 1 _ 0 (Or.inr (Or.inl (by decide)))) (RFc_sF _ _ _ _ _) (fun _ _ _ _ => (cVt_sF hx 9 _ 0 (Or.inl (by decide))))) (vDs_c 16 1 (cVt_sF hx 2 _ 16 (Or.inl (by decide))) (cVt_sF hx 1 _ 1 (Or.inr (Or.inl (by decide)))) (IFc_sF _ _ _ _ _)) (vDs_c 16 2 (cVt_sF hx 2 _ 16 (Or.inl (by decide))) (cVt_sF hx 1 _ 2 (Or.inr (Or.inl (by decide)))) (IFc_sF _ _ _ _ _)) (vDs_c 17 1 (cVt_sF hx 2 _ 17 (Or.inl (by decide))) (cVt_sF hx 1 _ 1 (Or.inr (Or.inl (by decide)))) (IFc_sF _ _ _ _ _)) (vDs_c 17 2 (cVt_sF hx 2 _ 17 (Or.inl (by decide))) (cVt_sF hx 1 _ 2 (Or.inr (Or.inl (by decide)))) (IFc_sF _ _ _ _ _)) (vUn_c (cVt_sF hx 2 _ 18 (Or.inl (by decide))) (cVt_sF hx 10 _ 0 (Or.inl (by decide))) (IFc_sF _ _ _ _ _)) (vLe_c (cVt_sF hx 2 _ 6 (Or.inl (by decide))) (IFc_sF _ _ _ _ _)) (vHe_c (cVt_sF hx 2 _ 7 (Or.inl (by decide))) (RFc_sF _ _ _ _ _) (fun _ _ _ _ => (cVt_sF hx 9 _ 0 (Or.inl (by decide))))) (vEt_c (cVt_sF hx 2 _ 12 (Or.inl (by decide))) (RFc_sF _ _ _ _ _) (fun i9 l9 hi9 hl9 => ⟨(cVt_sF hx 3 _ 1 (Or.inl (by decide))), (IFc_sF _ _ _ _ _)⟩)) (fun _ => rfl) j
  have xs : ∀ b j, (isk K L b 2 0 ∧ (b ≠ a ∨ j ≠ 15)) → cfx (sF M x 3 (.int v)) b j = cfx M b j := fun b j hq => xf_cases (fun j f => (isk K L b 2 0 ∧ (b ≠ a ∨ j ≠ 15)) → f (sF M x 3 (.int v)) b = f M b) (fun hq => (congrArg Int32.toInt (cV_c (cVt_sF hx 2 _ 1 (Or.inl (by decide)))))) (fun hq => (congrArg Int32.toInt (cV_c (cVt_sF hx 2 _ 2 (Or.inl (by decide)))))) (fun hq => (congrArg Int32.toInt (cV_c (cVt_sF hx 2 _ 9 (Or.inl (by decide)))))) (fun hq => (congrArg Int32.toInt (cV_c (cVt_sF hx 2 _ 11 (Or.inl (by decide)))))) (fun hq => (congrArg Int32.toInt (cV_c (cVt_sF hx 2 _ 4 (Or.inl (by decide)))))) (fun hq => (congrArg Int32.toInt (cV_c (cVt_sF hx 2 _ 5 (Or.inl (by decide)))))) (fun hq => (congrArg Int32.toInt (cV_c (cVt_sF hx 2 _ 15 (Or.inl (by decide)))))) (fun hq => (congrArg Int32.toInt (cV_c (cVt_sF hx 2 _ 0 (Or.inl (by decide)))))) (fun hq => (x1_c 16 (cVt_sF hx 2 _ 16 (Or.inl (by decide))) (cVt_sF hx 1 _ 3 (Or.inr (Or.inr (fun z => absurd (congrArg Prod.snd ((hB.e0 b hq.1 16 (by decide)).symm.trans ((congrArg B z).trans owx))) (show ¬ (0 : Nat) = 1 by decide))))))) (fun hq => (x1_c 17 (cVt_sF hx 2 _ 17 (Or.inl (by decide))) (cVt_sF hx 1 _ 3 (Or.inr (Or.inr (fun z => (hq.2.resolve_right (fun w => w rfl)) (congrArg Prod.fst ((ow b hq.1).symm.trans ((congrArg B z).trans owx))))))))) (fun hq => (x10_c 2 (cVt_sF hx 2 _ 18 (Or.inl (by decide))) (cVt_sF hx 10 _ 2 (Or.inl (by decide))))) (fun hq => (x10_c 1 (cVt_sF hx 2 _ 18 (Or.inl (by decide))) (cVt_sF hx 10 _ 1 (Or.inl (by decide))))) (fun j => fun hq => (lf_c (vLo_c 12 (cVt_sF hx 2 _ 8 (Or.inl (by decide))) (RFc_sF _ _ _ _ _) (fun _ _ _ _ => (cVt_sF hx 9 _ 12 (Or.inl (by decide))))) j)) j hq
  refine ⟨fun b hb q => ⟨(funext fun j => xs b j ⟨hb, Or.inl q⟩).trans (h1 b hb q).1, (rows b).trans (h1 b hb q).2⟩, ?_, (rows a).trans h3, hB.c (fun b hb j hj => (cVt_sF hx 2 _ j (Or.inl (by decide)))) (fun b hb j hj => ⟨(cVt_sF hx 1 _ j (Or.inr (Or.inl (by omega)))), (cVt_sF hx 1 _ j (Or.inr (Or.inl (by omega))))⟩) (fun b hb => (cVt_sF hx 10 _ 0 (Or.inl (by decide)))) (fun b hb i l hi hl => (cVt_sF hx 6 _ 2 (Or.inl (by decide)))) (fun b hb => RFc_sF _ _ _ _ _) (fun b hb => RFc_sF _ _ _ _ _) (fun b hb => RFc_sF _ _ _ _ _) (fun b hb i l hi hl => (cVt_sF hx 9 _ 0 (Or.inl (by decide)))) (fun b hb => RFc_sF _ _ _ _ _) (fun b hb i l hi hl => (cVt_sF hx 3 _ 1 (Or.inl (by decide))))⟩
  rw [← h2]
  exact cfx_up 15 (fun j hj => xs a j ⟨ha, Or.inr hj⟩) (by show (cV 1 _ (rA 2 _ a 17) 3).toInt = _; rw [rA_c (cVt_sF hx 2 _ 17 (Or.inl (by decide))), hs, cV_sF_self hx hl])
theorem VC.u1 {cy : Nat → ClassId} {B : Nat → Nat × Nat} {K : Kp} {L : List Nat} {M0 M : Hp} {a x : Nat} {X : Nat → Int} {Y : Nat → Nat → Int32} {fs : List Value} {v : Int32} (h : VC B K L M0 M a X Y) (hW : WOK cy K L M) (ha : isk K L a 2 0) (hs : rA 2 M a 18 = x) (hx : M x = .inr (10, fs)) (hl : 1 < fs.length) : VC B K L M0 (sF M x 1 (.int v)) a (va_up X 19 v.toInt) Y := by
  obtain ⟨h1, h2, h3, hB⟩ := h
  have ow : ∀ b, isk K L b 2 0 → B (rA 2 M b 18) = (b, 0) := fun b hb => hB.e0 b hb 18 (by decide)
  have owx : B x = (a, 0) := by
    rw [← hs]
    exact ow a ha
  have rows : ∀ b, cax (sF M x 1 (.int v)) b = cax M b := fun b => funext fun j => rowf_cases (fun j f => f (sF M x 1 (.int v)) b = f M b) (vPl_c (cVt_sF hx 2 _ 12 (Or.inl (by decide))) (RFc_sF _ _ _ _ _) (fun _ _ _ _ => ⟨(cVt_sF hx 3 _ 1 (Or.inl (by decide))), (ALc_sF _ _ _ _ _)⟩)) (vLf_c 2 (cVt_sF hx 2 _ 12 (Or.inl (by decide))) (RFc_sF _ _ _ _ _) (fun _ _ _ _ => (cVt_sF hx 3 _ 2 (Or.inl (by decide))))) (vLf_c 0 (cVt_sF hx 2 _ 12 (Or.inl (by decide))) (RFc_sF _ _ _ _ _) (fun _ _ _ _ => (cVt_sF hx 3 _ 0 (Or.inl (by decide))))) (vWho_c (cVt_sF hx 2 _ 8 (Or.inl (by decide))) (RFc_sF _ _ _ _ _) (fun _ _ _ _ => ⟨(cVt_sF hx 9 _ 1 (Or.inl (by decide))), (cVt_sF hx 4 _ 0 (Or.inl (by decide)))⟩)) (vTe_c 2 (cVt_sF hx 2 _ 8 (Or.inl (by decide))) (RFc_sF _ _ _ _ _) (fun _ _ _ _ => (cVt_sF hx 9 _ 2 (Or.inl (by decide))))) (vTe_c 3 (cVt_sF hx 2 _ 8 (Or.inl (by decide))) (RFc_sF _ _ _ _ _) (fun _ _ _ _ => (cVt_sF hx 9 _ 3 (Or.inl (by decide))))) (vTe_c 5 (cVt_sF hx 2 _ 8 (Or.inl (by decide))) (RFc_sF _ _ _ _ _) (fun _ _ _ _ => (cVt_sF hx 9 _ 5 (Or.inl (by decide))))) (vTe_c 6 (cVt_sF hx 2 _ 8 (Or.inl (by decide))) (RFc_sF _ _ _ _ _) (fun _ _ _ _ => (cVt_sF hx 9 _ 6 (Or.inl (by decide))))) (vTe_c 7 (cVt_sF hx 2 _ 8 (Or.inl (by decide))) (RFc_sF _ _ _ _ _) (fun _ _ _ _ => (cVt_sF hx 9 _ 7 (Or.inl (by decide))))) (vKd_c (cVt_sF hx 2 _ 8 (Or.inl (by decide))) (RFc_sF _ _ _ _ _) (fun _ _ _ _ => ⟨(cVt_sF hx 9 _ 1 (Or.inl (by decide))), (cVt_sF hx 4 _ 1 (Or.inl (by decide)))⟩)) (vHr_c (cVt_sF hx 2 _ 8 (Or.inl (by decide))) (RFc_sF _ _ _ _ _) (fun _ _ _ _ => ⟨(cVt_sF hx 9 _ 8 (Or.inl (by decide))), fun _ _ => (cVt_sF hx 9 _ 0 (Or.inl (by decide)))⟩)) (vTe_c 4 (cVt_sF hx 2 _ 8 (Or.inl (by decide))) (RFc_sF _ _ _ _ _) (fun _ _ _ _ => (cVt_sF hx 9 _ 4 (Or.inl (by decide))))) (vOw_c (cVt_sF hx 2 _ 8 (Or.inl (by decide))) (RFc_sF _ _ _ _ _) (fun _ _ _ _ => ⟨(cVt_sF hx 9 _ 1 (Or.inl (by decide))), (cVt_sF hx 4 _ 3 (Or.inl (by decide))), fun _ _ => (cVt_sF hx 2 _ 0 (Or.inl (by decide)))⟩)) (vTn_c (cVt_sF hx 2 _ 8 (Or.inl (by decide))) (RFc_sF _ _ _ _ _)) (vRn_c (cVt_sF hx 2 _ 10 (Or.inl (by decide))) (RFc_sF _ _ _ _ _)) (vRu_c 0 (cVt_sF hx 2 _ 10 (Or.inl (by decide))) (RFc_sF _ _ _ _ _) (fun _ _ _ _ => (cVt_sF hx 6 _ 0 (Or.inl (by decide))))) (vRu_c 1 (cVt_sF hx 2 _ 10 (Or.inl (by decide))) (RFc_sF _ _ _ _ _) (fun _ _ _ _ => (cVt_sF hx 6 _ 1 (Or.inl (by decide))))) (vTm_c (cVt_sF hx 2 _ 10 (Or.inl (by decide))) (RFc_sF _ _ _ _ _) (fun i9 l9 hi9 hl9 => ⟨(cVt_sF hx 6 _ 2 (Or.inl (by decide))), (IFc_sF _ _ _ _ _)⟩)) (vEn_c (cVt_sF hx 2 _ 3 (Or.inl (by decide))) (IFc_sF _ _ _ _ _)) (vMo_c (cVt_sF hx 2 _ 16 (Or.inl (by decide))) (cVt_sF hx 1 _ 0 (Or.inl (by decide))) (RFc_sF _ _ _ _ _) (fun _ _ _ _ => (cVt_sF hx 9 _ 0 (Or.inl (by decide))))) (vDs_c 16 1 (cVt_sF hx 2 _ 16 (Or.inl (by decide))) (cVt_sF hx 1 _ 1 (Or.inl (by decide))) (IFc_sF _ _ _ _ _)) (vDs_c 16 2 (cVt_sF hx 2 _ 16 (Or.inl (by decide))) (cVt_sF hx 1 _ 2 (Or.inl (by decide))) (IFc_sF _ _ _ _ _)) (vDs_c 17 1 (cVt_sF hx 2 _ 17 (Or.inl (by decide))) (cVt_sF hx 1 _ 1 (Or.inl (by decide))) (IFc_sF _ _ _ _ _)) (vDs_c 17 2 (cVt_sF hx 2 _ 17 (Or.inl (by decide))) (cVt_sF hx 1 _ 2 (Or.inl (by decide))) (IFc_sF _ _ _ _ _)) (vUn_c (cVt_sF hx 2 _ 18 (Or.inl (by decide))) (cVt_sF hx 10 _ 0 (Or.inr (Or.inl (by decide)))) (IFc_sF _ _ _ _ _)) (vLe_c (cVt_sF hx 2 _ 6 (Or.inl (by decide))) (IFc_sF _ _ _ _ _)) (vHe_c (cVt_sF hx 2 _ 7 (Or.inl (by decide))) (RFc_sF _ _ _ _ _) (fun _ _ _ _ => (cVt_sF hx 9 _ 0 (Or.inl (by decide))))) (vEt_c (cVt_sF hx 2 _ 12 (Or.inl (by decide))) (RFc_sF _ _ _ _ _) (fun i9 l9 hi9 hl9 => ⟨(cVt_sF hx 3 _ 1 (Or.inl (by decide))), (IFc_sF _ _ _ _ _)⟩)) (fun _ => rfl) j
  have xs : ∀ b j, (isk K L b 2 0 ∧ (b ≠ a ∨ j ≠ 19)) → cfx (sF M x 1 (.int v)) b j = cfx M b j := fun b j hq => xf_cases (fun j f => (isk K L b 2 0 ∧ (b ≠ a ∨ j ≠ 19)) → f (sF M x 1 (.int v)) b = f M b) (fun hq => (congrArg Int32.toInt (cV_c (cVt_sF hx 2 _ 1 (Or.inl (by decide)))))) (fun hq => (congrArg Int32.toInt (cV_c (cVt_sF hx 2 _ 2 (Or.inl (by decide)))))) (fun hq => (congrArg Int32.toInt (cV_c (cVt_sF hx 2 _ 9 (Or.inl (by decide)))))) (fun hq => (congrArg Int32.toInt (cV_c (cVt_sF hx 2 _ 11 (Or.inl (by decide)))))) (fun hq => (congrArg Int32.toInt (cV_c (cVt_sF hx 2 _ 4 (Or.inl (by decide)))))) (fun hq => (congrArg Int32.toInt (cV_c (cVt_sF hx 2 _ 5 (Or.inl (by decide)))))) (fun hq => (congrArg Int32.toInt (cV_c (cVt_sF hx 2 _ 15 (Or.inl (by decide)))))) (fun hq => (congrArg Int32.toInt (cV_c (cVt_sF hx 2 _ 0 (Or.inl (by decide)))))) (fun hq => (x1_c 16 (cVt_sF hx 2 _ 16 (Or.inl (by decide))) (cVt_sF hx 1 _ 3 (Or.inl (by decide))))) (fun hq => (x1_c 17 (cVt_sF hx 2 _ 17 (Or.inl (by decide))) (cVt_sF hx 1 _ 3 (Or.inl (by decide))))) (fun hq => (x10_c 2 (cVt_sF hx 2 _ 18 (Or.inl (by decide))) (cVt_sF hx 10 _ 2 (Or.inr (Or.inl (by decide)))))) (fun hq => (x10_c 1 (cVt_sF hx 2 _ 18 (Or.inl (by decide))) (cVt_sF hx 10 _ 1 (Or.inr (Or.inr (fun z => (hq.2.resolve_right (fun w => w rfl)) (congrArg Prod.fst ((ow b hq.1).symm.trans ((congrArg B z).trans owx))))))))) (fun j => fun hq => (lf_c (vLo_c 12 (cVt_sF hx 2 _ 8 (Or.inl (by decide))) (RFc_sF _ _ _ _ _) (fun _ _ _ _ => (cVt_sF hx 9 _ 12 (Or.inl (by decide))))) j)) j hq
  refine ⟨fun b hb q => ⟨(funext fun j => xs b j ⟨hb, Or.inl q⟩).trans (h1 b hb q).1, (rows b).trans (h1 b hb q).2⟩, ?_, (rows a).trans h3, hB.c (fun b hb j hj => (cVt_sF hx 2 _ j (Or.inl (by decide)))) (fun b hb j hj => ⟨(cVt_sF hx 1 _ j (Or.inl (by decide))), (cVt_sF hx 1 _ j (Or.inl (by decide)))⟩) (fun b hb => (cVt_sF hx 10 _ 0 (Or.inr (Or.inl (by decide))))) (fun b hb i l hi hl => (cVt_sF hx 6 _ 2 (Or.inl (by decide)))) (fun b hb => RFc_sF _ _ _ _ _) (fun b hb => RFc_sF _ _ _ _ _) (fun b hb => RFc_sF _ _ _ _ _) (fun b hb i l hi hl => (cVt_sF hx 9 _ 0 (Or.inl (by decide)))) (fun b hb => RFc_sF _ _ _ _ _) (fun b hb i l hi hl => (cVt_sF hx 3 _ 1 (Or.inl (by decide))))⟩
  rw [← h2]
  exact cfx_up 19 (fun j hj => xs a j ⟨ha, Or.inr hj⟩) (by show (cV 10 _ (rA 2 _ a 18) 1).toInt = _; rw [rA_c (cVt_sF hx 2 _ 18 (Or.inl (by decide))), hs, cV_sF_self hx hl])
theorem VC.u2 {cy : Nat → ClassId} {B : Nat → Nat × Nat} {K : Kp} {L : List Nat} {M0 M : Hp} {a x : Nat} {X : Nat → Int} {Y : Nat → Nat → Int32} {fs : List Value} {v : Int32} (h : VC B K L M0 M a X Y) (hW : WOK cy K L M) (ha : isk K L a 2 0) (hs : rA 2 M a 18 = x) (hx : M x = .inr (10, fs)) (hl : 2 < fs.length) : VC B K L M0 (sF M x 2 (.int v)) a (va_up X 16 v.toInt) Y := by
  obtain ⟨h1, h2, h3, hB⟩ := h
  have ow : ∀ b, isk K L b 2 0 → B (rA 2 M b 18) = (b, 0) := fun b hb => hB.e0 b hb 18 (by decide)
  have owx : B x = (a, 0) := by
    rw [← hs]
    exact ow a ha
  have rows : ∀ b, cax (sF M x 2 (.int v)) b = cax M b := fun b => funext fun j => rowf_cases (fun j f => f (sF M x 2 (.int v)) b = f M b) (vPl_c (cVt_sF hx 2 _ 12 (Or.inl (by decide))) (RFc_sF _ _ _ _ _) (fun _ _ _ _ => ⟨(cVt_sF hx 3 _ 1 (Or.inl (by decide))), (ALc_sF _ _ _ _ _)⟩)) (vLf_c 2 (cVt_sF hx 2 _ 12 (Or.inl (by decide))) (RFc_sF _ _ _ _ _) (fun _ _ _ _ => (cVt_sF hx 3 _ 2 (Or.inl (by decide))))) (vLf_c 0 (cVt_sF hx 2 _ 12 (Or.inl (by decide))) (RFc_sF _ _ _ _ _) (fun _ _ _ _ => (cVt_sF hx 3 _ 0 (Or.inl (by decide))))) (vWho_c (cVt_sF hx 2 _ 8 (Or.inl (by decide))) (RFc_sF _ _ _ _ _) (fun _ _ _ _ => ⟨(cVt_sF hx 9 _ 1 (Or.inl (by decide))), (cVt_sF hx 4 _ 0 (Or.inl (by decide)))⟩)) (vTe_c 2 (cVt_sF hx 2 _ 8 (Or.inl (by decide))) (RFc_sF _ _ _ _ _) (fun _ _ _ _ => (cVt_sF hx 9 _ 2 (Or.inl (by decide))))) (vTe_c 3 (cVt_sF hx 2 _ 8 (Or.inl (by decide))) (RFc_sF _ _ _ _ _) (fun _ _ _ _ => (cVt_sF hx 9 _ 3 (Or.inl (by decide))))) (vTe_c 5 (cVt_sF hx 2 _ 8 (Or.inl (by decide))) (RFc_sF _ _ _ _ _) (fun _ _ _ _ => (cVt_sF hx 9 _ 5 (Or.inl (by decide))))) (vTe_c 6 (cVt_sF hx 2 _ 8 (Or.inl (by decide))) (RFc_sF _ _ _ _ _) (fun _ _ _ _ => (cVt_sF hx 9 _ 6 (Or.inl (by decide))))) (vTe_c 7 (cVt_sF hx 2 _ 8 (Or.inl (by decide))) (RFc_sF _ _ _ _ _) (fun _ _ _ _ => (cVt_sF hx 9 _ 7 (Or.inl (by decide))))) (vKd_c (cVt_sF hx 2 _ 8 (Or.inl (by decide))) (RFc_sF _ _ _ _ _) (fun _ _ _ _ => ⟨(cVt_sF hx 9 _ 1 (Or.inl (by decide))), (cVt_sF hx 4 _ 1 (Or.inl (by decide)))⟩)) (vHr_c (cVt_sF hx 2 _ 8 (Or.inl (by decide))) (RFc_sF _ _ _ _ _) (fun _ _ _ _ => ⟨(cVt_sF hx 9 _ 8 (Or.inl (by decide))), fun _ _ => (cVt_sF hx 9 _ 0 (Or.inl (by decide)))⟩)) (vTe_c 4 (cVt_sF hx 2 _ 8 (Or.inl (by decide))) (RFc_sF _ _ _ _ _) (fun _ _ _ _ => (cVt_sF hx 9 _ 4 (Or.inl (by decide))))) (vOw_c (cVt_sF hx 2 _ 8 (Or.inl (by decide))) (RFc_sF _ _ _ _ _) (fun _ _ _ _ => ⟨(cVt_sF hx 9 _ 1 (Or.inl (by decide))), (cVt_sF hx 4 _ 3 (Or.inl (by decide))), fun _ _ => (cVt_sF hx 2 _ 0 (Or.inl (by decide)))⟩)) (vTn_c (cVt_sF hx 2 _ 8 (Or.inl (by decide))) (RFc_sF _ _ _ _ _)) (vRn_c (cVt_sF hx 2 _ 10 (Or.inl (by decide))) (RFc_sF _ _ _ _ _)) (vRu_c 0 (cVt_sF hx 2 _ 10 (Or.inl (by decide))) (RFc_sF _ _ _ _ _) (fun _ _ _ _ => (cVt_sF hx 6 _ 0 (Or.inl (by decide))))) (vRu_c 1 (cVt_sF hx 2 _ 10 (Or.inl (by decide))) (RFc_sF _ _ _ _ _) (fun _ _ _ _ => (cVt_sF hx 6 _ 1 (Or.inl (by decide))))) (vTm_c (cVt_sF hx 2 _ 10 (Or.inl (by decide))) (RFc_sF _ _ _ _ _) (fun i9 l9 hi9 hl9 => ⟨(cVt_sF hx 6 _ 2 (Or.inl (by decide))), (IFc_sF _ _ _ _ _)⟩)) (vEn_c (cVt_sF hx 2 _ 3 (Or.inl (by decide))) (IFc_sF _ _ _ _ _)) (vMo_c (cVt_sF hx 2 _ 16 (Or.inl (by decide))) (cVt_sF hx 1 _ 0 (Or.inl (by decide))) (RFc_sF _ _ _ _ _) (fun _ _ _ _ => (cVt_sF hx 9 _ 0 (Or.inl (by decide))))) (vDs_c 16 1 (cVt_sF hx 2 _ 16 (Or.inl (by decide))) (cVt_sF hx 1 _ 1 (Or.inl (by decide))) (IFc_sF _ _ _ _ _)) (vDs_c 16 2 (cVt_sF hx 2 _ 16 (Or.inl (by decide))) (cVt_sF hx 1 _ 2 (Or.inl (by decide))) (IFc_sF _ _ _ _ _)) (vDs_c 17 1 (cVt_sF hx 2 _ 17 (Or.inl (by decide))) (cVt_sF hx 1 _ 1 (Or.inl (by decide))) (IFc_sF _ _ _ _ _)) (vDs_c 17 2 (cVt_sF hx 2 _ 17 (Or.inl (by decide))) (cVt_sF hx 1 _ 2 (Or.inl (by decide))) (IFc_sF _ _ _ _ _)) (vUn_c (cVt_sF hx 2 _ 18 (Or.inl (by decide))) (cVt_sF hx 10 _ 0 (Or.inr (Or.inl (by decide)))) (IFc_sF _ _ _ _ _)) (vLe_c (cVt_sF hx 2 _ 6 (Or.inl (by decide))) (IFc_sF _ _ _ _ _)) (vHe_c (cVt_sF hx 2 _ 7 (Or.inl (by decide))) (RFc_sF _ _ _ _ _) (fun _ _ _ _ => (cVt_sF hx 9 _ 0 (Or.inl (by decide))))) (vEt_c (cVt_sF hx 2 _ 12 (Or.inl (by decide))) (RFc_sF _ _ _ _ _) (fun i9 l9 hi9 hl9 => ⟨(cVt_sF hx 3 _ 1 (Or.inl (by decide))), (IFc_sF _ _ _ _ _)⟩)) (fun _ => rfl) j
  have xs : ∀ b j, (isk K L b 2 0 ∧ (b ≠ a ∨ j ≠ 16)) → cfx (sF M x 2 (.int v)) b j = cfx M b j := fun b j hq => xf_cases (fun j f => (isk K L b 2 0 ∧ (b ≠ a ∨ j ≠ 16)) → f (sF M x 2 (.int v)) b = f M b) (fun hq => (congrArg Int32.toInt (cV_c (cVt_sF hx 2 _ 1 (Or.inl (by decide)))))) (fun hq => (congrArg Int32.toInt (cV_c (cVt_sF hx 2 _ 2 (Or.inl (by decide)))))) (fun hq => (congrArg Int32.toInt (cV_c (cVt_sF hx 2 _ 9 (Or.inl (by decide)))))) (fun hq => (congrArg Int32.toInt (cV_c (cVt_sF hx 2 _ 11 (Or.inl (by decide)))))) (fun hq => (congrArg Int32.toInt (cV_c (cVt_sF hx 2 _ 4 (Or.inl (by decide)))))) (fun hq => (congrArg Int32.toInt (cV_c (cVt_sF hx 2 _ 5 (Or.inl (by decide)))))) (fun hq => (congrArg Int32.toInt (cV_c (cVt_sF hx 2 _ 15 (Or.inl (by decide)))))) (fun hq => (congrArg Int32.toInt (cV_c (cVt_sF hx 2 _ 0 (Or.inl (by decide)))))) (fun hq => (x1_c 16 (cVt_sF hx 2 _ 16 (Or.inl (by decide))) (cVt_sF hx 1 _ 3 (Or.inl (by decide))))) (fun hq => (x1_c 17 (cVt_sF hx 2 _ 17 (Or.inl (by decide))) (cVt_sF hx 1 _ 3 (Or.inl (by decide))))) (fun hq => (x10_c 2 (cVt_sF hx 2 _ 18 (Or.inl (by decide))) (cVt_sF hx 10 _ 2 (Or.inr (Or.inr (fun z => (hq.2.resolve_right (fun w => w rfl)) (congrArg Prod.fst ((ow b hq.1).symm.trans ((congrArg B z).trans owx))))))))) (fun hq => (x10_c 1 (cVt_sF hx 2 _ 18 (Or.inl (by decide))) (cVt_sF hx 10 _ 1 (Or.inr (Or.inl (by decide)))))) (fun j => fun hq => (lf_c (vLo_c 12 (cVt_sF hx 2 _ 8 (Or.inl (by decide))) (RFc_sF _ _ _ _ _) (fun _ _ _ _ => (cVt_sF hx 9 _ 12 (Or.inl (by decide))))) j)) j hq
  refine ⟨fun b hb q => ⟨(funext fun j => xs b j ⟨hb, Or.inl q⟩).trans (h1 b hb q).1, (rows b).trans (h1 b hb q).2⟩, ?_, (rows a).trans h3, hB.c (fun b hb j hj => (cVt_sF hx 2 _ j (Or.inl (by decide)))) (fun b hb j hj => ⟨(cVt_sF hx 1 _ j (Or.inl (by decide))), (cVt_sF hx 1 _ j (Or.inl (by decide)))⟩) (fun b hb => (cVt_sF hx 10 _ 0 (Or.inr (Or.inl (by decide))))) (fun b hb i l hi hl => (cVt_sF hx 6 _ 2 (Or.inl (by decide)))) (fun b hb => RFc_sF _ _ _ _ _) (fun b hb => RFc_sF _ _ _ _ _) (fun b hb => RFc_sF _ _ _ _ _) (fun b hb i l hi hl => (cVt_sF hx 9 _ 0 (Or.inl (by decide)))) (fun b hb => RFc_sF _ _ _ _ _) (fun b hb i l hi hl => (cVt_sF hx 3 _ 1 (Or.inl (by decide))))⟩
  rw [← h2]
  exact cfx_up 16 (fun j hj => xs a j ⟨ha, Or.inr hj⟩) (by show (cV 10 _ (rA 2 _ a 18) 2).toInt = _; rw [rA_c (cVt_sF hx 2 _ 18 (Or.inl (by decide))), hs, cV_sF_self hx hl])
theorem VC.a_en {cy : Nat → ClassId} {B : Nat → Nat × Nat} {K : Kp} {L : List Nat} {M0 M : Hp} {a x i n : Nat} {X : Nat → Int} {Y : Nat → Nat → Int32} {c : ClassId} {g : Nat → Int32} {v : Int32} (h : VC B K L M0 M a X Y) (hW : WOK cy K L M) (ha : isk K L a 2 0) (hs : rA 2 M a 3 = x) (hx : M x = .inl (c, n, .inl g)) : VC B K L M0 (sA M x i v) a X (va_up Y 37 (upd (Y 37) i v)) := by
  obtain ⟨h1, h2, h3, hB⟩ := h
  have owx : B x = (a, 0) := by
    rw [← hs]
    exact hB.e0 a ha 3 (by decide)
  obtain ⟨nx, ix⟩ : ∃ nx, isk K L x 51 nx := by
    rw [← hs]
    have kb := KH hW ha
    obtain ⟨n6, q60, q61, q62⟩ := KD hW kb.2.2.2.2.2.2.1
    obtain ⟨n7, q70, q71, q72⟩ := KD hW kb.2.2.2.2.2.2.2.1
    have ku := KU hW kb.2.2.2.2.2.2.2.2
    exact ⟨_, kb.1⟩
  have rows : ∀ b j, (isk K L b 2 0 ∧ (b ≠ a ∨ j ≠ 37)) → cax (sA M x i v) b j = cax M b j := fun b j hq => by
    have kb := KH hW hq.1
    obtain ⟨n6, q60, q61, q62⟩ := KD hW kb.2.2.2.2.2.2.1
    obtain ⟨n7, q70, q71, q72⟩ := KD hW kb.2.2.2.2.2.2.2.1
    have ku := KU hW kb.2.2.2.2.2.2.2.2
    exact rowf_cases (fun j f => (isk K L b 2 0 ∧ (b ≠ a ∨ j ≠ 37)) → f (sA M x i v) b = f M b) (fun hq => (vPl_c (cVt_sA _ _ _ _ 2 _ 12) (RFc_sA _ _ _ _ _) (fun _ _ _ _ => ⟨(cVt_sA _ _ _ _ 3 _ 1), (ALc_sA _ _ _ _ _)⟩))) (fun hq => (vLf_c 2 (cVt_sA _ _ _ _ 2 _ 12) (RFc_sA _ _ _ _ _) (fun _ _ _ _ => (cVt_sA _ _ _ _ 3 _ 2)))) (fun hq => (vLf_c 0 (cVt_sA _ _ _ _ 2 _ 12) (RFc_sA _ _ _ _ _) (fun _ _ _ _ => (cVt_sA _ _ _ _ 3 _ 0)))) (fun hq => (vWho_c (cVt_sA _ _ _ _ 2 _ 8) (RFc_sA _ _ _ _ _) (fun _ _ _ _ => ⟨(cVt_sA _ _ _ _ 9 _ 1), (cVt_sA _ _ _ _ 4 _ 0)⟩))) (fun hq => (vTe_c 2 (cVt_sA _ _ _ _ 2 _ 8) (RFc_sA _ _ _ _ _) (fun _ _ _ _ => (cVt_sA _ _ _ _ 9 _ 2)))) (fun hq => (vTe_c 3 (cVt_sA _ _ _ _ 2 _ 8) (RFc_sA _ _ _ _ _) (fun _ _ _ _ => (cVt_sA _ _ _ _ 9 _ 3)))) (fun hq => (vTe_c 5 (cVt_sA _ _ _ _ 2 _ 8) (RFc_sA _ _ _ _ _) (fun _ _ _ _ => (cVt_sA _ _ _ _ 9 _ 5)))) (fun hq => (vTe_c 6 (cVt_sA _ _ _ _ 2 _ 8) (RFc_sA _ _ _ _ _) (fun _ _ _ _ => (cVt_sA _ _ _ _ 9 _ 6)))) (fun hq => (vTe_c 7 (cVt_sA _ _ _ _ 2 _ 8) (RFc_sA _ _ _ _ _) (fun _ _ _ _ => (cVt_sA _ _ _ _ 9 _ 7)))) (fun hq => (vKd_c (cVt_sA _ _ _ _ 2 _ 8) (RFc_sA _ _ _ _ _) (fun _ _ _ _ => ⟨(cVt_sA _ _ _ _ 9 _ 1), (cVt_sA _ _ _ _ 4 _ 1)⟩))) (fun hq => (vHr_c (cVt_sA _ _ _ _ 2 _ 8) (RFc_sA _ _ _ _ _) (fun _ _ _ _ => ⟨(cVt_sA _ _ _ _ 9 _ 8), fun _ _ => (cVt_sA _ _ _ _ 9 _ 0)⟩))) (fun hq => (vTe_c 4 (cVt_sA _ _ _ _ 2 _ 8) (RFc_sA _ _ _ _ _) (fun _ _ _ _ => (cVt_sA _ _ _ _ 9 _ 4)))) (fun hq => (vOw_c (cVt_sA _ _ _ _ 2 _ 8) (RFc_sA _ _ _ _ _) (fun _ _ _ _ => ⟨(cVt_sA _ _ _ _ 9 _ 1), (cVt_sA _ _ _ _ 4 _ 3), fun _ _ => (cVt_sA _ _ _ _ 2 _ 0)⟩))) (fun hq => (vTn_c (cVt_sA _ _ _ _ 2 _ 8) (RFc_sA _ _ _ _ _))) (fun hq => (vRn_c (cVt_sA _ _ _ _ 2 _ 10) (RFc_sA _ _ _ _ _))) (fun hq => (vRu_c 0 (cVt_sA _ _ _ _ 2 _ 10) (RFc_sA _ _ _ _ _) (fun _ _ _ _ => (cVt_sA _ _ _ _ 6 _ 0)))) (fun hq => (vRu_c 1 (cVt_sA _ _ _ _ 2 _ 10) (RFc_sA _ _ _ _ _) (fun _ _ _ _ => (cVt_sA _ _ _ _ 6 _ 1)))) (fun hq => (vTm_c (cVt_sA _ _ _ _ 2 _ 10) (RFc_sA _ _ _ _ _) (fun i9 l9 hi9 hl9 => ⟨(cVt_sA _ _ _ _ 6 _ 2), (IFc_sA ((KR hW (KA10 hW kb.2.2.2.2.1 hi9 hl9)).neT ix (by decide)))⟩))) (fun hq => (vEn_c (cVt_sA _ _ _ _ 2 _ 3) (IFc_sA (fun z => (hq.2.resolve_right (fun w => w rfl)) (congrArg Prod.fst ((hB.e0 b hq.1 3 (by decide)).symm.trans ((congrArg B z).trans owx))))))) (fun hq => (vMo_c (cVt_sA _ _ _ _ 2 _ 16) (cVt_sA _ _ _ _ 1 _ 0) (RFc_sA _ _ _ _ _) (fun _ _ _ _ => (cVt_sA _ _ _ _ 9 _ 0)))) (fun hq => (vDs_c 16 1 (cVt_sA _ _ _ _ 2 _ 16) (cVt_sA _ _ _ _ 1 _ 1) (IFc_sA (q61.neT ix (by decide))))) (fun hq => (vDs_c 16 2 (cVt_sA _ _ _ _ 2 _ 16) (cVt_sA _ _ _ _ 1 _ 2) (IFc_sA (q62.neT ix (by decide))))) (fun hq => (vDs_c 17 1 (cVt_sA _ _ _ _ 2 _ 17) (cVt_sA _ _ _ _ 1 _ 1) (IFc_sA (q71.neT ix (by decide))))) (fun hq => (vDs_c 17 2 (cVt_sA _ _ _ _ 2 _ 17) (cVt_sA _ _ _ _ 1 _ 2) (IFc_sA (q72.neT ix (by decide))))) (fun hq => (vUn_c (cVt_sA _ _ _ _ 2 _ 18) (cVt_sA _ _ _ _ 10 _ 0) (IFc_sA (ku.neT ix (by decide))))) (fun hq => (vLe_c (cVt_sA _ _ _ _ 2 _ 6) (IFc_sA (kb.2.1.neT ix (by decide))))) (fun hq => (vHe_c (cVt_sA _ _ _ _ 2 _ 7) (RFc_sA _ _ _ _ _) (fun _ _ _ _ => (cVt_sA _ _ _ _ 9 _ 0)))) (fun hq => (vEt_c (cVt_sA _ _ _ _ 2 _ 12) (RFc_sA _ _ _ _ _) (fun i9 l9 hi9 hl9 => ⟨(cVt_sA _ _ _ _ 3 _ 1), (IFc_sA ((KL hW (KA12 hW kb.2.2.2.2.2.1 hi9 hl9)).choose_spec.neT ix (by decide)))⟩))) (fun _ => fun _ => rfl) j hq
  have xs : ∀ b, cfx (sA M x i v) b = cfx M b := fun b => funext fun j => xf_cases (fun j f => f (sA M x i v) b = f M b) (congrArg Int32.toInt (cV_c (cVt_sA _ _ _ _ 2 _ 1))) (congrArg Int32.toInt (cV_c (cVt_sA _ _ _ _ 2 _ 2))) (congrArg Int32.toInt (cV_c (cVt_sA _ _ _ _ 2 _ 9))) (congrArg Int32.toInt (cV_c (cVt_sA _ _ _ _ 2 _ 11))) (congrArg Int32.toInt (cV_c (cVt_sA _ _ _ _ 2 _ 4))) (congrArg Int32.toInt (cV_c (cVt_sA _ _ _ _ 2 _ 5))) (congrArg Int32.toInt (cV_c (cVt_sA _ _ _ _ 2 _ 15))) (congrArg Int32.toInt (cV_c (cVt_sA _ _ _ _ 2 _ 0))) (x1_c 16 (cVt_sA _ _ _ _ 2 _ 16) (cVt_sA _ _ _ _ 1 _ 3)) (x1_c 17 (cVt_sA _ _ _ _ 2 _ 17) (cVt_sA _ _ _ _ 1 _ 3)) (x10_c 2 (cVt_sA _ _ _ _ 2 _ 18) (cVt_sA _ _ _ _ 10 _ 2)) (x10_c 1 (cVt_sA _ _ _ _ 2 _ 18) (cVt_sA _ _ _ _ 10 _ 1)) (fun j => (lf_c (vLo_c 12 (cVt_sA _ _ _ _ 2 _ 8) (RFc_sA _ _ _ _ _) (fun _ _ _ _ => (cVt_sA _ _ _ _ 9 _ 12))) j)) j
  have rowa : cax (sA M x i v) a 37 = upd (cax M a 37) i v := by
    show vEn (sA M x i v) a = upd (vEn M a) i v
    unfold vEn
    rw [rA_c (cVt_sA _ _ _ _ 2 _ 3), hs, IFc_sA_self hx]
  refine ⟨fun b hb q => ⟨(xs b).trans (h1 b hb q).1, (funext fun j => rows b j ⟨hb, Or.inl q⟩).trans (h1 b hb q).2⟩, (xs a).trans h2, ?_, hB.c (fun b hb j hj => cVt_sA _ _ _ _ _ _ _) (fun b hb j hj => ⟨cVt_sA _ _ _ _ _ _ _, cVt_sA _ _ _ _ _ _ _⟩) (fun b hb => cVt_sA _ _ _ _ _ _ _) (fun b hb i l hi hl => cVt_sA _ _ _ _ _ _ _) (fun b hb => RFc_sA _ _ _ _ _) (fun b hb => RFc_sA _ _ _ _ _) (fun b hb => RFc_sA _ _ _ _ _) (fun b hb i l hi hl => cVt_sA _ _ _ _ _ _ _) (fun b hb => RFc_sA _ _ _ _ _) (fun b hb i l hi hl => cVt_sA _ _ _ _ _ _ _)⟩
  rw [← h3]
  exact cax_up 37 (fun j hj => rows a j ⟨ha, Or.inr hj⟩) rowa
theorem VC.a_le {cy : Nat → ClassId} {B : Nat → Nat × Nat} {K : Kp} {L : List Nat} {M0 M : Hp} {a x i n : Nat} {X : Nat → Int} {Y : Nat → Nat → Int32} {c : ClassId} {g : Nat → Int32} {v : Int32} (h : VC B K L M0 M a X Y) (hW : WOK cy K L M) (ha : isk K L a 2 0) (hs : rA 2 M a 6 = x) (hx : M x = .inl (c, n, .inl g)) : VC B K L M0 (sA M x i v) a X (va_up Y 50 (upd (Y 50) i v)) := by
  obtain ⟨h1, h2, h3, hB⟩ := h
  have owx : B x = (a, 0) := by
    rw [← hs]
    exact hB.e0 a ha 6 (by decide)
  obtain ⟨nx, ix⟩ : ∃ nx, isk K L x 52 nx := by
    rw [← hs]
    have kb := KH hW ha
    obtain ⟨n6, q60, q61, q62⟩ := KD hW kb.2.2.2.2.2.2.1
    obtain ⟨n7, q70, q71, q72⟩ := KD hW kb.2.2.2.2.2.2.2.1
    have ku := KU hW kb.2.2.2.2.2.2.2.2
    exact ⟨_, kb.2.1⟩
  have rows : ∀ b j, (isk K L b 2 0 ∧ (b ≠ a ∨ j ≠ 50)) → cax (sA M x i v) b j = cax M b j := fun b j hq => by
    have kb := KH hW hq.1
    obtain ⟨n6, q60, q61, q62⟩ := KD hW kb.2.2.2.2.2.2.1
    obtain ⟨n7, q70, q71, q72⟩ := KD hW kb.2.2.2.2.2.2.2.1
    have ku := KU hW kb.2.2.2.2.2.2.2.2
    exact rowf_cases (fun j f => (isk K L b 2 0 ∧ (b ≠ a ∨ j ≠ 50)) → f (sA M x i v) b = f M b) (fun hq => (vPl_c (cVt_sA _ _ _ _ 2 _ 12) (RFc_sA _ _ _ _ _) (fun _ _ _ _ => ⟨(cVt_sA _ _ _ _ 3 _ 1), (ALc_sA _ _ _ _ _)⟩))) (fun hq => (vLf_c 2 (cVt_sA _ _ _ _ 2 _ 12) (RFc_sA _ _ _ _ _) (fun _ _ _ _ => (cVt_sA _ _ _ _ 3 _ 2)))) (fun hq => (vLf_c 0 (cVt_sA _ _ _ _ 2 _ 12) (RFc_sA _ _ _ _ _) (fun _ _ _ _ => (cVt_sA _ _ _ _ 3 _ 0)))) (fun hq => (vWho_c (cVt_sA _ _ _ _ 2 _ 8) (RFc_sA _ _ _ _ _) (fun _ _ _ _ => ⟨(cVt_sA _ _ _ _ 9 _ 1), (cVt_sA _ _ _ _ 4 _ 0)⟩))) (fun hq => (vTe_c 2 (cVt_sA _ _ _ _ 2 _ 8) (RFc_sA _ _ _ _ _) (fun _ _ _ _ => (cVt_sA _ _ _ _ 9 _ 2)))) (fun hq => (vTe_c 3 (cVt_sA _ _ _ _ 2 _ 8) (RFc_sA _ _ _ _ _) (fun _ _ _ _ => (cVt_sA _ _ _ _ 9 _ 3)))) (fun hq => (vTe_c 5 (cVt_sA _ _ _ _ 2 _ 8) (RFc_sA _ _ _ _ _) (fun _ _ _ _ => (cVt_sA _ _ _ _ 9 _ 5)))) (fun hq => (vTe_c 6 (cVt_sA _ _ _ _ 2 _ 8) (RFc_sA _ _ _ _ _) (fun _ _ _ _ => (cVt_sA _ _ _ _ 9 _ 6)))) (fun hq => (vTe_c 7 (cVt_sA _ _ _ _ 2 _ 8) (RFc_sA _ _ _ _ _) (fun _ _ _ _ => (cVt_sA _ _ _ _ 9 _ 7)))) (fun hq => (vKd_c (cVt_sA _ _ _ _ 2 _ 8) (RFc_sA _ _ _ _ _) (fun _ _ _ _ => ⟨(cVt_sA _ _ _ _ 9 _ 1), (cVt_sA _ _ _ _ 4 _ 1)⟩))) (fun hq => (vHr_c (cVt_sA _ _ _ _ 2 _ 8) (RFc_sA _ _ _ _ _) (fun _ _ _ _ => ⟨(cVt_sA _ _ _ _ 9 _ 8), fun _ _ => (cVt_sA _ _ _ _ 9 _ 0)⟩))) (fun hq => (vTe_c 4 (cVt_sA _ _ _ _ 2 _ 8) (RFc_sA _ _ _ _ _) (fun _ _ _ _ => (cVt_sA _ _ _ _ 9 _ 4)))) (fun hq => (vOw_c (cVt_sA _ _ _ _ 2 _ 8) (RFc_sA _ _ _ _ _) (fun _ _ _ _ => ⟨(cVt_sA _ _ _ _ 9 _ 1), (cVt_sA _ _ _ _ 4 _ 3), fun _ _ => (cVt_sA _ _ _ _ 2 _ 0)⟩))) (fun hq => (vTn_c (cVt_sA _ _ _ _ 2 _ 8) (RFc_sA _ _ _ _ _))) (fun hq => (vRn_c (cVt_sA _ _ _ _ 2 _ 10) (RFc_sA _ _ _ _ _))) (fun hq => (vRu_c 0 (cVt_sA _ _ _ _ 2 _ 10) (RFc_sA _ _ _ _ _) (fun _ _ _ _ => (cVt_sA _ _ _ _ 6 _ 0)))) (fun hq => (vRu_c 1 (cVt_sA _ _ _ _ 2 _ 10) (RFc_sA _ _ _ _ _) (fun _ _ _ _ => (cVt_sA _ _ _ _ 6 _ 1)))) (fun hq => (vTm_c (cVt_sA _ _ _ _ 2 _ 10) (RFc_sA _ _ _ _ _) (fun i9 l9 hi9 hl9 => ⟨(cVt_sA _ _ _ _ 6 _ 2), (IFc_sA ((KR hW (KA10 hW kb.2.2.2.2.1 hi9 hl9)).neT ix (by decide)))⟩))) (fun hq => (vEn_c (cVt_sA _ _ _ _ 2 _ 3) (IFc_sA (kb.1.neT ix (by decide))))) (fun hq => (vMo_c (cVt_sA _ _ _ _ 2 _ 16) (cVt_sA _ _ _ _ 1 _ 0) (RFc_sA _ _ _ _ _) (fun _ _ _ _ => (cVt_sA _ _ _ _ 9 _ 0)))) (fun hq => (vDs_c 16 1 (cVt_sA _ _ _ _ 2 _ 16) (cVt_sA _ _ _ _ 1 _ 1) (IFc_sA (q61.neT ix (by decide))))) (fun hq => (vDs_c 16 2 (cVt_sA _ _ _ _ 2 _ 16) (cVt_sA _ _ _ _ 1 _ 2) (IFc_sA (q62.neT ix (by decide))))) (fun hq => (vDs_c 17 1 (cVt_sA _ _ _ _ 2 _ 17) (cVt_sA _ _ _ _ 1 _ 1) (IFc_sA (q71.neT ix (by decide))))) (fun hq => (vDs_c 17 2 (cVt_sA _ _ _ _ 2 _ 17) (cVt_sA _ _ _ _ 1 _ 2) (IFc_sA (q72.neT ix (by decide))))) (fun hq => (vUn_c (cVt_sA _ _ _ _ 2 _ 18) (cVt_sA _ _ _ _ 10 _ 0) (IFc_sA (ku.neT ix (by decide))))) (fun hq => (vLe_c (cVt_sA _ _ _ _ 2 _ 6) (IFc_sA (fun z => (hq.2.resolve_right (fun w => w rfl)) (congrArg Prod.fst ((hB.e0 b hq.1 6 (by decide)).symm.trans ((congrArg B z).trans owx))))))) (fun hq => (vHe_c (cVt_sA _ _ _ _ 2 _ 7) (RFc_sA _ _ _ _ _) (fun _ _ _ _ => (cVt_sA _ _ _ _ 9 _ 0)))) (fun hq => (vEt_c (cVt_sA _ _ _ _ 2 _ 12) (RFc_sA _ _ _ _ _) (fun i9 l9 hi9 hl9 => ⟨(cVt_sA _ _ _ _ 3 _ 1), (IFc_sA ((KL hW (KA12 hW kb.2.2.2.2.2.1 hi9 hl9)).choose_spec.neT ix (by decide)))⟩))) (fun _ => fun _ => rfl) j hq
  have xs : ∀ b, cfx (sA M x i v) b = cfx M b := fun b => funext fun j => xf_cases (fun j f => f (sA M x i v) b = f M b) (congrArg Int32.toInt (cV_c (cVt_sA _ _ _ _ 2 _ 1))) (congrArg Int32.toInt (cV_c (cVt_sA _ _ _ _ 2 _ 2))) (congrArg Int32.toInt (cV_c (cVt_sA _ _ _ _ 2 _ 9))) (congrArg Int32.toInt (cV_c (cVt_sA _ _ _ _ 2 _ 11))) (congrArg Int32.toInt (cV_c (cVt_sA _ _ _ _ 2 _ 4))) (congrArg Int32.toInt (cV_c (cVt_sA _ _ _ _ 2 _ 5))) (congrArg Int32.toInt (cV_c (cVt_sA _ _ _ _ 2 _ 15))) (congrArg Int32.toInt (cV_c (cVt_sA _ _ _ _ 2 _ 0))) (x1_c 16 (cVt_sA _ _ _ _ 2 _ 16) (cVt_sA _ _ _ _ 1 _ 3)) (x1_c 17 (cVt_sA _ _ _ _ 2 _ 17) (cVt_sA _ _ _ _ 1 _ 3)) (x10_c 2 (cVt_sA _ _ _ _ 2 _ 18) (cVt_sA _ _ _ _ 10 _ 2)) (x10_c 1 (cVt_sA _ _ _ _ 2 _ 18) (cVt_sA _ _ _ _ 10 _ 1)) (fun j => (lf_c (vLo_c 12 (cVt_sA _ _ _ _ 2 _ 8) (RFc_sA _ _ _ _ _) (fun _ _ _ _ => (cVt_sA _ _ _ _ 9 _ 12))) j)) j
  have rowa : cax (sA M x i v) a 50 = upd (cax M a 50) i v := by
    show vLe (sA M x i v) a = upd (vLe M a) i v
    unfold vLe
    rw [rA_c (cVt_sA _ _ _ _ 2 _ 6), hs, IFc_sA_self hx]
  refine ⟨fun b hb q => ⟨(xs b).trans (h1 b hb q).1, (funext fun j => rows b j ⟨hb, Or.inl q⟩).trans (h1 b hb q).2⟩, (xs a).trans h2, ?_, hB.c (fun b hb j hj => cVt_sA _ _ _ _ _ _ _) (fun b hb j hj => ⟨cVt_sA _ _ _ _ _ _ _, cVt_sA _ _ _ _ _ _ _⟩) (fun b hb => cVt_sA _ _ _ _ _ _ _) (fun b hb i l hi hl => cVt_sA _ _ _ _ _ _ _) (fun b hb => RFc_sA _ _ _ _ _) (fun b hb => RFc_sA _ _ _ _ _) (fun b hb => RFc_sA _ _ _ _ _) (fun b hb i l hi hl => cVt_sA _ _ _ _ _ _ _) (fun b hb => RFc_sA _ _ _ _ _) (fun b hb i l hi hl => cVt_sA _ _ _ _ _ _ _)⟩
  rw [← h3]
  exact cax_up 50 (fun j hj => rows a j ⟨ha, Or.inr hj⟩) rowa
theorem VC.a_un {cy : Nat → ClassId} {B : Nat → Nat × Nat} {K : Kp} {L : List Nat} {M0 M : Hp} {a x i n : Nat} {X : Nat → Int} {Y : Nat → Nat → Int32} {c : ClassId} {g : Nat → Int32} {v : Int32} (h : VC B K L M0 M a X Y) (hW : WOK cy K L M) (ha : isk K L a 2 0) (hs : rA 10 M (rA 2 M a 18) 0 = x) (hx : M x = .inl (c, n, .inl g)) : VC B K L M0 (sA M x i v) a X (va_up Y 43 (upd (Y 43) i v)) := by
  obtain ⟨h1, h2, h3, hB⟩ := h
  have owx : B x = (a, 0) := by
    rw [← hs]
    exact hB.un a ha
  obtain ⟨nx, ix⟩ : ∃ nx, isk K L x 55 nx := by
    rw [← hs]
    have kb := KH hW ha
    obtain ⟨n6, q60, q61, q62⟩ := KD hW kb.2.2.2.2.2.2.1
    obtain ⟨n7, q70, q71, q72⟩ := KD hW kb.2.2.2.2.2.2.2.1
    have ku := KU hW kb.2.2.2.2.2.2.2.2
    exact ⟨_, ku⟩
  have rows : ∀ b j, (isk K L b 2 0 ∧ (b ≠ a ∨ j ≠ 43)) → cax (sA M x i v) b j = cax M b j := fun b j hq => by
    have kb := KH hW hq.1
    obtain ⟨n6, q60, q61, q62⟩ := KD hW kb.2.2.2.2.2.2.1
    obtain ⟨n7, q70, q71, q72⟩ := KD hW kb.2.2.2.2.2.2.2.1
    have ku := KU hW kb.2.2.2.2.2.2.2.2
    exact rowf_cases (fun j f => (isk K L b 2 0 ∧ (b ≠ a ∨ j ≠ 43)) → f (sA M x i v) b = f M b) (fun hq => (vPl_c (cVt_sA _ _ _ _ 2 _ 12) (RFc_sA _ _ _ _ _) (fun _ _ _ _ => ⟨(cVt_sA _ _ _ _ 3 _ 1), (ALc_sA _ _ _ _ _)⟩))) (fun hq => (vLf_c 2 (cVt_sA _ _ _ _ 2 _ 12) (RFc_sA _ _ _ _ _) (fun _ _ _ _ => (cVt_sA _ _ _ _ 3 _ 2)))) (fun hq => (vLf_c 0 (cVt_sA _ _ _ _ 2 _ 12) (RFc_sA _ _ _ _ _) (fun _ _ _ _ => (cVt_sA _ _ _ _ 3 _ 0)))) (fun hq => (vWho_c (cVt_sA _ _ _ _ 2 _ 8) (RFc_sA _ _ _ _ _) (fun _ _ _ _ => ⟨(cVt_sA _ _ _ _ 9 _ 1), (cVt_sA _ _ _ _ 4 _ 0)⟩))) (fun hq => (vTe_c 2 (cVt_sA _ _ _ _ 2 _ 8) (RFc_sA _ _ _ _ _) (fun _ _ _ _ => (cVt_sA _ _ _ _ 9 _ 2)))) (fun hq => (vTe_c 3 (cVt_sA _ _ _ _ 2 _ 8) (RFc_sA _ _ _ _ _) (fun _ _ _ _ => (cVt_sA _ _ _ _ 9 _ 3)))) (fun hq => (vTe_c 5 (cVt_sA _ _ _ _ 2 _ 8) (RFc_sA _ _ _ _ _) (fun _ _ _ _ => (cVt_sA _ _ _ _ 9 _ 5)))) (fun hq => (vTe_c 6 (cVt_sA _ _ _ _ 2 _ 8) (RFc_sA _ _ _ _ _) (fun _ _ _ _ => (cVt_sA _ _ _ _ 9 _ 6)))) (fun hq => (vTe_c 7 (cVt_sA _ _ _ _ 2 _ 8) (RFc_sA _ _ _ _ _) (fun _ _ _ _ => (cVt_sA _ _ _ _ 9 _ 7)))) (fun hq => (vKd_c (cVt_sA _ _ _ _ 2 _ 8) (RFc_sA _ _ _ _ _) (fun _ _ _ _ => ⟨(cVt_sA _ _ _ _ 9 _ 1), (cVt_sA _ _ _ _ 4 _ 1)⟩))) (fun hq => (vHr_c (cVt_sA _ _ _ _ 2 _ 8) (RFc_sA _ _ _ _ _) (fun _ _ _ _ => ⟨(cVt_sA _ _ _ _ 9 _ 8), fun _ _ => (cVt_sA _ _ _ _ 9 _ 0)⟩))) (fun hq => (vTe_c 4 (cVt_sA _ _ _ _ 2 _ 8) (RFc_sA _ _ _ _ _) (fun _ _ _ _ => (cVt_sA _ _ _ _ 9 _ 4)))) (fun hq => (vOw_c (cVt_sA _ _ _ _ 2 _ 8) (RFc_sA _ _ _ _ _) (fun _ _ _ _ => ⟨(cVt_sA _ _ _ _ 9 _ 1), (cVt_sA _ _ _ _ 4 _ 3), fun _ _ => (cVt_sA _ _ _ _ 2 _ 0)⟩))) (fun hq => (vTn_c (cVt_sA _ _ _ _ 2 _ 8) (RFc_sA _ _ _ _ _))) (fun hq => (vRn_c (cVt_sA _ _ _ _ 2 _ 10) (RFc_sA _ _ _ _ _))) (fun hq => (vRu_c 0 (cVt_sA _ _ _ _ 2 _ 10) (RFc_sA _ _ _ _ _) (fun _ _ _ _ => (cVt_sA _ _ _ _ 6 _ 0)))) (fun hq => (vRu_c 1 (cVt_sA _ _ _ _ 2 _ 10) (RFc_sA _ _ _ _ _) (fun _ _ _ _ => (cVt_sA _ _ _ _ 6 _ 1)))) (fun hq => (vTm_c (cVt_sA _ _ _ _ 2 _ 10) (RFc_sA _ _ _ _ _) (fun i9 l9 hi9 hl9 => ⟨(cVt_sA _ _ _ _ 6 _ 2), (IFc_sA ((KR hW (KA10 hW kb.2.2.2.2.1 hi9 hl9)).neT ix (by decide)))⟩))) (fun hq => (vEn_c (cVt_sA _ _ _ _ 2 _ 3) (IFc_sA (kb.1.neT ix (by decide))))) (fun hq => (vMo_c (cVt_sA _ _ _ _ 2 _ 16) (cVt_sA _ _ _ _ 1 _ 0) (RFc_sA _ _ _ _ _) (fun _ _ _ _ => (cVt_sA _ _ _ _ 9 _ 0)))) (fun hq => (vDs_c 16 1 (cVt_sA _ _ _ _ 2 _ 16) (cVt_sA _ _ _ _ 1 _ 1) (IFc_sA (q61.neT ix (by decide))))) (fun hq => (vDs_c 16 2 (cVt_sA _ _ _ _ 2 _ 16) (cVt_sA _ _ _ _ 1 _ 2) (IFc_sA (q62.neT ix (by decide))))) (fun hq => (vDs_c 17 1 (cVt_sA _ _ _ _ 2 _ 17) (cVt_sA _ _ _ _ 1 _ 1) (IFc_sA (q71.neT ix (by decide))))) (fun hq => (vDs_c 17 2 (cVt_sA _ _ _ _ 2 _ 17) (cVt_sA _ _ _ _ 1 _ 2) (IFc_sA (q72.neT ix (by decide))))) (fun hq => (vUn_c (cVt_sA _ _ _ _ 2 _ 18) (cVt_sA _ _ _ _ 10 _ 0) (IFc_sA (fun z => (hq.2.resolve_right (fun w => w rfl)) (congrArg Prod.fst ((hB.un b hq.1).symm.trans ((congrArg B z).trans owx))))))) (fun hq => (vLe_c (cVt_sA _ _ _ _ 2 _ 6) (IFc_sA (kb.2.1.neT ix (by decide))))) (fun hq => (vHe_c (cVt_sA _ _ _ _ 2 _ 7) (RFc_sA _ _ _ _ _) (fun _ _ _ _ => (cVt_sA _ _ _ _ 9 _ 0)))) (fun hq => (vEt_c (cVt_sA _ _ _ _ 2 _ 12) (RFc_sA _ _ _ _ _) (fun i9 l9 hi9 hl9 => ⟨(cVt_sA _ _ _ _ 3 _ 1), (IFc_sA ((KL hW (KA12 hW kb.2.2.2.2.2.1 hi9 hl9)).choose_spec.neT ix (by decide)))⟩))) (fun _ => fun _ => rfl) j hq
  have xs : ∀ b, cfx (sA M x i v) b = cfx M b := fun b => funext fun j => xf_cases (fun j f => f (sA M x i v) b = f M b) (congrArg Int32.toInt (cV_c (cVt_sA _ _ _ _ 2 _ 1))) (congrArg Int32.toInt (cV_c (cVt_sA _ _ _ _ 2 _ 2))) (congrArg Int32.toInt (cV_c (cVt_sA _ _ _ _ 2 _ 9))) (congrArg Int32.toInt (cV_c (cVt_sA _ _ _ _ 2 _ 11))) (congrArg Int32.toInt (cV_c (cVt_sA _ _ _ _ 2 _ 4))) (congrArg Int32.toInt (cV_c (cVt_sA _ _ _ _ 2 _ 5))) (congrArg Int32.toInt (cV_c (cVt_sA _ _ _ _ 2 _ 15))) (congrArg Int32.toInt (cV_c (cVt_sA _ _ _ _ 2 _ 0))) (x1_c 16 (cVt_sA _ _ _ _ 2 _ 16) (cVt_sA _ _ _ _ 1 _ 3)) (x1_c 17 (cVt_sA _ _ _ _ 2 _ 17) (cVt_sA _ _ _ _ 1 _ 3)) (x10_c 2 (cVt_sA _ _ _ _ 2 _ 18) (cVt_sA _ _ _ _ 10 _ 2)) (x10_c 1 (cVt_sA _ _ _ _ 2 _ 18) (cVt_sA _ _ _ _ 10 _ 1)) (fun j => (lf_c (vLo_c 12 (cVt_sA _ _ _ _ 2 _ 8) (RFc_sA _ _ _ _ _) (fun _ _ _ _ => (cVt_sA _ _ _ _ 9 _ 12))) j)) j
  have rowa : cax (sA M x i v) a 43 = upd (cax M a 43) i v := by
    show vUn (sA M x i v) a = upd (vUn M a) i v
    unfold vUn
    rw [rA_c (cVt_sA _ _ _ _ 2 _ 18), rA_c (cVt_sA _ _ _ _ 10 _ 0), hs, IFc_sA_self hx]
  refine ⟨fun b hb q => ⟨(xs b).trans (h1 b hb q).1, (funext fun j => rows b j ⟨hb, Or.inl q⟩).trans (h1 b hb q).2⟩, (xs a).trans h2, ?_, hB.c (fun b hb j hj => cVt_sA _ _ _ _ _ _ _) (fun b hb j hj => ⟨cVt_sA _ _ _ _ _ _ _, cVt_sA _ _ _ _ _ _ _⟩) (fun b hb => cVt_sA _ _ _ _ _ _ _) (fun b hb i l hi hl => cVt_sA _ _ _ _ _ _ _) (fun b hb => RFc_sA _ _ _ _ _) (fun b hb => RFc_sA _ _ _ _ _) (fun b hb => RFc_sA _ _ _ _ _) (fun b hb i l hi hl => cVt_sA _ _ _ _ _ _ _) (fun b hb => RFc_sA _ _ _ _ _) (fun b hb i l hi hl => cVt_sA _ _ _ _ _ _ _)⟩
  rw [← h3]
  exact cax_up 43 (fun j hj => rows a j ⟨ha, Or.inr hj⟩) rowa
theorem VC.a_d16_1 {cy : Nat → ClassId} {B : Nat → Nat × Nat} {K : Kp} {L : List Nat} {M0 M : Hp} {a x i n : Nat} {X : Nat → Int} {Y : Nat → Nat → Int32} {c : ClassId} {g : Nat → Int32} {v : Int32} (h : VC B K L M0 M a X Y) (hW : WOK cy K L M) (ha : isk K L a 2 0) (hs : rA 1 M (rA 2 M a 16) 1 = x) (hx : M x = .inl (c, n, .inl g)) : VC B K L M0 (sA M x i v) a X (va_up Y 39 (upd (Y 39) i v)) := by
  obtain ⟨h1, h2, h3, hB⟩ := h
  have owx : B x = (a, 0) := by
    rw [← hs]
    exact hB.d16 a ha 1 (by decide)
  obtain ⟨nx, ix⟩ : ∃ nx, isk K L x 56 nx := by
    rw [← hs]
    have kb := KH hW ha
    obtain ⟨n6, q60, q61, q62⟩ := KD hW kb.2.2.2.2.2.2.1
    obtain ⟨n7, q70, q71, q72⟩ := KD hW kb.2.2.2.2.2.2.2.1
    have ku := KU hW kb.2.2.2.2.2.2.2.2
    exact ⟨_, q61⟩
  have rows : ∀ b j, (isk K L b 2 0 ∧ (b ≠ a ∨ j ≠ 39)) → cax (sA M x i v) b j = cax M b j := fun b j hq => by
    have kb := KH hW hq.1
    obtain ⟨n6, q60, q61, q62⟩ := KD hW kb.2.2.2.2.2.2.1
    obtain ⟨n7, q70, q71, q72⟩ := KD hW kb.2.2.2.2.2.2.2.1
    have ku := KU hW kb.2.2.2.2.2.2.2.2
    exact rowf_cases (fun j f => (isk K L b 2 0 ∧ (b ≠ a ∨ j ≠ 39)) → f (sA M x i v) b = f M b) (fun hq => (vPl_c (cVt_sA _ _ _ _ 2 _ 12) (RFc_sA _ _ _ _ _) (fun _ _ _ _ => ⟨(cVt_sA _ _ _ _ 3 _ 1), (ALc_sA _ _ _ _ _)⟩))) (fun hq => (vLf_c 2 (cVt_sA _ _ _ _ 2 _ 12) (RFc_sA _ _ _ _ _) (fun _ _ _ _ => (cVt_sA _ _ _ _ 3 _ 2)))) (fun hq => (vLf_c 0 (cVt_sA _ _ _ _ 2 _ 12) (RFc_sA _ _ _ _ _) (fun _ _ _ _ => (cVt_sA _ _ _ _ 3 _ 0)))) (fun hq => (vWho_c (cVt_sA _ _ _ _ 2 _ 8) (RFc_sA _ _ _ _ _) (fun _ _ _ _ => ⟨(cVt_sA _ _ _ _ 9 _ 1), (cVt_sA _ _ _ _ 4 _ 0)⟩))) (fun hq => (vTe_c 2 (cVt_sA _ _ _ _ 2 _ 8) (RFc_sA _ _ _ _ _) (fun _ _ _ _ => (cVt_sA _ _ _ _ 9 _ 2)))) (fun hq => (vTe_c 3 (cVt_sA _ _ _ _ 2 _ 8) (RFc_sA _ _ _ _ _) (fun _ _ _ _ => (cVt_sA _ _ _ _ 9 _ 3)))) (fun hq => (vTe_c 5 (cVt_sA _ _ _ _ 2 _ 8) (RFc_sA _ _ _ _ _) (fun _ _ _ _ => (cVt_sA _ _ _ _ 9 _ 5)))) (fun hq => (vTe_c 6 (cVt_sA _ _ _ _ 2 _ 8) (RFc_sA _ _ _ _ _) (fun _ _ _ _ => (cVt_sA _ _ _ _ 9 _ 6)))) (fun hq => (vTe_c 7 (cVt_sA _ _ _ _ 2 _ 8) (RFc_sA _ _ _ _ _) (fun _ _ _ _ => (cVt_sA _ _ _ _ 9 _ 7)))) (fun hq => (vKd_c (cVt_sA _ _ _ _ 2 _ 8) (RFc_sA _ _ _ _ _) (fun _ _ _ _ => ⟨(cVt_sA _ _ _ _ 9 _ 1), (cVt_sA _ _ _ _ 4 _ 1)⟩))) (fun hq => (vHr_c (cVt_sA _ _ _ _ 2 _ 8) (RFc_sA _ _ _ _ _) (fun _ _ _ _ => ⟨(cVt_sA _ _ _ _ 9 _ 8), fun _ _ => (cVt_sA _ _ _ _ 9 _ 0)⟩))) (fun hq => (vTe_c 4 (cVt_sA _ _ _ _ 2 _ 8) (RFc_sA _ _ _ _ _) (fun _ _ _ _ => (cVt_sA _ _ _ _ 9 _ 4)))) (fun hq => (vOw_c (cVt_sA _ _ _ _ 2 _ 8) (RFc_sA _ _ _ _ _) (fun _ _ _ _ => ⟨(cVt_sA _ _ _ _ 9 _ 1), (cVt_sA _ _ _ _ 4 _ 3), fun _ _ => (cVt_sA _ _ _ _ 2 _ 0)⟩))) (fun hq => (vTn_c (cVt_sA _ _ _ _ 2 _ 8) (RFc_sA _ _ _ _ _))) (fun hq => (vRn_c (cVt_sA _ _ _ _ 2 _ 10) (RFc_sA _ _ _ _ _))) (fun hq => (vRu_c 0 (cVt_sA _ _ _ _ 2 _ 10) (RFc_sA _ _ _ _ _) (fun _ _ _ _ => (cVt_sA _ _ _ _ 6 _ 0)))) (fun hq => (vRu_c 1 (cVt_sA _ _ _ _ 2 _ 10) (RFc_sA _ _ _ _ _) (fun _ _ _ _ => (cVt_sA _ _ _ _ 6 _ 1)))) (fun hq => (vTm_c (cVt_sA _ _ _ _ 2 _ 10) (RFc_sA _ _ _ _ _) (fun i9 l9 hi9 hl9 => ⟨(cVt_sA _ _ _ _ 6 _ 2), (IFc_sA ((KR hW (KA10 hW kb.2.2.2.2.1 hi9 hl9)).neT ix (by decide)))⟩))) (fun hq => (vEn_c (cVt_sA _ _ _ _ 2 _ 3) (IFc_sA (kb.1.neT ix (by decide))))) (fun hq => (vMo_c (cVt_sA _ _ _ _ 2 _ 16) (cVt_sA _ _ _ _ 1 _ 0) (RFc_sA _ _ _ _ _) (fun _ _ _ _ => (cVt_sA _ _ _ _ 9 _ 0)))) (fun hq => (vDs_c 16 1 (cVt_sA _ _ _ _ 2 _ 16) (cVt_sA _ _ _ _ 1 _ 1) (IFc_sA (fun z => (hq.2.resolve_right (fun w => w rfl)) (congrArg Prod.fst ((hB.d16 b hq.1 1 (by decide)).symm.trans ((congrArg B z).trans owx))))))) (fun hq => (vDs_c 16 2 (cVt_sA _ _ _ _ 2 _ 16) (cVt_sA _ _ _ _ 1 _ 2) (IFc_sA (q62.neT ix (by decide))))) (fun hq => (vDs_c 17 1 (cVt_sA _ _ _ _ 2 _ 17) (cVt_sA _ _ _ _ 1 _ 1) (IFc_sA (fun z => absurd (congrArg Prod.snd ((hB.d17 b hq.1 1 (by decide)).symm.trans ((congrArg B z).trans owx))) (show ¬ (1 : Nat) = 0 by decide))))) (fun hq => (vDs_c 17 2 (cVt_sA _ _ _ _ 2 _ 17) (cVt_sA _ _ _ _ 1 _ 2) (IFc_sA (q72.neT ix (by decide))))) (fun hq => (vUn_c (cVt_sA _ _ _ _ 2 _ 18) (cVt_sA _ _ _ _ 10 _ 0) (IFc_sA (ku.neT ix (by decide))))) (fun hq => (vLe_c (cVt_sA _ _ _ _ 2 _ 6) (IFc_sA (kb.2.1.neT ix (by decide))))) (fun hq => (vHe_c (cVt_sA _ _ _ _ 2 _ 7) (RFc_sA _ _ _ _ _) (fun _ _ _ _ => (cVt_sA _ _ _ _ 9 _ 0)))) (fun hq => (vEt_c (cVt_sA _ _ _ _ 2 _ 12) (RFc_sA _ _ _ _ _) (fun i9 l9 hi9 hl9 => ⟨(cVt_sA _ _ _ _ 3 _ 1), (IFc_sA ((KL hW (KA12 hW kb.2.2.2.2.2.1 hi9 hl9)).choose_spec.neT ix (by decide)))⟩))) (fun _ => fun _ => rfl) j hq
  have xs : ∀ b, cfx (sA M x i v) b = cfx M b := fun b => funext fun j => xf_cases (fun j f => f (sA M x i v) b = f M b) (congrArg Int32.toInt (cV_c (cVt_sA _ _ _ _ 2 _ 1))) (congrArg Int32.toInt (cV_c (cVt_sA _ _ _ _ 2 _ 2))) (congrArg Int32.toInt (cV_c (cVt_sA _ _ _ _ 2 _ 9))) (congrArg Int32.toInt (cV_c (cVt_sA _ _ _ _ 2 _ 11))) (congrArg Int32.toInt (cV_c (cVt_sA _ _ _ _ 2 _ 4))) (congrArg Int32.toInt (cV_c (cVt_sA _ _ _ _ 2 _ 5))) (congrArg Int32.toInt (cV_c (cVt_sA _ _ _ _ 2 _ 15))) (congrArg Int32.toInt (cV_c (cVt_sA _ _ _ _ 2 _ 0))) (x1_c 16 (cVt_sA _ _ _ _ 2 _ 16) (cVt_sA _ _ _ _ 1 _ 3)) (x1_c 17 (cVt_sA _ _ _ _ 2 _ 17) (cVt_sA _ _ _ _ 1 _ 3)) (x10_c 2 (cVt_sA _ _ _ _ 2 _ 18) (cVt_sA _ _ _ _ 10 _ 2)) (x10_c 1 (cVt_sA _ _ _ _ 2 _ 18) (cVt_sA _ _ _ _ 10 _ 1)) (fun j => (lf_c (vLo_c 12 (cVt_sA _ _ _ _ 2 _ 8) (RFc_sA _ _ _ _ _) (fun _ _ _ _ => (cVt_sA _ _ _ _ 9 _ 12))) j)) j
  have rowa : cax (sA M x i v) a 39 = upd (cax M a 39) i v := by
    show vDs 16 1 (sA M x i v) a = upd (vDs 16 1 M a) i v
    unfold vDs
    rw [rA_c (cVt_sA _ _ _ _ 2 _ 16), rA_c (cVt_sA _ _ _ _ 1 _ 1), hs, IFc_sA_self hx]
  refine ⟨fun b hb q => ⟨(xs b).trans (h1 b hb q).1, (funext fun j => rows b j ⟨hb, Or.inl q⟩).trans (h1 b hb q).2⟩, (xs a).trans h2, ?_, hB.c (fun b hb j hj => cVt_sA _ _ _ _ _ _ _) (fun b hb j hj => ⟨cVt_sA _ _ _ _ _ _ _, cVt_sA _ _ _ _ _ _ _⟩) (fun b hb => cVt_sA _ _ _ _ _ _ _) (fun b hb i l hi hl => cVt_sA _ _ _ _ _ _ _) (fun b hb => RFc_sA _ _ _ _ _) (fun b hb => RFc_sA _ _ _ _ _) (fun b hb => RFc_sA _ _ _ _ _) (fun b hb i l hi hl => cVt_sA _ _ _ _ _ _ _) (fun b hb => RFc_sA _ _ _ _ _) (fun b hb i l hi hl => cVt_sA _ _ _ _ _ _ _)⟩
  rw [← h3]
  exact cax_up 39 (fun j hj => rows a j ⟨ha, Or.inr hj⟩) rowa
theorem VC.a_d16_2 {cy : Nat → ClassId} {B : Nat → Nat × Nat} {K : Kp} {L : List Nat} {M0 M : Hp} {a x i n : Nat} {X : Nat → Int} {Y : Nat → Nat → Int32} {c : ClassId} {g : Nat → Int32} {v : Int32} (h : VC B K L M0 M a X Y) (hW : WOK cy K L M) (ha : isk K L a 2 0) (hs : rA 1 M (rA 2 M a 16) 2 = x) (hx : M x = .inl (c, n, .inl g)) : VC B K L M0 (sA M x i v) a X (va_up Y 40 (upd (Y 40) i v)) := by
  obtain ⟨h1, h2, h3, hB⟩ := h
  have owx : B x = (a, 0) := by
    rw [← hs]
    exact hB.d16 a ha 2 (by decide)
  obtain ⟨nx, ix⟩ : ∃ nx, isk K L x 57 nx := by
    rw [← hs]
    have kb := KH hW ha
    obtain ⟨n6, q60, q61, q62⟩ := KD hW kb.2.2.2.2.2.2.1
    obtain ⟨n7, q70, q71, q72⟩ := KD hW kb.2.2.2.2.2.2.2.1
    have ku := KU hW kb.2.2.2.2.2.2.2.2
    exact ⟨_, q62⟩
  have rows : ∀ b j, (isk K L b 2 0 ∧ (b ≠ a ∨ j ≠ 40)) → cax (sA M x i v) b j = cax M b j := fun b j hq => by
    have kb := KH hW hq.1
    obtain ⟨n6, q60, q61, q62⟩ := KD hW kb.2.2.2.2.2.2.1
    obtain ⟨n7, q70, q71, q72⟩ := KD hW kb.2.2.2.2.2.2.2.1
    have ku := KU hW kb.2.2.2.2.2.2.2.2
    exact rowf_cases (fun j f => (isk K L b 2 0 ∧ (b ≠ a ∨ j ≠ 40)) → f (sA M x i v) b = f M b) (fun hq => (vPl_c (cVt_sA _ _ _ _ 2 _ 12) (RFc_sA _ _ _ _ _) (fun _ _ _ _ => ⟨(cVt_sA _ _ _ _ 3 _ 1), (ALc_sA _ _ _ _ _)⟩))) (fun hq => (vLf_c 2 (cVt_sA _ _ _ _ 2 _ 12) (RFc_sA _ _ _ _ _) (fun _ _ _ _ => (cVt_sA _ _ _ _ 3 _ 2)))) (fun hq => (vLf_c 0 (cVt_sA _ _ _ _ 2 _ 12) (RFc_sA _ _ _ _ _) (fun _ _ _ _ => (cVt_sA _ _ _ _ 3 _ 0)))) (fun hq => (vWho_c (cVt_sA _ _ _ _ 2 _ 8) (RFc_sA _ _ _ _ _) (fun _ _ _ _ => ⟨(cVt_sA _ _ _ _ 9 _ 1), (cVt_sA _ _ _ _ 4 _ 0)⟩))) (fun hq => (vTe_c 2 (cVt_sA _ _ _ _ 2 _ 8) (RFc_sA _ _ _ _ _) (fun _ _ _ _ => (cVt_sA _ _ _ _ 9 _ 2)))) (fun hq => (vTe_c 3 (cVt_sA _ _ _ _ 2 _ 8) (RFc_sA _ _ _ _ _) (fun _ _ _ _ => (cVt_sA _ _ _ _ 9 _ 3)))) (fun hq => (vTe_c 5 (cVt_sA _ _ _ _ 2 _ 8) (RFc_sA _ _ _ _ _) (fun _ _ _ _ => (cVt_sA _ _ _ _ 9 _ 5)))) (fun hq => (vTe_c 6 (cVt_sA _ _ _ _ 2 _ 8) (RFc_sA _ _ _ _ _) (fun _ _ _ _ => (cVt_sA _ _ _ _ 9 _ 6)))) (fun hq => (vTe_c 7 (cVt_sA _ _ _ _ 2 _ 8) (RFc_sA _ _ _ _ _) (fun _ _ _ _ => (cVt_sA _ _ _ _ 9 _ 7)))) (fun hq => (vKd_c (cVt_sA _ _ _ _ 2 _ 8) (RFc_sA _ _ _ _ _) (fun _ _ _ _ => ⟨(cVt_sA _ _ _ _ 9 _ 1), (cVt_sA _ _ _ _ 4 _ 1)⟩))) (fun hq => (vHr_c (cVt_sA _ _ _ _ 2 _ 8) (RFc_sA _ _ _ _ _) (fun _ _ _ _ => ⟨(cVt_sA _ _ _ _ 9 _ 8), fun _ _ => (cVt_sA _ _ _ _ 9 _ 0)⟩))) (fun hq => (vTe_c 4 (cVt_sA _ _ _ _ 2 _ 8) (RFc_sA _ _ _ _ _) (fun _ _ _ _ => (cVt_sA _ _ _ _ 9 _ 4)))) (fun hq => (vOw_c (cVt_sA _ _ _ _ 2 _ 8) (RFc_sA _ _ _ _ _) (fun _ _ _ _ => ⟨(cVt_sA _ _ _ _ 9 _ 1), (cVt_sA _ _ _ _ 4 _ 3), fun _ _ => (cVt_sA _ _ _ _ 2 _ 0)⟩))) (fun hq => (vTn_c (cVt_sA _ _ _ _ 2 _ 8) (RFc_sA _ _ _ _ _))) (fun hq => (vRn_c (cVt_sA _ _ _ _ 2 _ 10) (RFc_sA _ _ _ _ _))) (fun hq => (vRu_c 0 (cVt_sA _ _ _ _ 2 _ 10) (RFc_sA _ _ _ _ _) (fun _ _ _ _ => (cVt_sA _ _ _ _ 6 _ 0)))) (fun hq => (vRu_c 1 (cVt_sA _ _ _ _ 2 _ 10) (RFc_sA _ _ _ _ _) (fun _ _ _ _ => (cVt_sA _ _ _ _ 6 _ 1)))) (fun hq => (vTm_c (cVt_sA _ _ _ _ 2 _ 10) (RFc_sA _ _ _ _ _) (fun i9 l9 hi9 hl9 => ⟨(cVt_sA _ _ _ _ 6 _ 2), (IFc_sA ((KR hW (KA10 hW kb.2.2.2.2.1 hi9 hl9)).neT ix (by decide)))⟩))) (fun hq => (vEn_c (cVt_sA _ _ _ _ 2 _ 3) (IFc_sA (kb.1.neT ix (by decide))))) (fun hq => (vMo_c (cVt_sA _ _ _ _ 2 _ 16) (cVt_sA _ _ _ _ 1 _ 0) (RFc_sA _ _ _ _ _) (fun _ _ _ _ => (cVt_sA _ _ _ _ 9 _ 0)))) (fun hq => (vDs_c 16 1 (cVt_sA _ _ _ _ 2 _ 16) (cVt_sA _ _ _ _ 1 _ 1) (IFc_sA (q61.neT ix (by decide))))) (fun hq => (vDs_c 16 2 (cVt_sA _ _ _ _ 2 _ 16) (cVt_sA _ _ _ _ 1 _ 2) (IFc_sA (fun z => (hq.2.resolve_right (fun w => w rfl)) (congrArg Prod.fst ((hB.d16 b hq.1 2 (by decide)).symm.trans ((congrArg B z).trans owx))))))) (fun hq => (vDs_c 17 1 (cVt_sA _ _ _ _ 2 _ 17) (cVt_sA _ _ _ _ 1 _ 1) (IFc_sA (q71.neT ix (by decide))))) (fun hq => (vDs_c 17 2 (cVt_sA _ _ _ _ 2 _ 17) (cVt_sA _ _ _ _ 1 _ 2) (IFc_sA (fun z => absurd (congrArg Prod.snd ((hB.d17 b hq.1 2 (by decide)).symm.trans ((congrArg B z).trans owx))) (show ¬ (1 : Nat) = 0 by decide))))) (fun hq => (vUn_c (cVt_sA _ _ _ _ 2 _ 18) (cVt_sA _ _ _ _ 10 _ 0) (IFc_sA (ku.neT ix (by decide))))) (fun hq => (vLe_c (cVt_sA _ _ _ _ 2 _ 6) (IFc_sA (kb.2.1.neT ix (by decide))))) (fun hq => (vHe_c (cVt_sA _ _ _ _ 2 _ 7) (RFc_sA _ _ _ _ _) (fun _ _ _ _ => (cVt_sA _ _ _ _ 9 _ 0)))) (fun hq => (vEt_c (cVt_sA _ _ _ _ 2 _ 12) (RFc_sA _ _ _ _ _) (fun i9 l9 hi9 hl9 => ⟨(cVt_sA _ _ _ _ 3 _ 1), (IFc_sA ((KL hW (KA12 hW kb.2.2.2.2.2.1 hi9 hl9)).choose_spec.neT ix (by decide)))⟩))) (fun _ => fun _ => rfl) j hq
  have xs : ∀ b, cfx (sA M x i v) b = cfx M b := fun b => funext fun j => xf_cases (fun j f => f (sA M x i v) b = f M b) (congrArg Int32.toInt (cV_c (cVt_sA _ _ _ _ 2 _ 1))) (congrArg Int32.toInt (cV_c (cVt_sA _ _ _ _ 2 _ 2))) (congrArg Int32.toInt (cV_c (cVt_sA _ _ _ _ 2 _ 9))) (congrArg Int32.toInt (cV_c (cVt_sA _ _ _ _ 2 _ 11))) (congrArg Int32.toInt (cV_c (cVt_sA _ _ _ _ 2 _ 4))) (congrArg Int32.toInt (cV_c (cVt_sA _ _ _ _ 2 _ 5))) (congrArg Int32.toInt (cV_c (cVt_sA _ _ _ _ 2 _ 15))) (congrArg Int32.toInt (cV_c (cVt_sA _ _ _ _ 2 _ 0))) (x1_c 16 (cVt_sA _ _ _ _ 2 _ 16) (cVt_sA _ _ _ _ 1 _ 3)) (x1_c 17 (cVt_sA _ _ _ _ 2 _ 17) (cVt_sA _ _ _ _ 1 _ 3)) (x10_c 2 (cVt_sA _ _ _ _ 2 _ 18) (cVt_sA _ _ _ _ 10 _ 2)) (x10_c 1 (cVt_sA _ _ _ _ 2 _ 18) (cVt_sA _ _ _ _ 10 _ 1)) (fun j => (lf_c (vLo_c 12 (cVt_sA _ _ _ _ 2 _ 8) (RFc_sA _ _ _ _ _) (fun _ _ _ _ => (cVt_sA _ _ _ _ 9 _ 12))) j)) j
  have rowa : cax (sA M x i v) a 40 = upd (cax M a 40) i v := by
    show vDs 16 2 (sA M x i v) a = upd (vDs 16 2 M a) i v
    unfold vDs
    rw [rA_c (cVt_sA _ _ _ _ 2 _ 16), rA_c (cVt_sA _ _ _ _ 1 _ 2), hs, IFc_sA_self hx]
  refine ⟨fun b hb q => ⟨(xs b).trans (h1 b hb q).1, (funext fun j => rows b j ⟨hb, Or.inl q⟩).trans (h1 b hb q).2⟩, (xs a).trans h2, ?_, hB.c (fun b hb j hj => cVt_sA _ _ _ _ _ _ _) (fun b hb j hj => ⟨cVt_sA _ _ _ _ _ _ _, cVt_sA _ _ _ _ _ _ _⟩) (fun b hb => cVt_sA _ _ _ _ _ _ _) (fun b hb i l hi hl => cVt_sA _ _ _ _ _ _ _) (fun b hb => RFc_sA _ _ _ _ _) (fun b hb => RFc_sA _ _ _ _ _) (fun b hb => RFc_sA _ _ _ _ _) (fun b hb i l hi hl => cVt_sA _ _ _ _ _ _ _) (fun b hb => RFc_sA _ _ _ _ _) (fun b hb i l hi hl => cVt_sA _ _ _ _ _ _ _)⟩
  rw [← h3]
  exact cax_up 40 (fun j hj => rows a j ⟨ha, Or.inr hj⟩) rowa
theorem VC.a_d17_1 {cy : Nat → ClassId} {B : Nat → Nat × Nat} {K : Kp} {L : List Nat} {M0 M : Hp} {a x i n : Nat} {X : Nat → Int} {Y : Nat → Nat → Int32} {c : ClassId} {g : Nat → Int32} {v : Int32} (h : VC B K L M0 M a X Y) (hW : WOK cy K L M) (ha : isk K L a 2 0) (hs : rA 1 M (rA 2 M a 17) 1 = x) (hx : M x = .inl (c, n, .inl g)) : VC B K L M0 (sA M x i v) a X (va_up Y 41 (upd (Y 41) i v)) := by
  obtain ⟨h1, h2, h3, hB⟩ := h
  have owx : B x = (a, 1) := by
    rw [← hs]
    exact hB.d17 a ha 1 (by decide)
  obtain ⟨nx, ix⟩ : ∃ nx, isk K L x 56 nx := by
    rw [← hs]
    have kb := KH hW ha
    obtain ⟨n6, q60, q61, q62⟩ := KD hW kb.2.2.2.2.2.2.1
    obtain ⟨n7, q70, q71, q72⟩ := KD hW kb.2.2.2.2.2.2.2.1
    have ku := KU hW kb.2.2.2.2.2.2.2.2
    exact ⟨_, q71⟩
  have rows : ∀ b j, (isk K L b 2 0 ∧ (b ≠ a ∨ j ≠ 41)) → cax (sA M x i v) b j = cax M b j := fun b j hq => by
    have kb := KH hW hq.1
    obtain ⟨n6, q60, q61, q62⟩ := KD hW kb.2.2.2.2.2.2.1
    obtain ⟨n7, q70, q71, q72⟩ := KD hW kb.2.2.2.2.2.2.2.1
    have ku := KU hW kb.2.2.2.2.2.2.2.2
    exact rowf_cases (fun j f => (isk K L b 2 0 ∧ (b ≠ a ∨ j ≠ 41)) → f (sA M x i v) b = f M b) (fun hq => (vPl_c (cVt_sA _ _ _ _ 2 _ 12) (RFc_sA _ _ _ _ _) (fun _ _ _ _ => ⟨(cVt_sA _ _ _ _ 3 _ 1), (ALc_sA _ _ _ _ _)⟩))) (fun hq => (vLf_c 2 (cVt_sA _ _ _ _ 2 _ 12) (RFc_sA _ _ _ _ _) (fun _ _ _ _ => (cVt_sA _ _ _ _ 3 _ 2)))) (fun hq => (vLf_c 0 (cVt_sA _ _ _ _ 2 _ 12) (RFc_sA _ _ _ _ _) (fun _ _ _ _ => (cVt_sA _ _ _ _ 3 _ 0)))) (fun hq => (vWho_c (cVt_sA _ _ _ _ 2 _ 8) (RFc_sA _ _ _ _ _) (fun _ _ _ _ => ⟨(cVt_sA _ _ _ _ 9 _ 1), (cVt_sA _ _ _ _ 4 _ 0)⟩))) (fun hq => (vTe_c 2 (cVt_sA _ _ _ _ 2 _ 8) (RFc_sA _ _ _ _ _) (fun _ _ _ _ => (cVt_sA _ _ _ _ 9 _ 2)))) (fun hq => (vTe_c 3 (cVt_sA _ _ _ _ 2 _ 8) (RFc_sA _ _ _ _ _) (fun _ _ _ _ => (cVt_sA _ _ _ _ 9 _ 3)))) (fun hq => (vTe_c 5 (cVt_sA _ _ _ _ 2 _ 8) (RFc_sA _ _ _ _ _) (fun _ _ _ _ => (cVt_sA _ _ _ _ 9 _ 5)))) (fun hq => (vTe_c 6 (cVt_sA _ _ _ _ 2 _ 8) (RFc_sA _ _ _ _ _) (fun _ _ _ _ => (cVt_sA _ _ _ _ 9 _ 6)))) (fun hq => (vTe_c 7 (cVt_sA _ _ _ _ 2 _ 8) (RFc_sA _ _ _ _ _) (fun _ _ _ _ => (cVt_sA _ _ _ _ 9 _ 7)))) (fun hq => (vKd_c (cVt_sA _ _ _ _ 2 _ 8) (RFc_sA _ _ _ _ _) (fun _ _ _ _ => ⟨(cVt_sA _ _ _ _ 9 _ 1), (cVt_sA _ _ _ _ 4 _ 1)⟩))) (fun hq => (vHr_c (cVt_sA _ _ _ _ 2 _ 8) (RFc_sA _ _ _ _ _) (fun _ _ _ _ => ⟨(cVt_sA _ _ _ _ 9 _ 8), fun _ _ => (cVt_sA _ _ _ _ 9 _ 0)⟩))) (fun hq => (vTe_c 4 (cVt_sA _ _ _ _ 2 _ 8) (RFc_sA _ _ _ _ _) (fun _ _ _ _ => (cVt_sA _ _ _ _ 9 _ 4)))) (fun hq => (vOw_c (cVt_sA _ _ _ _ 2 _ 8) (RFc_sA _ _ _ _ _) (fun _ _ _ _ => ⟨(cVt_sA _ _ _ _ 9 _ 1), (cVt_sA _ _ _ _ 4 _ 3), fun _ _ => (cVt_sA _ _ _ _ 2 _ 0)⟩))) (fun hq => (vTn_c (cVt_sA _ _ _ _ 2 _ 8) (RFc_sA _ _ _ _ _))) (fun hq => (vRn_c (cVt_sA _ _ _ _ 2 _ 10) (RFc_sA _ _ _ _ _))) (fun hq => (vRu_c 0 (cVt_sA _ _ _ _ 2 _ 10) (RFc_sA _ _ _ _ _) (fun _ _ _ _ => (cVt_sA _ _ _ _ 6 _ 0)))) (fun hq => (vRu_c 1 (cVt_sA _ _ _ _ 2 _ 10) (RFc_sA _ _ _ _ _) (fun _ _ _ _ => (cVt_sA _ _ _ _ 6 _ 1)))) (fun hq => (vTm_c (cVt_sA _ _ _ _ 2 _ 10) (RFc_sA _ _ _ _ _) (fun i9 l9 hi9 hl9 => ⟨(cVt_sA _ _ _ _ 6 _ 2), (IFc_sA ((KR hW (KA10 hW kb.2.2.2.2.1 hi9 hl9)).neT ix (by decide)))⟩))) (fun hq => (vEn_c (cVt_sA _ _ _ _ 2 _ 3) (IFc_sA (kb.1.neT ix (by decide))))) (fun hq => (vMo_c (cVt_sA _ _ _ _ 2 _ 16) (cVt_sA _ _ _ _ 1 _ 0) (RFc_sA _ _ _ _ _) (fun _ _ _ _ => (cVt_sA _ _ _ _ 9 _ 0)))) (fun hq => (vDs_c 16 1 (cVt_sA _ _ _ _ 2 _ 16) (cVt_sA _ _ _ _ 1 _ 1) (IFc_sA (fun z => absurd (congrArg Prod.snd ((hB.d16 b hq.1 1 (by decide)).symm.trans ((congrArg B z).trans owx))) (show ¬ (0 : Nat) = 1 by decide))))) (fun hq => (vDs_c 16 2 (cVt_sA _ _ _ _ 2 _ 16) (cVt_sA _ _ _ _ 1 _ 2) (IFc_sA (q62.neT ix (by decide))))) (fun hq => (vDs_c 17 1 (cVt_sA _ _ _ _ 2 _ 17) (cVt_sA _ _ _ _ 1 _ 1) (IFc_sA (fun z => (hq.2.resolve_right (fun w => w rfl)) (congrArg Prod.fst ((hB.d17 b hq.1 1 (by decide)).symm.trans ((congrArg B z).trans owx))))))) (fun hq => (vDs_c 17 2 (cVt_sA _ _ _ _ 2 _ 17) (cVt_sA _ _ _ _ 1 _ 2) (IFc_sA (q72.neT ix (by decide))))) (fun hq => (vUn_c (cVt_sA _ _ _ _ 2 _ 18) (cVt_sA _ _ _ _ 10 _ 0) (IFc_sA (ku.neT ix (by decide))))) (fun hq => (vLe_c (cVt_sA _ _ _ _ 2 _ 6) (IFc_sA (kb.2.1.neT ix (by decide))))) (fun hq => (vHe_c (cVt_sA _ _ _ _ 2 _ 7) (RFc_sA _ _ _ _ _) (fun _ _ _ _ => (cVt_sA _ _ _ _ 9 _ 0)))) (fun hq => (vEt_c (cVt_sA _ _ _ _ 2 _ 12) (RFc_sA _ _ _ _ _) (fun i9 l9 hi9 hl9 => ⟨(cVt_sA _ _ _ _ 3 _ 1), (IFc_sA ((KL hW (KA12 hW kb.2.2.2.2.2.1 hi9 hl9)).choose_spec.neT ix (by decide)))⟩))) (fun _ => fun _ => rfl) j hq
  have xs : ∀ b, cfx (sA M x i v) b = cfx M b := fun b => funext fun j => xf_cases (fun j f => f (sA M x i v) b = f M b) (congrArg Int32.toInt (cV_c (cVt_sA _ _ _ _ 2 _ 1))) (congrArg Int32.toInt (cV_c (cVt_sA _ _ _ _ 2 _ 2))) (congrArg Int32.toInt (cV_c (cVt_sA _ _ _ _ 2 _ 9))) (congrArg Int32.toInt (cV_c (cVt_sA _ _ _ _ 2 _ 11))) (congrArg Int32.toInt (cV_c (cVt_sA _ _ _ _ 2 _ 4))) (congrArg Int32.toInt (cV_c (cVt_sA _ _ _ _ 2 _ 5))) (congrArg Int32.toInt (cV_c (cVt_sA _ _ _ _ 2 _ 15))) (congrArg Int32.toInt (cV_c (cVt_sA _ _ _ _ 2 _ 0))) (x1_c 16 (cVt_sA _ _ _ _ 2 _ 16) (cVt_sA _ _ _ _ 1 _ 3)) (x1_c 17 (cVt_sA _ _ _ _ 2 _ 17) (cVt_sA _ _ _ _ 1 _ 3)) (x10_c 2 (cVt_sA _ _ _ _ 2 _ 18) (cVt_sA _ _ _ _ 10 _ 2)) (x10_c 1 (cVt_sA _ _ _ _ 2 _ 18) (cVt_sA _ _ _ _ 10 _ 1)) (fun j => (lf_c (vLo_c 12 (cVt_sA _ _ _ _ 2 _ 8) (RFc_sA _ _ _ _ _) (fun _ _ _ _ => (cVt_sA _ _ _ _ 9 _ 12))) j)) j
  have rowa : cax (sA M x i v) a 41 = upd (cax M a 41) i v := by
    show vDs 17 1 (sA M x i v) a = upd (vDs 17 1 M a) i v
    unfold vDs
    rw [rA_c (cVt_sA _ _ _ _ 2 _ 17), rA_c (cVt_sA _ _ _ _ 1 _ 1), hs, IFc_sA_self hx]
  refine ⟨fun b hb q => ⟨(xs b).trans (h1 b hb q).1, (funext fun j => rows b j ⟨hb, Or.inl q⟩).trans (h1 b hb q).2⟩, (xs a).trans h2, ?_, hB.c (fun b hb j hj => cVt_sA _ _ _ _ _ _ _) (fun b hb j hj => ⟨cVt_sA _ _ _ _ _ _ _, cVt_sA _ _ _ _ _ _ _⟩) (fun b hb => cVt_sA _ _ _ _ _ _ _) (fun b hb i l hi hl => cVt_sA _ _ _ _ _ _ _) (fun b hb => RFc_sA _ _ _ _ _) (fun b hb => RFc_sA _ _ _ _ _) (fun b hb => RFc_sA _ _ _ _ _) (fun b hb i l hi hl => cVt_sA _ _ _ _ _ _ _) (fun b hb => RFc_sA _ _ _ _ _) (fun b hb i l hi hl => cVt_sA _ _ _ _ _ _ _)⟩
  rw [← h3]
  exact cax_up 41 (fun j hj => rows a j ⟨ha, Or.inr hj⟩) rowa
theorem VC.a_d17_2 {cy : Nat → ClassId} {B : Nat → Nat × Nat} {K : Kp} {L : List Nat} {M0 M : Hp} {a x i n : Nat} {X : Nat → Int} {Y : Nat → Nat → Int32} {c : ClassId} {g : Nat → Int32} {v : Int32} (h : VC B K L M0 M a X Y) (hW : WOK cy K L M) (ha : isk K L a 2 0) (hs : rA 1 M (rA 2 M a 17) 2 = x) (hx : M x = .inl (c, n, .inl g)) : VC B K L M0 (sA M x i v) a X (va_up Y 42 (upd (Y 42) i v)) := by
  obtain ⟨h1, h2, h3, hB⟩ := h
  have owx : B x = (a, 1) := by
    rw [← hs]
    exact hB.d17 a ha 2 (by decide)
  obtain ⟨nx, ix⟩ : ∃ nx, isk K L x 57 nx := by
    rw [← hs]
    have kb := KH hW ha
    obtain ⟨n6, q60, q61, q62⟩ := KD hW kb.2.2.2.2.2.2.1
    obtain ⟨n7, q70, q71, q72⟩ := KD hW kb.2.2.2.2.2.2.2.1
    have ku := KU hW kb.2.2.2.2.2.2.2.2
    exact ⟨_, q72⟩
  have rows : ∀ b j, (isk K L b 2 0 ∧ (b ≠ a ∨ j ≠ 42)) → cax (sA M x i v) b j = cax M b j := fun b j hq => by
    have kb := KH hW hq.1
    obtain ⟨n6, q60, q61, q62⟩ := KD hW kb.2.2.2.2.2.2.1
    obtain ⟨n7, q70, q71, q72⟩ := KD hW kb.2.2.2.2.2.2.2.1
    have ku := KU hW kb.2.2.2.2.2.2.2.2
    exact rowf_cases (fun j f => (isk K L b 2 0 ∧ (b ≠ a ∨ j ≠ 42)) → f (sA M x i v) b = f M b) (fun hq => (vPl_c (cVt_sA _ _ _ _ 2 _ 12) (RFc_sA _ _ _ _ _) (fun _ _ _ _ => ⟨(cVt_sA _ _ _ _ 3 _ 1), (ALc_sA _ _ _ _ _)⟩))) (fun hq => (vLf_c 2 (cVt_sA _ _ _ _ 2 _ 12) (RFc_sA _ _ _ _ _) (fun _ _ _ _ => (cVt_sA _ _ _ _ 3 _ 2)))) (fun hq => (vLf_c 0 (cVt_sA _ _ _ _ 2 _ 12) (RFc_sA _ _ _ _ _) (fun _ _ _ _ => (cVt_sA _ _ _ _ 3 _ 0)))) (fun hq => (vWho_c (cVt_sA _ _ _ _ 2 _ 8) (RFc_sA _ _ _ _ _) (fun _ _ _ _ => ⟨(cVt_sA _ _ _ _ 9 _ 1), (cVt_sA _ _ _ _ 4 _ 0)⟩))) (fun hq => (vTe_c 2 (cVt_sA _ _ _ _ 2 _ 8) (RFc_sA _ _ _ _ _) (fun _ _ _ _ => (cVt_sA _ _ _ _ 9 _ 2)))) (fun hq => (vTe_c 3 (cVt_sA _ _ _ _ 2 _ 8) (RFc_sA _ _ _ _ _) (fun _ _ _ _ => (cVt_sA _ _ _ _ 9 _ 3)))) (fun hq => (vTe_c 5 (cVt_sA _ _ _ _ 2 _ 8) (RFc_sA _ _ _ _ _) (fun _ _ _ _ => (cVt_sA _ _ _ _ 9 _ 5)))) (fun hq => (vTe_c 6 (cVt_sA _ _ _ _ 2 _ 8) (RFc_sA _ _ _ _ _) (fun _ _ _ _ => (cVt_sA _ _ _ _ 9 _ 6)))) (fun hq => (vTe_c 7 (cVt_sA _ _ _ _ 2 _ 8) (RFc_sA _ _ _ _ _) (fun _ _ _ _ => (cVt_sA _ _ _ _ 9 _ 7)))) (fun hq => (vKd_c (cVt_sA _ _ _ _ 2 _ 8) (RFc_sA _ _ _ _ _) (fun _ _ _ _ => ⟨(cVt_sA _ _ _ _ 9 _ 1), (cVt_sA _ _ _ _ 4 _ 1)⟩))) (fun hq => (vHr_c (cVt_sA _ _ _ _ 2 _ 8) (RFc_sA _ _ _ _ _) (fun _ _ _ _ => ⟨(cVt_sA _ _ _ _ 9 _ 8), fun _ _ => (cVt_sA _ _ _ _ 9 _ 0)⟩))) (fun hq => (vTe_c 4 (cVt_sA _ _ _ _ 2 _ 8) (RFc_sA _ _ _ _ _) (fun _ _ _ _ => (cVt_sA _ _ _ _ 9 _ 4)))) (fun hq => (vOw_c (cVt_sA _ _ _ _ 2 _ 8) (RFc_sA _ _ _ _ _) (fun _ _ _ _ => ⟨(cVt_sA _ _ _ _ 9 _ 1), (cVt_sA _ _ _ _ 4 _ 3), fun _ _ => (cVt_sA _ _ _ _ 2 _ 0)⟩))) (fun hq => (vTn_c (cVt_sA _ _ _ _ 2 _ 8) (RFc_sA _ _ _ _ _))) (fun hq => (vRn_c (cVt_sA _ _ _ _ 2 _ 10) (RFc_sA _ _ _ _ _))) (fun hq => (vRu_c 0 (cVt_sA _ _ _ _ 2 _ 10) (RFc_sA _ _ _ _ _) (fun _ _ _ _ => (cVt_sA _ _ _ _ 6 _ 0)))) (fun hq => (vRu_c 1 (cVt_sA _ _ _ _ 2 _ 10) (RFc_sA _ _ _ _ _) (fun _ _ _ _ => (cVt_sA _ _ _ _ 6 _ 1)))) (fun hq => (vTm_c (cVt_sA _ _ _ _ 2 _ 10) (RFc_sA _ _ _ _ _) (fun i9 l9 hi9 hl9 => ⟨(cVt_sA _ _ _ _ 6 _ 2), (IFc_sA ((KR hW (KA10 hW kb.2.2.2.2.1 hi9 hl9)).neT ix (by decide)))⟩))) (fun hq => (vEn_c (cVt_sA _ _ _ _ 2 _ 3) (IFc_sA (kb.1.neT ix (by decide))))) (fun hq => (vMo_c (cVt_sA _ _ _ _ 2 _ 16) (cVt_sA _ _ _ _ 1 _ 0) (RFc_sA _ _ _ _ _) (fun _ _ _ _ => (cVt_sA _ _ _ _ 9 _ 0)))) (fun hq => (vDs_c 16 1 (cVt_sA _ _ _ _ 2 _ 16) (cVt_sA _ _ _ _ 1 _ 1) (IFc_sA (q61.neT ix (by decide))))) (fun hq => (vDs_c 16 2 (cVt_sA _ _ _ _ 2 _ 16) (cVt_sA _ _ _ _ 1 _ 2) (IFc_sA (fun z => absurd (congrArg Prod.snd ((hB.d16 b hq.1 2 (by decide)).symm.trans ((congrArg B z).trans owx))) (show ¬ (0 : Nat) = 1 by decide))))) (fun hq => (vDs_c 17 1 (cVt_sA _ _ _ _ 2 _ 17) (cVt_sA _ _ _ _ 1 _ 1) (IFc_sA (q71.neT ix (by decide))))) (fun hq => (vDs_c 17 2 (cVt_sA _ _ _ _ 2 _ 17) (cVt_sA _ _ _ _ 1 _ 2) (IFc_sA (fun z => (hq.2.resolve_right (fun w => w rfl)) (congrArg Prod.fst ((hB.d17 b hq.1 2 (by decide)).symm.trans ((congrArg B z).trans owx))))))) (fun hq => (vUn_c (cVt_sA _ _ _ _ 2 _ 18) (cVt_sA _ _ _ _ 10 _ 0) (IFc_sA (ku.neT ix (by decide))))) (fun hq => (vLe_c (cVt_sA _ _ _ _ 2 _ 6) (IFc_sA (kb.2.1.neT ix (by decide))))) (fun hq => (vHe_c (cVt_sA _ _ _ _ 2 _ 7) (RFc_sA _ _ _ _ _) (fun _ _ _ _ => (cVt_sA _ _ _ _ 9 _ 0)))) (fun hq => (vEt_c (cVt_sA _ _ _ _ 2 _ 12) (RFc_sA _ _ _ _ _) (fun i9 l9 hi9 hl9 => ⟨(cVt_sA _ _ _ _ 3 _ 1), (IFc_sA ((KL hW (KA12 hW kb.2.2.2.2.2.1 hi9 hl9)).choose_spec.neT ix (by decide)))⟩))) (fun _ => fun _ => rfl) j hq
  have xs : ∀ b, cfx (sA M x i v) b = cfx M b := fun b => funext fun j => xf_cases (fun j f => f (sA M x i v) b = f M b) (congrArg Int32.toInt (cV_c (cVt_sA _ _ _ _ 2 _ 1))) (congrArg Int32.toInt (cV_c (cVt_sA _ _ _ _ 2 _ 2))) (congrArg Int32.toInt (cV_c (cVt_sA _ _ _ _ 2 _ 9))) (congrArg Int32.toInt (cV_c (cVt_sA _ _ _ _ 2 _ 11))) (congrArg Int32.toInt (cV_c (cVt_sA _ _ _ _ 2 _ 4))) (congrArg Int32.toInt (cV_c (cVt_sA _ _ _ _ 2 _ 5))) (congrArg Int32.toInt (cV_c (cVt_sA _ _ _ _ 2 _ 15))) (congrArg Int32.toInt (cV_c (cVt_sA _ _ _ _ 2 _ 0))) (x1_c 16 (cVt_sA _ _ _ _ 2 _ 16) (cVt_sA _ _ _ _ 1 _ 3)) (x1_c 17 (cVt_sA _ _ _ _ 2 _ 17) (cVt_sA _ _ _ _ 1 _ 3)) (x10_c 2 (cVt_sA _ _ _ _ 2 _ 18) (cVt_sA _ _ _ _ 10 _ 2)) (x10_c 1 (cVt_sA _ _ _ _ 2 _ 18) (cVt_sA _ _ _ _ 10 _ 1)) (fun j => (lf_c (vLo_c 12 (cVt_sA _ _ _ _ 2 _ 8) (RFc_sA _ _ _ _ _) (fun _ _ _ _ => (cVt_sA _ _ _ _ 9 _ 12))) j)) j
  have rowa : cax (sA M x i v) a 42 = upd (cax M a 42) i v := by
    show vDs 17 2 (sA M x i v) a = upd (vDs 17 2 M a) i v
    unfold vDs
    rw [rA_c (cVt_sA _ _ _ _ 2 _ 17), rA_c (cVt_sA _ _ _ _ 1 _ 2), hs, IFc_sA_self hx]
  refine ⟨fun b hb q => ⟨(xs b).trans (h1 b hb q).1, (funext fun j => rows b j ⟨hb, Or.inl q⟩).trans (h1 b hb q).2⟩, (xs a).trans h2, ?_, hB.c (fun b hb j hj => cVt_sA _ _ _ _ _ _ _) (fun b hb j hj => ⟨cVt_sA _ _ _ _ _ _ _, cVt_sA _ _ _ _ _ _ _⟩) (fun b hb => cVt_sA _ _ _ _ _ _ _) (fun b hb i l hi hl => cVt_sA _ _ _ _ _ _ _) (fun b hb => RFc_sA _ _ _ _ _) (fun b hb => RFc_sA _ _ _ _ _) (fun b hb => RFc_sA _ _ _ _ _) (fun b hb i l hi hl => cVt_sA _ _ _ _ _ _ _) (fun b hb => RFc_sA _ _ _ _ _) (fun b hb i l hi hl => cVt_sA _ _ _ _ _ _ _)⟩
  rw [← h3]
  exact cax_up 42 (fun j hj => rows a j ⟨ha, Or.inr hj⟩) rowa
theorem VC.a_53 {cy : Nat → ClassId} {B : Nat → Nat × Nat} {K : Kp} {L : List Nat} {M0 M : Hp} {a x i m n q : Nat} {X : Nat → Int} {Y : Nat → Nat → Int32} {c : ClassId} {g : Nat → Int32} {v : Int32} (h : VC B K L M0 M a X Y) (hW : WOK cy K L M) (ha : isk K L a 2 0) (hi : i < 1000) (hq0 : RFc (M (rA 2 M a 12)) i = some q) (hs : rA 3 M q 1 = x) (hx : M x = .inl (c, n, .inl g)) : VC B K L M0 (sA M x m v) a X (va_up Y 60 (upd (Y 60) (1000 * m + i) v)) := by
  obtain ⟨h1, h2, h3, hB⟩ := h
  have owx : B x = (a, i) := by
    rw [← hs]
    exact (hB.lf a ha i q hi hq0).2
  obtain ⟨nx, ix⟩ : ∃ nx, isk K L x 53 nx := by
    rw [← hs]
    exact KL hW (KA12 hW (KH hW ha).2.2.2.2.2.1 hi hq0)
  have rows : ∀ b j, (isk K L b 2 0 ∧ (b ≠ a ∨ j ≠ 60)) → cax (sA M x m v) b j = cax M b j := fun b j hq => by
    have kb := KH hW hq.1
    obtain ⟨n6, q60, q61, q62⟩ := KD hW kb.2.2.2.2.2.2.1
    obtain ⟨n7, q70, q71, q72⟩ := KD hW kb.2.2.2.2.2.2.2.1
    have ku := KU hW kb.2.2.2.2.2.2.2.2
    exact rowf_cases (fun j f => (isk K L b 2 0 ∧ (b ≠ a ∨ j ≠ 60)) → f (sA M x m v) b = f M b) (fun hq => (vPl_c (cVt_sA _ _ _ _ 2 _ 12) (RFc_sA _ _ _ _ _) (fun _ _ _ _ => ⟨(cVt_sA _ _ _ _ 3 _ 1), (ALc_sA _ _ _ _ _)⟩))) (fun hq => (vLf_c 2 (cVt_sA _ _ _ _ 2 _ 12) (RFc_sA _ _ _ _ _) (fun _ _ _ _ => (cVt_sA _ _ _ _ 3 _ 2)))) (fun hq => (vLf_c 0 (cVt_sA _ _ _ _ 2 _ 12) (RFc_sA _ _ _ _ _) (fun _ _ _ _ => (cVt_sA _ _ _ _ 3 _ 0)))) (fun hq => (vWho_c (cVt_sA _ _ _ _ 2 _ 8) (RFc_sA _ _ _ _ _) (fun _ _ _ _ => ⟨(cVt_sA _ _ _ _ 9 _ 1), (cVt_sA _ _ _ _ 4 _ 0)⟩))) (fun hq => (vTe_c 2 (cVt_sA _ _ _ _ 2 _ 8) (RFc_sA _ _ _ _ _) (fun _ _ _ _ => (cVt_sA _ _ _ _ 9 _ 2)))) (fun hq => (vTe_c 3 (cVt_sA _ _ _ _ 2 _ 8) (RFc_sA _ _ _ _ _) (fun _ _ _ _ => (cVt_sA _ _ _ _ 9 _ 3)))) (fun hq => (vTe_c 5 (cVt_sA _ _ _ _ 2 _ 8) (RFc_sA _ _ _ _ _) (fun _ _ _ _ => (cVt_sA _ _ _ _ 9 _ 5)))) (fun hq => (vTe_c 6 (cVt_sA _ _ _ _ 2 _ 8) (RFc_sA _ _ _ _ _) (fun _ _ _ _ => (cVt_sA _ _ _ _ 9 _ 6)))) (fun hq => (vTe_c 7 (cVt_sA _ _ _ _ 2 _ 8) (RFc_sA _ _ _ _ _) (fun _ _ _ _ => (cVt_sA _ _ _ _ 9 _ 7)))) (fun hq => (vKd_c (cVt_sA _ _ _ _ 2 _ 8) (RFc_sA _ _ _ _ _) (fun _ _ _ _ => ⟨(cVt_sA _ _ _ _ 9 _ 1), (cVt_sA _ _ _ _ 4 _ 1)⟩))) (fun hq => (vHr_c (cVt_sA _ _ _ _ 2 _ 8) (RFc_sA _ _ _ _ _) (fun _ _ _ _ => ⟨(cVt_sA _ _ _ _ 9 _ 8), fun _ _ => (cVt_sA _ _ _ _ 9 _ 0)⟩))) (fun hq => (vTe_c 4 (cVt_sA _ _ _ _ 2 _ 8) (RFc_sA _ _ _ _ _) (fun _ _ _ _ => (cVt_sA _ _ _ _ 9 _ 4)))) (fun hq => (vOw_c (cVt_sA _ _ _ _ 2 _ 8) (RFc_sA _ _ _ _ _) (fun _ _ _ _ => ⟨(cVt_sA _ _ _ _ 9 _ 1), (cVt_sA _ _ _ _ 4 _ 3), fun _ _ => (cVt_sA _ _ _ _ 2 _ 0)⟩))) (fun hq => (vTn_c (cVt_sA _ _ _ _ 2 _ 8) (RFc_sA _ _ _ _ _))) (fun hq => (vRn_c (cVt_sA _ _ _ _ 2 _ 10) (RFc_sA _ _ _ _ _))) (fun hq => (vRu_c 0 (cVt_sA _ _ _ _ 2 _ 10) (RFc_sA _ _ _ _ _) (fun _ _ _ _ => (cVt_sA _ _ _ _ 6 _ 0)))) (fun hq => (vRu_c 1 (cVt_sA _ _ _ _ 2 _ 10) (RFc_sA _ _ _ _ _) (fun _ _ _ _ => (cVt_sA _ _ _ _ 6 _ 1)))) (fun hq => (vTm_c (cVt_sA _ _ _ _ 2 _ 10) (RFc_sA _ _ _ _ _) (fun i9 l9 hi9 hl9 => ⟨(cVt_sA _ _ _ _ 6 _ 2), (IFc_sA ((KR hW (KA10 hW kb.2.2.2.2.1 hi9 hl9)).neT ix (by decide)))⟩))) (fun hq => (vEn_c (cVt_sA _ _ _ _ 2 _ 3) (IFc_sA (kb.1.neT ix (by decide))))) (fun hq => (vMo_c (cVt_sA _ _ _ _ 2 _ 16) (cVt_sA _ _ _ _ 1 _ 0) (RFc_sA _ _ _ _ _) (fun _ _ _ _ => (cVt_sA _ _ _ _ 9 _ 0)))) (fun hq => (vDs_c 16 1 (cVt_sA _ _ _ _ 2 _ 16) (cVt_sA _ _ _ _ 1 _ 1) (IFc_sA (q61.neT ix (by decide))))) (fun hq => (vDs_c 16 2 (cVt_sA _ _ _ _ 2 _ 16) (cVt_sA _ _ _ _ 1 _ 2) (IFc_sA (q62.neT ix (by decide))))) (fun hq => (vDs_c 17 1 (cVt_sA _ _ _ _ 2 _ 17) (cVt_sA _ _ _ _ 1 _ 1) (IFc_sA (q71.neT ix (by decide))))) (fun hq => (vDs_c 17 2 (cVt_sA _ _ _ _ 2 _ 17) (cVt_sA _ _ _ _ 1 _ 2) (IFc_sA (q72.neT ix (by decide))))) (fun hq => (vUn_c (cVt_sA _ _ _ _ 2 _ 18) (cVt_sA _ _ _ _ 10 _ 0) (IFc_sA (ku.neT ix (by decide))))) (fun hq => (vLe_c (cVt_sA _ _ _ _ 2 _ 6) (IFc_sA (kb.2.1.neT ix (by decide))))) (fun hq => (vHe_c (cVt_sA _ _ _ _ 2 _ 7) (RFc_sA _ _ _ _ _) (fun _ _ _ _ => (cVt_sA _ _ _ _ 9 _ 0)))) (fun hq => (vEt_c (cVt_sA _ _ _ _ 2 _ 12) (RFc_sA _ _ _ _ _) (fun i9 l9 hi9 hl9 => ⟨(cVt_sA _ _ _ _ 3 _ 1), (IFc_sA (fun z => (hq.2.resolve_right (fun w => w rfl)) (congrArg Prod.fst (((hB.lf b hq.1 i9 l9 hi9 hl9).2).symm.trans ((congrArg B z).trans owx)))))⟩))) (fun _ => fun _ => rfl) j hq
  have xs : ∀ b, cfx (sA M x m v) b = cfx M b := fun b => funext fun j => xf_cases (fun j f => f (sA M x m v) b = f M b) (congrArg Int32.toInt (cV_c (cVt_sA _ _ _ _ 2 _ 1))) (congrArg Int32.toInt (cV_c (cVt_sA _ _ _ _ 2 _ 2))) (congrArg Int32.toInt (cV_c (cVt_sA _ _ _ _ 2 _ 9))) (congrArg Int32.toInt (cV_c (cVt_sA _ _ _ _ 2 _ 11))) (congrArg Int32.toInt (cV_c (cVt_sA _ _ _ _ 2 _ 4))) (congrArg Int32.toInt (cV_c (cVt_sA _ _ _ _ 2 _ 5))) (congrArg Int32.toInt (cV_c (cVt_sA _ _ _ _ 2 _ 15))) (congrArg Int32.toInt (cV_c (cVt_sA _ _ _ _ 2 _ 0))) (x1_c 16 (cVt_sA _ _ _ _ 2 _ 16) (cVt_sA _ _ _ _ 1 _ 3)) (x1_c 17 (cVt_sA _ _ _ _ 2 _ 17) (cVt_sA _ _ _ _ 1 _ 3)) (x10_c 2 (cVt_sA _ _ _ _ 2 _ 18) (cVt_sA _ _ _ _ 10 _ 2)) (x10_c 1 (cVt_sA _ _ _ _ 2 _ 18) (cVt_sA _ _ _ _ 10 _ 1)) (fun j => (lf_c (vLo_c 12 (cVt_sA _ _ _ _ 2 _ 8) (RFc_sA _ _ _ _ _) (fun _ _ _ _ => (cVt_sA _ _ _ _ 9 _ 12))) j)) j
  have rowa : cax (sA M x m v) a 60 = upd (cax M a 60) (1000 * m + i) v := by
    funext y
    show vEt (sA M x m v) a y = upd (vEt M a) (1000 * m + i) v y
    by_cases z : y = 1000 * m + i
    · have e1 : y % 1000 = i := by omega
      have e2 : y / 1000 = m := by omega
      rw [z, upd_self, ← z]
      unfold vEt
      rw [rA_c (cVt_sA _ _ _ _ _ _ _), RFc_sA, e1, hq0]
      show IFc (sA M x m v (rA 3 (sA M x m v) q 1)) (y / 1000) = v
      rw [rA_c (cVt_sA _ _ _ _ _ _ _), hs, IFc_sA_self hx, e2, upd_self]
    · rw [upd_ne _ _ z]
      unfold vEt
      rw [rA_c (cVt_sA _ _ _ _ _ _ _), RFc_sA]
      have w : y % 1000 < 1000 := Nat.mod_lt _ (by decide)
      cases e : RFc (M (rA 2 M a 12)) (y % 1000) with
      | none => rfl
      | some l =>
        show IFc (sA M x m v (rA 3 (sA M x m v) l 1)) (y / 1000) = IFc (M (rA 3 M l 1)) (y / 1000)
        rw [rA_c (cVt_sA _ _ _ _ _ _ _)]
        by_cases u : rA 3 M l 1 = x
        · have e3 : y % 1000 = i := congrArg Prod.snd (((hB.lf a ha _ l w e).2).symm.trans ((congrArg B u).trans owx))
          rw [u, IFc_sA_self hx, upd_ne _ _ (by omega)]
        · rw [IFc_sA u]
  refine ⟨fun b hb q => ⟨(xs b).trans (h1 b hb q).1, (funext fun j => rows b j ⟨hb, Or.inl q⟩).trans (h1 b hb q).2⟩, (xs a).trans h2, ?_, hB.c (fun b hb j hj => cVt_sA _ _ _ _ _ _ _) (fun b hb j hj => ⟨cVt_sA _ _ _ _ _ _ _, cVt_sA _ _ _ _ _ _ _⟩) (fun b hb => cVt_sA _ _ _ _ _ _ _) (fun b hb i l hi hl => cVt_sA _ _ _ _ _ _ _) (fun b hb => RFc_sA _ _ _ _ _) (fun b hb => RFc_sA _ _ _ _ _) (fun b hb => RFc_sA _ _ _ _ _) (fun b hb i l hi hl => cVt_sA _ _ _ _ _ _ _) (fun b hb => RFc_sA _ _ _ _ _) (fun b hb i l hi hl => cVt_sA _ _ _ _ _ _ _)⟩
  rw [← h3]
  exact cax_up 60 (fun j hj => rows a j ⟨ha, Or.inr hj⟩) rowa
theorem VC.a_tm {cy : Nat → ClassId} {B : Nat → Nat × Nat} {K : Kp} {L : List Nat} {M0 M : Hp} {a x i m n q : Nat} {X : Nat → Int} {Y : Nat → Nat → Int32} {c : ClassId} {g : Nat → Int32} {v : Int32} (h : VC B K L M0 M a X Y) (hW : WOK cy K L M) (ha : isk K L a 2 0) (hi : i < 16) (hm : m < 24) (hq0 : RFc (M (rA 2 M a 10)) i = some q) (hs : rA 6 M q 2 = x) (hx : M x = .inl (c, n, .inl g)) : VC B K L M0 (sA M x m v) a X (va_up Y 36 (upd (Y 36) (24 * i + m) v)) := by
  obtain ⟨h1, h2, h3, hB⟩ := h
  have owx : B x = (a, i) := by
    rw [← hs]
    exact (hB.ru a ha i q hi hq0).2
  have ix : isk K L x 54 24 := by
    rw [← hs]
    exact KR hW (KA10 hW (KH hW ha).2.2.2.2.1 hi hq0)
  have rows : ∀ b j, (isk K L b 2 0 ∧ (b ≠ a ∨ j ≠ 36)) → cax (sA M x m v) b j = cax M b j := fun b j hq => by
    have kb := KH hW hq.1
    obtain ⟨n6, q60, q61, q62⟩ := KD hW kb.2.2.2.2.2.2.1
    obtain ⟨n7, q70, q71, q72⟩ := KD hW kb.2.2.2.2.2.2.2.1
    have ku := KU hW kb.2.2.2.2.2.2.2.2
    exact rowf_cases (fun j f => (isk K L b 2 0 ∧ (b ≠ a ∨ j ≠ 36)) → f (sA M x m v) b = f M b) (fun hq => (vPl_c (cVt_sA _ _ _ _ 2 _ 12) (RFc_sA _ _ _ _ _) (fun _ _ _ _ => ⟨(cVt_sA _ _ _ _ 3 _ 1), (ALc_sA _ _ _ _ _)⟩))) (fun hq => (vLf_c 2 (cVt_sA _ _ _ _ 2 _ 12) (RFc_sA _ _ _ _ _) (fun _ _ _ _ => (cVt_sA _ _ _ _ 3 _ 2)))) (fun hq => (vLf_c 0 (cVt_sA _ _ _ _ 2 _ 12) (RFc_sA _ _ _ _ _) (fun _ _ _ _ => (cVt_sA _ _ _ _ 3 _ 0)))) (fun hq => (vWho_c (cVt_sA _ _ _ _ 2 _ 8) (RFc_sA _ _ _ _ _) (fun _ _ _ _ => ⟨(cVt_sA _ _ _ _ 9 _ 1), (cVt_sA _ _ _ _ 4 _ 0)⟩))) (fun hq => (vTe_c 2 (cVt_sA _ _ _ _ 2 _ 8) (RFc_sA _ _ _ _ _) (fun _ _ _ _ => (cVt_sA _ _ _ _ 9 _ 2)))) (fun hq => (vTe_c 3 (cVt_sA _ _ _ _ 2 _ 8) (RFc_sA _ _ _ _ _) (fun _ _ _ _ => (cVt_sA _ _ _ _ 9 _ 3)))) (fun hq => (vTe_c 5 (cVt_sA _ _ _ _ 2 _ 8) (RFc_sA _ _ _ _ _) (fun _ _ _ _ => (cVt_sA _ _ _ _ 9 _ 5)))) (fun hq => (vTe_c 6 (cVt_sA _ _ _ _ 2 _ 8) (RFc_sA _ _ _ _ _) (fun _ _ _ _ => (cVt_sA _ _ _ _ 9 _ 6)))) (fun hq => (vTe_c 7 (cVt_sA _ _ _ _ 2 _ 8) (RFc_sA _ _ _ _ _) (fun _ _ _ _ => (cVt_sA _ _ _ _ 9 _ 7)))) (fun hq => (vKd_c (cVt_sA _ _ _ _ 2 _ 8) (RFc_sA _ _ _ _ _) (fun _ _ _ _ => ⟨(cVt_sA _ _ _ _ 9 _ 1), (cVt_sA _ _ _ _ 4 _ 1)⟩))) (fun hq => (vHr_c (cVt_sA _ _ _ _ 2 _ 8) (RFc_sA _ _ _ _ _) (fun _ _ _ _ => ⟨(cVt_sA _ _ _ _ 9 _ 8), fun _ _ => (cVt_sA _ _ _ _ 9 _ 0)⟩))) (fun hq => (vTe_c 4 (cVt_sA _ _ _ _ 2 _ 8) (RFc_sA _ _ _ _ _) (fun _ _ _ _ => (cVt_sA _ _ _ _ 9 _ 4)))) (fun hq => (vOw_c (cVt_sA _ _ _ _ 2 _ 8) (RFc_sA _ _ _ _ _) (fun _ _ _ _ => ⟨(cVt_sA _ _ _ _ 9 _ 1), (cVt_sA _ _ _ _ 4 _ 3), fun _ _ => (cVt_sA _ _ _ _ 2 _ 0)⟩))) (fun hq => (vTn_c (cVt_sA _ _ _ _ 2 _ 8) (RFc_sA _ _ _ _ _))) (fun hq => (vRn_c (cVt_sA _ _ _ _ 2 _ 10) (RFc_sA _ _ _ _ _))) (fun hq => (vRu_c 0 (cVt_sA _ _ _ _ 2 _ 10) (RFc_sA _ _ _ _ _) (fun _ _ _ _ => (cVt_sA _ _ _ _ 6 _ 0)))) (fun hq => (vRu_c 1 (cVt_sA _ _ _ _ 2 _ 10) (RFc_sA _ _ _ _ _) (fun _ _ _ _ => (cVt_sA _ _ _ _ 6 _ 1)))) (fun hq => (vTm_c (cVt_sA _ _ _ _ 2 _ 10) (RFc_sA _ _ _ _ _) (fun i9 l9 hi9 hl9 => ⟨(cVt_sA _ _ _ _ 6 _ 2), (IFc_sA (fun z => (hq.2.resolve_right (fun w => w rfl)) (congrArg Prod.fst (((hB.ru b hq.1 i9 l9 hi9 hl9).2).symm.trans ((congrArg B z).trans owx)))))⟩))) (fun hq => (vEn_c (cVt_sA _ _ _ _ 2 _ 3) (IFc_sA (kb.1.neT ix (by decide))))) (fun hq => (vMo_c (cVt_sA _ _ _ _ 2 _ 16) (cVt_sA _ _ _ _ 1 _ 0) (RFc_sA _ _ _ _ _) (fun _ _ _ _ => (cVt_sA _ _ _ _ 9 _ 0)))) (fun hq => (vDs_c 16 1 (cVt_sA _ _ _ _ 2 _ 16) (cVt_sA _ _ _ _ 1 _ 1) (IFc_sA (q61.neT ix (by decide))))) (fun hq => (vDs_c 16 2 (cVt_sA _ _ _ _ 2 _ 16) (cVt_sA _ _ _ _ 1 _ 2) (IFc_sA (q62.neT ix (by decide))))) (fun hq => (vDs_c 17 1 (cVt_sA _ _ _ _ 2 _ 17) (cVt_sA _ _ _ _ 1 _ 1) (IFc_sA (q71.neT ix (by decide))))) (fun hq => (vDs_c 17 2 (cVt_sA _ _ _ _ 2 _ 17) (cVt_sA _ _ _ _ 1 _ 2) (IFc_sA (q72.neT ix (by decide))))) (fun hq => (vUn_c (cVt_sA _ _ _ _ 2 _ 18) (cVt_sA _ _ _ _ 10 _ 0) (IFc_sA (ku.neT ix (by decide))))) (fun hq => (vLe_c (cVt_sA _ _ _ _ 2 _ 6) (IFc_sA (kb.2.1.neT ix (by decide))))) (fun hq => (vHe_c (cVt_sA _ _ _ _ 2 _ 7) (RFc_sA _ _ _ _ _) (fun _ _ _ _ => (cVt_sA _ _ _ _ 9 _ 0)))) (fun hq => (vEt_c (cVt_sA _ _ _ _ 2 _ 12) (RFc_sA _ _ _ _ _) (fun i9 l9 hi9 hl9 => ⟨(cVt_sA _ _ _ _ 3 _ 1), (IFc_sA ((KL hW (KA12 hW kb.2.2.2.2.2.1 hi9 hl9)).choose_spec.neT ix (by decide)))⟩))) (fun _ => fun _ => rfl) j hq
  have xs : ∀ b, cfx (sA M x m v) b = cfx M b := fun b => funext fun j => xf_cases (fun j f => f (sA M x m v) b = f M b) (congrArg Int32.toInt (cV_c (cVt_sA _ _ _ _ 2 _ 1))) (congrArg Int32.toInt (cV_c (cVt_sA _ _ _ _ 2 _ 2))) (congrArg Int32.toInt (cV_c (cVt_sA _ _ _ _ 2 _ 9))) (congrArg Int32.toInt (cV_c (cVt_sA _ _ _ _ 2 _ 11))) (congrArg Int32.toInt (cV_c (cVt_sA _ _ _ _ 2 _ 4))) (congrArg Int32.toInt (cV_c (cVt_sA _ _ _ _ 2 _ 5))) (congrArg Int32.toInt (cV_c (cVt_sA _ _ _ _ 2 _ 15))) (congrArg Int32.toInt (cV_c (cVt_sA _ _ _ _ 2 _ 0))) (x1_c 16 (cVt_sA _ _ _ _ 2 _ 16) (cVt_sA _ _ _ _ 1 _ 3)) (x1_c 17 (cVt_sA _ _ _ _ 2 _ 17) (cVt_sA _ _ _ _ 1 _ 3)) (x10_c 2 (cVt_sA _ _ _ _ 2 _ 18) (cVt_sA _ _ _ _ 10 _ 2)) (x10_c 1 (cVt_sA _ _ _ _ 2 _ 18) (cVt_sA _ _ _ _ 10 _ 1)) (fun j => (lf_c (vLo_c 12 (cVt_sA _ _ _ _ 2 _ 8) (RFc_sA _ _ _ _ _) (fun _ _ _ _ => (cVt_sA _ _ _ _ 9 _ 12))) j)) j
  have rowa : cax (sA M x m v) a 36 = upd (cax M a 36) (24 * i + m) v := by
    funext y
    show vTm (sA M x m v) a y = upd (vTm M a) (24 * i + m) v y
    by_cases z : y = 24 * i + m
    · have e1 : y / 24 = i := by omega
      have e2 : y % 24 = m := by omega
      rw [z, upd_self, ← z]
      unfold vTm
      rw [if_pos (by omega), rA_c (cVt_sA _ _ _ _ _ _ _), RFc_sA, e1, hq0]
      show IFc (sA M x m v (rA 6 (sA M x m v) q 2)) (y % 24) = v
      rw [rA_c (cVt_sA _ _ _ _ _ _ _), hs, IFc_sA_self hx, e2, upd_self]
    · rw [upd_ne _ _ z]
      unfold vTm
      rw [rA_c (cVt_sA _ _ _ _ _ _ _), RFc_sA]
      by_cases w : y / 24 < 16
      · rw [if_pos w, if_pos w]
        cases e : RFc (M (rA 2 M a 10)) (y / 24) with
        | none => rfl
        | some l =>
          show IFc (sA M x m v (rA 6 (sA M x m v) l 2)) (y % 24) = IFc (M (rA 6 M l 2)) (y % 24)
          rw [rA_c (cVt_sA _ _ _ _ _ _ _)]
          by_cases u : rA 6 M l 2 = x
          · have e3 : y / 24 = i := congrArg Prod.snd (((hB.ru a ha _ l w e).2).symm.trans ((congrArg B u).trans owx))
            rw [u, IFc_sA_self hx, upd_ne _ _ (by omega)]
          · rw [IFc_sA u]
      · rw [if_neg w, if_neg w]
  refine ⟨fun b hb q => ⟨(xs b).trans (h1 b hb q).1, (funext fun j => rows b j ⟨hb, Or.inl q⟩).trans (h1 b hb q).2⟩, (xs a).trans h2, ?_, hB.c (fun b hb j hj => cVt_sA _ _ _ _ _ _ _) (fun b hb j hj => ⟨cVt_sA _ _ _ _ _ _ _, cVt_sA _ _ _ _ _ _ _⟩) (fun b hb => cVt_sA _ _ _ _ _ _ _) (fun b hb i l hi hl => cVt_sA _ _ _ _ _ _ _) (fun b hb => RFc_sA _ _ _ _ _) (fun b hb => RFc_sA _ _ _ _ _) (fun b hb => RFc_sA _ _ _ _ _) (fun b hb i l hi hl => cVt_sA _ _ _ _ _ _ _) (fun b hb => RFc_sA _ _ _ _ _) (fun b hb i l hi hl => cVt_sA _ _ _ _ _ _ _)⟩
  rw [← h3]
  exact cax_up 36 (fun j hj => rows a j ⟨ha, Or.inr hj⟩) rowa
def lfN (j : Nat) (M : Hp) (o : Option Nat) : Int32 := match o with | none => 0 | some l => cV 3 M l j
def plN (M : Hp) (o : Option Nat) : Int32 := match o with | none => -1 | some l => nI (ALc (M (rA 3 M l 1)))
def tmN (M : Hp) (o : Option Nat) : Nat → Int32 := match o with | none => fun _ => 0 | some q => IFc (M (rA 6 M q 2))
/-- what a tenure shows of longs -/
def leN (M : Hp) (o : Option Nat) : Int := match o with | none => 0 | some t => (cL 9 M t 12).toInt
/-- what a tenure shows in row j -/
def teN (M : Hp) (o : Option Nat) (j : Nat) : Int32 := match o with
  | none => 0
  | some t => match j with
    | 19 => cV 4 M (rA 9 M t 1) 0
    | 20 => cV 9 M t 2
    | 21 => cV 9 M t 3
    | 22 => cV 9 M t 5
    | 23 => cV 9 M t 6
    | 24 => cV 9 M t 7
    | 25 => hrN M (cR 9 M t 8)
    | 26 => cV 9 M t 4
    | 27 => owN M (cR 4 M (rA 9 M t 1) 3)
    | 28 => 1
    | 29 => cV 4 M (rA 9 M t 1) 1
    | _ => 0
def rnN (o : Option Nat) : Int32 := match o with | none => 0 | some _ => 1
def ruN (j : Nat) (M : Hp) (o : Option Nat) : Int32 := match o with | none => 0 | some q => cV 6 M q j
/-- row j with what stands in slot i anew -/
def ttY (Y : Nat → Nat → Int32) (i : Nat) (f : Nat → Int32) : Nat → Nat → Int32 := fun j => if 19 ≤ j ∧ j ≤ 29 then upd (Y j) i (f j) else Y j
theorem VC.r_he {cy : Nat → ClassId} {B : Nat → Nat × Nat} {K : Kp} {L : List Nat} {M0 M : Hp} {a x i n : Nat} {X : Nat → Int} {Y : Nat → Nat → Int32} {c : ClassId} {g : Nat → Option Nat} {o : Option Nat} (h : VC B K L M0 M a X Y) (hW : WOK cy K L M) (ha : isk K L a 2 0) (hi : i < 6) (hs : rA 2 M a 7 = x) (hx : M x = .inl (c, n, .inr (.inr (.inr (.inr g))))) (ho : ∀ q, o = some q → ∃ k, k < 24 ∧ RFc (M (rA 2 M a 8)) k = some q) : VC B K L M0 (sR M x i o) a X (va_up Y 51 (upd (Y 51) i (hrN M o))) := by
  obtain ⟨h1, h2, h3, hB⟩ := h
  have owx : B x = (a, 0) := by
    rw [← hs]
    exact hB.e0 a ha 7 (by decide)
  obtain ⟨nx, ix⟩ : ∃ nx, isk K L x 61 nx := by
    rw [← hs]
    have kb := KH hW ha
    obtain ⟨n6, q60, q61, q62⟩ := KD hW kb.2.2.2.2.2.2.1
    obtain ⟨n7, q70, q71, q72⟩ := KD hW kb.2.2.2.2.2.2.2.1
    have ku := KU hW kb.2.2.2.2.2.2.2.2
    exact ⟨_, kb.2.2.1⟩
  have rows : ∀ b j, (isk K L b 2 0 ∧ (b ≠ a ∨ ¬ j ∈ ([51] : List Nat))) → cax (sR M x i o) b j = cax M b j := fun b j hq => by
    have kb := KH hW hq.1
    obtain ⟨n6, q60, q61, q62⟩ := KD hW kb.2.2.2.2.2.2.1
    obtain ⟨n7, q70, q71, q72⟩ := KD hW kb.2.2.2.2.2.2.2.1
    have ku := KU hW kb.2.2.2.2.2.2.2.2
    exact rowf_cases (fun j f => (isk K L b 2 0 ∧ (b ≠ a ∨ ¬ j ∈ ([51] : List Nat))) → f (sR M x i o) b = f M b) (fun hq => (vPl_c (cVt_sR _ _ _ _ 2 _ 12) (RFc_sR (kb.2.2.2.2.2.1.neT ix (by decide))) (fun _ _ _ _ => ⟨(cVt_sR _ _ _ _ 3 _ 1), (ALc_sR _ _ _ _ _)⟩))) (fun hq => (vLf_c 2 (cVt_sR _ _ _ _ 2 _ 12) (RFc_sR (kb.2.2.2.2.2.1.neT ix (by decide))) (fun _ _ _ _ => (cVt_sR _ _ _ _ 3 _ 2)))) (fun hq => (vLf_c 0 (cVt_sR _ _ _ _ 2 _ 12) (RFc_sR (kb.2.2.2.2.2.1.neT ix (by decide))) (fun _ _ _ _ => (cVt_sR _ _ _ _ 3 _ 0)))) (fun hq => (vWho_c (cVt_sR _ _ _ _ 2 _ 8) (RFc_sR (kb.2.2.2.1.neT ix (by decide))) (fun _ _ _ _ => ⟨(cVt_sR _ _ _ _ 9 _ 1), (cVt_sR _ _ _ _ 4 _ 0)⟩))) (fun hq => (vTe_c 2 (cVt_sR _ _ _ _ 2 _ 8) (RFc_sR (kb.2.2.2.1.neT ix (by decide))) (fun _ _ _ _ => (cVt_sR _ _ _ _ 9 _ 2)))) (fun hq => (vTe_c 3 (cVt_sR _ _ _ _ 2 _ 8) (RFc_sR (kb.2.2.2.1.neT ix (by decide))) (fun _ _ _ _ => (cVt_sR _ _ _ _ 9 _ 3)))) (fun hq => (vTe_c 5 (cVt_sR _ _ _ _ 2 _ 8) (RFc_sR (kb.2.2.2.1.neT ix (by decide))) (fun _ _ _ _ => (cVt_sR _ _ _ _ 9 _ 5)))) (fun hq => (vTe_c 6 (cVt_sR _ _ _ _ 2 _ 8) (RFc_sR (kb.2.2.2.1.neT ix (by decide))) (fun _ _ _ _ => (cVt_sR _ _ _ _ 9 _ 6)))) (fun hq => (vTe_c 7 (cVt_sR _ _ _ _ 2 _ 8) (RFc_sR (kb.2.2.2.1.neT ix (by decide))) (fun _ _ _ _ => (cVt_sR _ _ _ _ 9 _ 7)))) (fun hq => (vKd_c (cVt_sR _ _ _ _ 2 _ 8) (RFc_sR (kb.2.2.2.1.neT ix (by decide))) (fun _ _ _ _ => ⟨(cVt_sR _ _ _ _ 9 _ 1), (cVt_sR _ _ _ _ 4 _ 1)⟩))) (fun hq => (vHr_c (cVt_sR _ _ _ _ 2 _ 8) (RFc_sR (kb.2.2.2.1.neT ix (by decide))) (fun _ _ _ _ => ⟨(cVt_sR _ _ _ _ 9 _ 8), fun _ _ => (cVt_sR _ _ _ _ 9 _ 0)⟩))) (fun hq => (vTe_c 4 (cVt_sR _ _ _ _ 2 _ 8) (RFc_sR (kb.2.2.2.1.neT ix (by decide))) (fun _ _ _ _ => (cVt_sR _ _ _ _ 9 _ 4)))) (fun hq => (vOw_c (cVt_sR _ _ _ _ 2 _ 8) (RFc_sR (kb.2.2.2.1.neT ix (by decide))) (fun _ _ _ _ => ⟨(cVt_sR _ _ _ _ 9 _ 1), (cVt_sR _ _ _ _ 4 _ 3), fun _ _ => (cVt_sR _ _ _ _ 2 _ 0)⟩))) (fun hq => (vTn_c (cVt_sR _ _ _ _ 2 _ 8) (RFc_sR (kb.2.2.2.1.neT ix (by decide))))) (fun hq => (vRn_c (cVt_sR _ _ _ _ 2 _ 10) (RFc_sR (kb.2.2.2.2.1.neT ix (by decide))))) (fun hq => (vRu_c 0 (cVt_sR _ _ _ _ 2 _ 10) (RFc_sR (kb.2.2.2.2.1.neT ix (by decide))) (fun _ _ _ _ => (cVt_sR _ _ _ _ 6 _ 0)))) (fun hq => (vRu_c 1 (cVt_sR _ _ _ _ 2 _ 10) (RFc_sR (kb.2.2.2.2.1.neT ix (by decide))) (fun _ _ _ _ => (cVt_sR _ _ _ _ 6 _ 1)))) (fun hq => (vTm_c (cVt_sR _ _ _ _ 2 _ 10) (RFc_sR (kb.2.2.2.2.1.neT ix (by decide))) (fun i9 l9 hi9 hl9 => ⟨(cVt_sR _ _ _ _ 6 _ 2), (IFc_sR _ _ _ _ _)⟩))) (fun hq => (vEn_c (cVt_sR _ _ _ _ 2 _ 3) (IFc_sR _ _ _ _ _))) (fun hq => (vMo_c (cVt_sR _ _ _ _ 2 _ 16) (cVt_sR _ _ _ _ 1 _ 0) (RFc_sR (q60.neT ix (by decide))) (fun _ _ _ _ => (cVt_sR _ _ _ _ 9 _ 0)))) (fun hq => (vDs_c 16 1 (cVt_sR _ _ _ _ 2 _ 16) (cVt_sR _ _ _ _ 1 _ 1) (IFc_sR _ _ _ _ _))) (fun hq => (vDs_c 16 2 (cVt_sR _ _ _ _ 2 _ 16) (cVt_sR _ _ _ _ 1 _ 2) (IFc_sR _ _ _ _ _))) (fun hq => (vDs_c 17 1 (cVt_sR _ _ _ _ 2 _ 17) (cVt_sR _ _ _ _ 1 _ 1) (IFc_sR _ _ _ _ _))) (fun hq => (vDs_c 17 2 (cVt_sR _ _ _ _ 2 _ 17) (cVt_sR _ _ _ _ 1 _ 2) (IFc_sR _ _ _ _ _))) (fun hq => (vUn_c (cVt_sR _ _ _ _ 2 _ 18) (cVt_sR _ _ _ _ 10 _ 0) (IFc_sR _ _ _ _ _))) (fun hq => (vLe_c (cVt_sR _ _ _ _ 2 _ 6) (IFc_sR _ _ _ _ _))) (fun hq => (vHe_c (cVt_sR _ _ _ _ 2 _ 7) (RFc_sR (fun z => (hq.2.resolve_right (fun w => w (by decide))) (congrArg Prod.fst ((hB.e0 b hq.1 7 (by decide)).symm.trans ((congrArg B z).trans owx))))) (fun _ _ _ _ => (cVt_sR _ _ _ _ 9 _ 0)))) (fun hq => (vEt_c (cVt_sR _ _ _ _ 2 _ 12) (RFc_sR (kb.2.2.2.2.2.1.neT ix (by decide))) (fun i9 l9 hi9 hl9 => ⟨(cVt_sR _ _ _ _ 3 _ 1), (IFc_sR _ _ _ _ _)⟩))) (fun _ => fun _ => rfl) j hq
  have xs : ∀ b, isk K L b 2 0 → cfx (sR M x i o) b = cfx M b := fun b hb => by
    have kb9 := KH hW hb
    exact funext fun j => xf_cases (fun j f => f (sR M x i o) b = f M b) (congrArg Int32.toInt (cV_c (cVt_sR _ _ _ _ 2 _ 1))) (congrArg Int32.toInt (cV_c (cVt_sR _ _ _ _ 2 _ 2))) (congrArg Int32.toInt (cV_c (cVt_sR _ _ _ _ 2 _ 9))) (congrArg Int32.toInt (cV_c (cVt_sR _ _ _ _ 2 _ 11))) (congrArg Int32.toInt (cV_c (cVt_sR _ _ _ _ 2 _ 4))) (congrArg Int32.toInt (cV_c (cVt_sR _ _ _ _ 2 _ 5))) (congrArg Int32.toInt (cV_c (cVt_sR _ _ _ _ 2 _ 15))) (congrArg Int32.toInt (cV_c (cVt_sR _ _ _ _ 2 _ 0))) (x1_c 16 (cVt_sR _ _ _ _ 2 _ 16) (cVt_sR _ _ _ _ 1 _ 3)) (x1_c 17 (cVt_sR _ _ _ _ 2 _ 17) (cVt_sR _ _ _ _ 1 _ 3)) (x10_c 2 (cVt_sR _ _ _ _ 2 _ 18) (cVt_sR _ _ _ _ 10 _ 2)) (x10_c 1 (cVt_sR _ _ _ _ 2 _ 18) (cVt_sR _ _ _ _ 10 _ 1)) (fun j => (lf_c (vLo_c 12 (cVt_sR _ _ _ _ 2 _ 8) (RFc_sR (kb9.2.2.2.1.neT ix (by decide))) (fun _ _ _ _ => (cVt_sR _ _ _ _ 9 _ 12))) j)) j
  have hO : OC B K L (sR M x i o) := by
    have r8 : ∀ b, isk K L b 2 0 → RFc ((sR M x i o) (rA 2 M b 8)) = RFc (M (rA 2 M b 8)) := (fun b hb => by
    have kb := KH hW hb
    obtain ⟨n6, q60, q61, q62⟩ := KD hW kb.2.2.2.2.2.2.1
    obtain ⟨n7, q70, q71, q72⟩ := KD hW kb.2.2.2.2.2.2.2.1
    have ku := KU hW kb.2.2.2.2.2.2.2.2
    exact RFc_sR (kb.2.2.2.1.neT ix (by decide)))
    have r12 : ∀ b, isk K L b 2 0 → RFc ((sR M x i o) (rA 2 M b 12)) = RFc (M (rA 2 M b 12)) := (fun b hb => by
    have kb := KH hW hb
    obtain ⟨n6, q60, q61, q62⟩ := KD hW kb.2.2.2.2.2.2.1
    obtain ⟨n7, q70, q71, q72⟩ := KD hW kb.2.2.2.2.2.2.2.1
    have ku := KU hW kb.2.2.2.2.2.2.2.2
    exact RFc_sR (kb.2.2.2.2.2.1.neT ix (by decide)))
    have r10 : ∀ b, isk K L b 2 0 → RFc ((sR M x i o) (rA 2 M b 10)) = RFc (M (rA 2 M b 10)) := (fun b hb => by
    have kb := KH hW hb
    obtain ⟨n6, q60, q61, q62⟩ := KD hW kb.2.2.2.2.2.2.1
    obtain ⟨n7, q70, q71, q72⟩ := KD hW kb.2.2.2.2.2.2.2.1
    have ku := KU hW kb.2.2.2.2.2.2.2.2
    exact RFc_sR (kb.2.2.2.2.1.neT ix (by decide)))
    refine ⟨fun b hb j hj => ?_, fun b hb => ?_, fun b hb j hj => ?_, fun b hb j hj => ?_, fun b hb => ?_, fun b hb i9 l hi9 hl => ?_, fun b hb i9 l hi9 hl => ?_, fun b hb i9 l hi9 hl => ?_, fun b hb i9 l hi9 hl => ?_, fun b hb i9 l hi9 hl => ?_, fun b hb => ?_, fun b hb => ?_⟩
    · rw [rA_c (cVt_sR _ _ _ _ _ _ _)]
      exact hB.e0 b hb j hj
    · rw [rA_c (cVt_sR _ _ _ _ _ _ _)]
      exact hB.e17 b hb
    · rw [rA_c (cVt_sR _ _ _ _ _ _ _), rA_c (cVt_sR _ _ _ _ _ _ _)]
      exact hB.d16 b hb j hj
    · rw [rA_c (cVt_sR _ _ _ _ _ _ _), rA_c (cVt_sR _ _ _ _ _ _ _)]
      exact hB.d17 b hb j hj
    · rw [rA_c (cVt_sR _ _ _ _ _ _ _), rA_c (cVt_sR _ _ _ _ _ _ _)]
      exact hB.un b hb
    · rw [rA_c (cVt_sR _ _ _ _ _ _ _), r12 b hb] at hl
      rw [rA_c (cVt_sR _ _ _ _ _ _ _)]
      exact hB.lf b hb i9 l hi9 hl
    · rw [rA_c (cVt_sR _ _ _ _ _ _ _), r8 b hb] at hl
      exact hB.te b hb i9 l hi9 hl
    · rw [rA_c (cVt_sR _ _ _ _ _ _ _), r10 b hb] at hl
      rw [rA_c (cVt_sR _ _ _ _ _ _ _)]
      exact hB.ru b hb i9 l hi9 hl
    · rw [rA_c (cVt_sR _ _ _ _ _ _ _), r8 b hb] at hl
      rw [cV_c (cVt_sR _ _ _ _ _ _ _)]
      exact hB.nm b hb i9 l hi9 hl
    · rw [rA_c (cVt_sR _ _ _ _ _ _ _)] at hl
      rw [rA_c (cVt_sR _ _ _ _ _ _ _), r8 b hb]
      by_cases z : rA 2 M b 7 = x
      · have eb : b = a := congrArg Prod.fst ((hB.e0 b hb 7 (by decide)).symm.trans ((congrArg B z).trans owx))
        rw [z, RFc_sR_self hx] at hl
        by_cases y : i9 = i
        · subst y
          rw [va_up_self] at hl
          rw [eb]
          exact ho l hl
        · rw [va_up_ne _ _ y, ← z] at hl
          exact hB.hd b hb i9 l hi9 hl
      · rw [RFc_sR z] at hl
        exact hB.hd b hb i9 l hi9 hl
    · rw [rA_c (cVt_sR _ _ _ _ _ _ _), rA_c (cVt_sR _ _ _ _ _ _ _)]
      exact hB.n16 b hb
    · rw [rA_c (cVt_sR _ _ _ _ _ _ _), rA_c (cVt_sR _ _ _ _ _ _ _)]
      exact hB.n17 b hb
  have row51 : cax (sR M x i o) a 51 = upd (cax M a 51) i (hrN M o) := by
    funext i9
    show vHe (sR M x i o) a i9 = upd (vHe M a) i (hrN M o) i9
    by_cases z : i9 = i
    · subst z
      rw [upd_self]
      unfold vHe
      rw [if_pos hi, rA_c (cVt_sR _ _ _ _ 2 _ 7), hs, RFc_sR_self hx, va_up_self]
      cases o with
      | none => rfl
      | some t => exact cV_c (cVt_sR _ _ _ _ 9 _ 0)
    · rw [upd_ne _ _ z]
      unfold vHe
      rw [rA_c (cVt_sR _ _ _ _ 2 _ 7), hs, RFc_sR_self hx, va_up_ne _ _ z]
      by_cases q : i9 < 6
      · rw [if_pos q, if_pos q]
        cases e : RFc (M x) i9 with
        | none => rfl
        | some l => exact cV_c (cVt_sR _ _ _ _ 9 _ 0)
      · rw [if_neg q, if_neg q]
  refine ⟨fun b hb q => ⟨(xs b hb).trans (h1 b hb q).1, (funext fun j => rows b j ⟨hb, Or.inl q⟩).trans (h1 b hb q).2⟩, (xs a ha).trans h2, ?_, hO⟩
  rw [← h3]
  exact cax_up 51 (fun j hj => rows a j ⟨ha, Or.inr (by simp only [List.mem_singleton]; exact hj)⟩) row51
theorem VC.r_mo {cy : Nat → ClassId} {B : Nat → Nat × Nat} {K : Kp} {L : List Nat} {M0 M : Hp} {a x i n : Nat} {X : Nat → Int} {Y : Nat → Nat → Int32} {c : ClassId} {g : Nat → Option Nat} {o : Option Nat} (h : VC B K L M0 M a X Y) (hW : WOK cy K L M) (ha : isk K L a 2 0) (hi : i < 120) (hs : rA 1 M (rA 2 M a 16) 0 = x) (hx : M x = .inl (c, n, .inr (.inr (.inr (.inr g))))) : VC B K L M0 (sR M x i o) a X (va_up Y 38 (upd (Y 38) i (hrN M o))) := by
  obtain ⟨h1, h2, h3, hB⟩ := h
  have owx : B x = (a, 0) := by
    rw [← hs]
    exact hB.d16 a ha 0 (by decide)
  obtain ⟨nx, ix⟩ : ∃ nx, isk K L x 63 nx := by
    rw [← hs]
    have kb := KH hW ha
    obtain ⟨n6, q60, q61, q62⟩ := KD hW kb.2.2.2.2.2.2.1
    obtain ⟨n7, q70, q71, q72⟩ := KD hW kb.2.2.2.2.2.2.2.1
    have ku := KU hW kb.2.2.2.2.2.2.2.2
    exact ⟨_, q60⟩
  have rows : ∀ b j, (isk K L b 2 0 ∧ (b ≠ a ∨ ¬ j ∈ ([38] : List Nat))) → cax (sR M x i o) b j = cax M b j := fun b j hq => by
    have kb := KH hW hq.1
    obtain ⟨n6, q60, q61, q62⟩ := KD hW kb.2.2.2.2.2.2.1
    obtain ⟨n7, q70, q71, q72⟩ := KD hW kb.2.2.2.2.2.2.2.1
    have ku := KU hW kb.2.2.2.2.2.2.2.2
    exact rowf_cases (fun j f => (isk K L b 2 0 ∧ (b ≠ a ∨ ¬ j ∈ ([38] : List Nat))) → f (sR M x i o) b = f M b) (fun hq => (vPl_c (cVt_sR _ _ _ _ 2 _ 12) (RFc_sR (kb.2.2.2.2.2.1.neT ix (by decide))) (fun _ _ _ _ => ⟨(cVt_sR _ _ _ _ 3 _ 1), (ALc_sR _ _ _ _ _)⟩))) (fun hq => (vLf_c 2 (cVt_sR _ _ _ _ 2 _ 12) (RFc_sR (kb.2.2.2.2.2.1.neT ix (by decide))) (fun _ _ _ _ => (cVt_sR _ _ _ _ 3 _ 2)))) (fun hq => (vLf_c 0 (cVt_sR _ _ _ _ 2 _ 12) (RFc_sR (kb.2.2.2.2.2.1.neT ix (by decide))) (fun _ _ _ _ => (cVt_sR _ _ _ _ 3 _ 0)))) (fun hq => (vWho_c (cVt_sR _ _ _ _ 2 _ 8) (RFc_sR (kb.2.2.2.1.neT ix (by decide))) (fun _ _ _ _ => ⟨(cVt_sR _ _ _ _ 9 _ 1), (cVt_sR _ _ _ _ 4 _ 0)⟩))) (fun hq => (vTe_c 2 (cVt_sR _ _ _ _ 2 _ 8) (RFc_sR (kb.2.2.2.1.neT ix (by decide))) (fun _ _ _ _ => (cVt_sR _ _ _ _ 9 _ 2)))) (fun hq => (vTe_c 3 (cVt_sR _ _ _ _ 2 _ 8) (RFc_sR (kb.2.2.2.1.neT ix (by decide))) (fun _ _ _ _ => (cVt_sR _ _ _ _ 9 _ 3)))) (fun hq => (vTe_c 5 (cVt_sR _ _ _ _ 2 _ 8) (RFc_sR (kb.2.2.2.1.neT ix (by decide))) (fun _ _ _ _ => (cVt_sR _ _ _ _ 9 _ 5)))) (fun hq => (vTe_c 6 (cVt_sR _ _ _ _ 2 _ 8) (RFc_sR (kb.2.2.2.1.neT ix (by decide))) (fun _ _ _ _ => (cVt_sR _ _ _ _ 9 _ 6)))) (fun hq => (vTe_c 7 (cVt_sR _ _ _ _ 2 _ 8) (RFc_sR (kb.2.2.2.1.neT ix (by decide))) (fun _ _ _ _ => (cVt_sR _ _ _ _ 9 _ 7)))) (fun hq => (vKd_c (cVt_sR _ _ _ _ 2 _ 8) (RFc_sR (kb.2.2.2.1.neT ix (by decide))) (fun _ _ _ _ => ⟨(cVt_sR _ _ _ _ 9 _ 1), (cVt_sR _ _ _ _ 4 _ 1)⟩))) (fun hq => (vHr_c (cVt_sR _ _ _ _ 2 _ 8) (RFc_sR (kb.2.2.2.1.neT ix (by decide))) (fun _ _ _ _ => ⟨(cVt_sR _ _ _ _ 9 _ 8), fun _ _ => (cVt_sR _ _ _ _ 9 _ 0)⟩))) (fun hq => (vTe_c 4 (cVt_sR _ _ _ _ 2 _ 8) (RFc_sR (kb.2.2.2.1.neT ix (by decide))) (fun _ _ _ _ => (cVt_sR _ _ _ _ 9 _ 4)))) (fun hq => (vOw_c (cVt_sR _ _ _ _ 2 _ 8) (RFc_sR (kb.2.2.2.1.neT ix (by decide))) (fun _ _ _ _ => ⟨(cVt_sR _ _ _ _ 9 _ 1), (cVt_sR _ _ _ _ 4 _ 3), fun _ _ => (cVt_sR _ _ _ _ 2 _ 0)⟩))) (fun hq => (vTn_c (cVt_sR _ _ _ _ 2 _ 8) (RFc_sR (kb.2.2.2.1.neT ix (by decide))))) (fun hq => (vRn_c (cVt_sR _ _ _ _ 2 _ 10) (RFc_sR (kb.2.2.2.2.1.neT ix (by decide))))) (fun hq => (vRu_c 0 (cVt_sR _ _ _ _ 2 _ 10) (RFc_sR (kb.2.2.2.2.1.neT ix (by decide))) (fun _ _ _ _ => (cVt_sR _ _ _ _ 6 _ 0)))) (fun hq => (vRu_c 1 (cVt_sR _ _ _ _ 2 _ 10) (RFc_sR (kb.2.2.2.2.1.neT ix (by decide))) (fun _ _ _ _ => (cVt_sR _ _ _ _ 6 _ 1)))) (fun hq => (vTm_c (cVt_sR _ _ _ _ 2 _ 10) (RFc_sR (kb.2.2.2.2.1.neT ix (by decide))) (fun i9 l9 hi9 hl9 => ⟨(cVt_sR _ _ _ _ 6 _ 2), (IFc_sR _ _ _ _ _)⟩))) (fun hq => (vEn_c (cVt_sR _ _ _ _ 2 _ 3) (IFc_sR _ _ _ _ _))) (fun hq => (vMo_c (cVt_sR _ _ _ _ 2 _ 16) (cVt_sR _ _ _ _ 1 _ 0) (RFc_sR (fun z => (hq.2.resolve_right (fun w => w (by decide))) (congrArg Prod.fst ((hB.d16 b hq.1 0 (by decide)).symm.trans ((congrArg B z).trans owx))))) (fun _ _ _ _ => (cVt_sR _ _ _ _ 9 _ 0)))) (fun hq => (vDs_c 16 1 (cVt_sR _ _ _ _ 2 _ 16) (cVt_sR _ _ _ _ 1 _ 1) (IFc_sR _ _ _ _ _))) (fun hq => (vDs_c 16 2 (cVt_sR _ _ _ _ 2 _ 16) (cVt_sR _ _ _ _ 1 _ 2) (IFc_sR _ _ _ _ _))) (fun hq => (vDs_c 17 1 (cVt_sR _ _ _ _ 2 _ 17) (cVt_sR _ _ _ _ 1 _ 1) (IFc_sR _ _ _ _ _))) (fun hq => (vDs_c 17 2 (cVt_sR _ _ _ _ 2 _ 17) (cVt_sR _ _ _ _ 1 _ 2) (IFc_sR _ _ _ _ _))) (fun hq => (vUn_c (cVt_sR _ _ _ _ 2 _ 18) (cVt_sR _ _ _ _ 10 _ 0) (IFc_sR _ _ _ _ _))) (fun hq => (vLe_c (cVt_sR _ _ _ _ 2 _ 6) (IFc_sR _ _ _ _ _))) (fun hq => (vHe_c (cVt_sR _ _ _ _ 2 _ 7) (RFc_sR (kb.2.2.1.neT ix (by decide))) (fun _ _ _ _ => (cVt_sR _ _ _ _ 9 _ 0)))) (fun hq => (vEt_c (cVt_sR _ _ _ _ 2 _ 12) (RFc_sR (kb.2.2.2.2.2.1.neT ix (by decide))) (fun i9 l9 hi9 hl9 => ⟨(cVt_sR _ _ _ _ 3 _ 1), (IFc_sR _ _ _ _ _)⟩))) (fun _ => fun _ => rfl) j hq
  have xs : ∀ b, isk K L b 2 0 → cfx (sR M x i o) b = cfx M b := fun b hb => by
    have kb9 := KH hW hb
    exact funext fun j => xf_cases (fun j f => f (sR M x i o) b = f M b) (congrArg Int32.toInt (cV_c (cVt_sR _ _ _ _ 2 _ 1))) (congrArg Int32.toInt (cV_c (cVt_sR _ _ _ _ 2 _ 2))) (congrArg Int32.toInt (cV_c (cVt_sR _ _ _ _ 2 _ 9))) (congrArg Int32.toInt (cV_c (cVt_sR _ _ _ _ 2 _ 11))) (congrArg Int32.toInt (cV_c (cVt_sR _ _ _ _ 2 _ 4))) (congrArg Int32.toInt (cV_c (cVt_sR _ _ _ _ 2 _ 5))) (congrArg Int32.toInt (cV_c (cVt_sR _ _ _ _ 2 _ 15))) (congrArg Int32.toInt (cV_c (cVt_sR _ _ _ _ 2 _ 0))) (x1_c 16 (cVt_sR _ _ _ _ 2 _ 16) (cVt_sR _ _ _ _ 1 _ 3)) (x1_c 17 (cVt_sR _ _ _ _ 2 _ 17) (cVt_sR _ _ _ _ 1 _ 3)) (x10_c 2 (cVt_sR _ _ _ _ 2 _ 18) (cVt_sR _ _ _ _ 10 _ 2)) (x10_c 1 (cVt_sR _ _ _ _ 2 _ 18) (cVt_sR _ _ _ _ 10 _ 1)) (fun j => (lf_c (vLo_c 12 (cVt_sR _ _ _ _ 2 _ 8) (RFc_sR (kb9.2.2.2.1.neT ix (by decide))) (fun _ _ _ _ => (cVt_sR _ _ _ _ 9 _ 12))) j)) j
  have hO : OC B K L (sR M x i o) := hB.c (fun b hb j hj => cVt_sR _ _ _ _ _ _ _) (fun b hb j hj => ⟨cVt_sR _ _ _ _ _ _ _, cVt_sR _ _ _ _ _ _ _⟩) (fun b hb => cVt_sR _ _ _ _ _ _ _) (fun b hb i l hi hl => cVt_sR _ _ _ _ _ _ _) (fun b hb => by
    have kb := KH hW hb
    obtain ⟨n6, q60, q61, q62⟩ := KD hW kb.2.2.2.2.2.2.1
    obtain ⟨n7, q70, q71, q72⟩ := KD hW kb.2.2.2.2.2.2.2.1
    have ku := KU hW kb.2.2.2.2.2.2.2.2
    exact RFc_sR (kb.2.2.2.2.2.1.neT ix (by decide))) (fun b hb => by
    have kb := KH hW hb
    obtain ⟨n6, q60, q61, q62⟩ := KD hW kb.2.2.2.2.2.2.1
    obtain ⟨n7, q70, q71, q72⟩ := KD hW kb.2.2.2.2.2.2.2.1
    have ku := KU hW kb.2.2.2.2.2.2.2.2
    exact RFc_sR (kb.2.2.2.1.neT ix (by decide))) (fun b hb => by
    have kb := KH hW hb
    obtain ⟨n6, q60, q61, q62⟩ := KD hW kb.2.2.2.2.2.2.1
    obtain ⟨n7, q70, q71, q72⟩ := KD hW kb.2.2.2.2.2.2.2.1
    have ku := KU hW kb.2.2.2.2.2.2.2.2
    exact RFc_sR (kb.2.2.2.2.1.neT ix (by decide))) (fun b hb i l hi hl => cVt_sR _ _ _ _ _ _ _) (fun b hb => by
    have kb := KH hW hb
    obtain ⟨n6, q60, q61, q62⟩ := KD hW kb.2.2.2.2.2.2.1
    obtain ⟨n7, q70, q71, q72⟩ := KD hW kb.2.2.2.2.2.2.2.1
    have ku := KU hW kb.2.2.2.2.2.2.2.2
    exact RFc_sR (kb.2.2.1.neT ix (by decide))) (fun b hb i l hi hl => cVt_sR _ _ _ _ _ _ _)
  have row38 : cax (sR M x i o) a 38 = upd (cax M a 38) i (hrN M o) := by
    funext i9
    show vMo (sR M x i o) a i9 = upd (vMo M a) i (hrN M o) i9
    by_cases z : i9 = i
    · subst z
      rw [upd_self]
      unfold vMo
      rw [if_pos hi, rA_c (cVt_sR _ _ _ _ 2 _ 16), rA_c (cVt_sR _ _ _ _ 1 _ 0), hs, RFc_sR_self hx, va_up_self]
      cases o with
      | none => rfl
      | some t => exact cV_c (cVt_sR _ _ _ _ 9 _ 0)
    · rw [upd_ne _ _ z]
      unfold vMo
      rw [rA_c (cVt_sR _ _ _ _ 2 _ 16), rA_c (cVt_sR _ _ _ _ 1 _ 0), hs, RFc_sR_self hx, va_up_ne _ _ z]
      by_cases q : i9 < 120
      · rw [if_pos q, if_pos q]
        cases e : RFc (M x) i9 with
        | none => rfl
        | some l => exact cV_c (cVt_sR _ _ _ _ 9 _ 0)
      · rw [if_neg q, if_neg q]
  refine ⟨fun b hb q => ⟨(xs b hb).trans (h1 b hb q).1, (funext fun j => rows b j ⟨hb, Or.inl q⟩).trans (h1 b hb q).2⟩, (xs a ha).trans h2, ?_, hO⟩
  rw [← h3]
  exact cax_up 38 (fun j hj => rows a j ⟨ha, Or.inr (by simp only [List.mem_singleton]; exact hj)⟩) row38
theorem VC.r_me {cy : Nat → ClassId} {B : Nat → Nat × Nat} {K : Kp} {L : List Nat} {M0 M : Hp} {a x i n : Nat} {X : Nat → Int} {Y : Nat → Nat → Int32} {c : ClassId} {g : Nat → Option Nat} {o : Option Nat} (h : VC B K L M0 M a X Y) (hW : WOK cy K L M) (ha : isk K L a 2 0) (hs : rA 1 M (rA 2 M a 17) 0 = x) (hx : M x = .inl (c, n, .inr (.inr (.inr (.inr g))))) : VC B K L M0 (sR M x i o) a X Y := by
  obtain ⟨h1, h2, h3, hB⟩ := h
  have owx : B x = (a, 1) := by
    rw [← hs]
    exact hB.d17 a ha 0 (by decide)
  obtain ⟨nx, ix⟩ : ∃ nx, isk K L x 63 nx := by
    rw [← hs]
    have kb := KH hW ha
    obtain ⟨n6, q60, q61, q62⟩ := KD hW kb.2.2.2.2.2.2.1
    obtain ⟨n7, q70, q71, q72⟩ := KD hW kb.2.2.2.2.2.2.2.1
    have ku := KU hW kb.2.2.2.2.2.2.2.2
    exact ⟨_, q70⟩
  have rows : ∀ b j, (isk K L b 2 0 ∧ (b ≠ a ∨ ¬ j ∈ ([] : List Nat))) → cax (sR M x i o) b j = cax M b j := fun b j hq => by
    have kb := KH hW hq.1
    obtain ⟨n6, q60, q61, q62⟩ := KD hW kb.2.2.2.2.2.2.1
    obtain ⟨n7, q70, q71, q72⟩ := KD hW kb.2.2.2.2.2.2.2.1
    have ku := KU hW kb.2.2.2.2.2.2.2.2
    exact rowf_cases (fun j f => (isk K L b 2 0 ∧ (b ≠ a ∨ ¬ j ∈ ([] : List Nat))) → f (sR M x i o) b = f M b) (fun hq => (vPl_c (cVt_sR _ _ _ _ 2 _ 12) (RFc_sR (kb.2.2.2.2.2.1.neT ix (by decide))) (fun _ _ _ _ => ⟨(cVt_sR _ _ _ _ 3 _ 1), (ALc_sR _ _ _ _ _)⟩))) (fun hq => (vLf_c 2 (cVt_sR _ _ _ _ 2 _ 12) (RFc_sR (kb.2.2.2.2.2.1.neT ix (by decide))) (fun _ _ _ _ => (cVt_sR _ _ _ _ 3 _ 2)))) (fun hq => (vLf_c 0 (cVt_sR _ _ _ _ 2 _ 12) (RFc_sR (kb.2.2.2.2.2.1.neT ix (by decide))) (fun _ _ _ _ => (cVt_sR _ _ _ _ 3 _ 0)))) (fun hq => (vWho_c (cVt_sR _ _ _ _ 2 _ 8) (RFc_sR (kb.2.2.2.1.neT ix (by decide))) (fun _ _ _ _ => ⟨(cVt_sR _ _ _ _ 9 _ 1), (cVt_sR _ _ _ _ 4 _ 0)⟩))) (fun hq => (vTe_c 2 (cVt_sR _ _ _ _ 2 _ 8) (RFc_sR (kb.2.2.2.1.neT ix (by decide))) (fun _ _ _ _ => (cVt_sR _ _ _ _ 9 _ 2)))) (fun hq => (vTe_c 3 (cVt_sR _ _ _ _ 2 _ 8) (RFc_sR (kb.2.2.2.1.neT ix (by decide))) (fun _ _ _ _ => (cVt_sR _ _ _ _ 9 _ 3)))) (fun hq => (vTe_c 5 (cVt_sR _ _ _ _ 2 _ 8) (RFc_sR (kb.2.2.2.1.neT ix (by decide))) (fun _ _ _ _ => (cVt_sR _ _ _ _ 9 _ 5)))) (fun hq => (vTe_c 6 (cVt_sR _ _ _ _ 2 _ 8) (RFc_sR (kb.2.2.2.1.neT ix (by decide))) (fun _ _ _ _ => (cVt_sR _ _ _ _ 9 _ 6)))) (fun hq => (vTe_c 7 (cVt_sR _ _ _ _ 2 _ 8) (RFc_sR (kb.2.2.2.1.neT ix (by decide))) (fun _ _ _ _ => (cVt_sR _ _ _ _ 9 _ 7)))) (fun hq => (vKd_c (cVt_sR _ _ _ _ 2 _ 8) (RFc_sR (kb.2.2.2.1.neT ix (by decide))) (fun _ _ _ _ => ⟨(cVt_sR _ _ _ _ 9 _ 1), (cVt_sR _ _ _ _ 4 _ 1)⟩))) (fun hq => (vHr_c (cVt_sR _ _ _ _ 2 _ 8) (RFc_sR (kb.2.2.2.1.neT ix (by decide))) (fun _ _ _ _ => ⟨(cVt_sR _ _ _ _ 9 _ 8), fun _ _ => (cVt_sR _ _ _ _ 9 _ 0)⟩))) (fun hq => (vTe_c 4 (cVt_sR _ _ _ _ 2 _ 8) (RFc_sR (kb.2.2.2.1.neT ix (by decide))) (fun _ _ _ _ => (cVt_sR _ _ _ _ 9 _ 4)))) (fun hq => (vOw_c (cVt_sR _ _ _ _ 2 _ 8) (RFc_sR (kb.2.2.2.1.neT ix (by decide))) (fun _ _ _ _ => ⟨(cVt_sR _ _ _ _ 9 _ 1), (cVt_sR _ _ _ _ 4 _ 3), fun _ _ => (cVt_sR _ _ _ _ 2 _ 0)⟩))) (fun hq => (vTn_c (cVt_sR _ _ _ _ 2 _ 8) (RFc_sR (kb.2.2.2.1.neT ix (by decide))))) (fun hq => (vRn_c (cVt_sR _ _ _ _ 2 _ 10) (RFc_sR (kb.2.2.2.2.1.neT ix (by decide))))) (fun hq => (vRu_c 0 (cVt_sR _ _ _ _ 2 _ 10) (RFc_sR (kb.2.2.2.2.1.neT ix (by decide))) (fun _ _ _ _ => (cVt_sR _ _ _ _ 6 _ 0)))) (fun hq => (vRu_c 1 (cVt_sR _ _ _ _ 2 _ 10) (RFc_sR (kb.2.2.2.2.1.neT ix (by decide))) (fun _ _ _ _ => (cVt_sR _ _ _ _ 6 _ 1)))) (fun hq => (vTm_c (cVt_sR _ _ _ _ 2 _ 10) (RFc_sR (kb.2.2.2.2.1.neT ix (by decide))) (fun i9 l9 hi9 hl9 => ⟨(cVt_sR _ _ _ _ 6 _ 2), (IFc_sR _ _ _ _ _)⟩))) (fun hq => (vEn_c (cVt_sR _ _ _ _ 2 _ 3) (IFc_sR _ _ _ _ _))) (fun hq => (vMo_c (cVt_sR _ _ _ _ 2 _ 16) (cVt_sR _ _ _ _ 1 _ 0) (RFc_sR (fun z => absurd (congrArg Prod.snd ((hB.d16 b hq.1 0 (by decide)).symm.trans ((congrArg B z).trans owx))) (show ¬ (0 : Nat) = 1 by decide))) (fun _ _ _ _ => (cVt_sR _ _ _ _ 9 _ 0)))) (fun hq => (vDs_c 16 1 (cVt_sR _ _ _ _ 2 _ 16) (cVt_sR _ _ _ _ 1 _ 1) (IFc_sR _ _ _ _ _))) (fun hq => (vDs_c 16 2 (cVt_sR _ _ _ _ 2 _ 16) (cVt_sR _ _ _ _ 1 _ 2) (IFc_sR _ _ _ _ _))) (fun hq => (vDs_c 17 1 (cVt_sR _ _ _ _ 2 _ 17) (cVt_sR _ _ _ _ 1 _ 1) (IFc_sR _ _ _ _ _))) (fun hq => (vDs_c 17 2 (cVt_sR _ _ _ _ 2 _ 17) (cVt_sR _ _ _ _ 1 _ 2) (IFc_sR _ _ _ _ _))) (fun hq => (vUn_c (cVt_sR _ _ _ _ 2 _ 18) (cVt_sR _ _ _ _ 10 _ 0) (IFc_sR _ _ _ _ _))) (fun hq => (vLe_c (cVt_sR _ _ _ _ 2 _ 6) (IFc_sR _ _ _ _ _))) (fun hq => (vHe_c (cVt_sR _ _ _ _ 2 _ 7) (RFc_sR (kb.2.2.1.neT ix (by decide))) (fun _ _ _ _ => (cVt_sR _ _ _ _ 9 _ 0)))) (fun hq => (vEt_c (cVt_sR _ _ _ _ 2 _ 12) (RFc_sR (kb.2.2.2.2.2.1.neT ix (by decide))) (fun i9 l9 hi9 hl9 => ⟨(cVt_sR _ _ _ _ 3 _ 1), (IFc_sR _ _ _ _ _)⟩))) (fun _ => fun _ => rfl) j hq
  have xs : ∀ b, isk K L b 2 0 → cfx (sR M x i o) b = cfx M b := fun b hb => by
    have kb9 := KH hW hb
    exact funext fun j => xf_cases (fun j f => f (sR M x i o) b = f M b) (congrArg Int32.toInt (cV_c (cVt_sR _ _ _ _ 2 _ 1))) (congrArg Int32.toInt (cV_c (cVt_sR _ _ _ _ 2 _ 2))) (congrArg Int32.toInt (cV_c (cVt_sR _ _ _ _ 2 _ 9))) (congrArg Int32.toInt (cV_c (cVt_sR _ _ _ _ 2 _ 11))) (congrArg Int32.toInt (cV_c (cVt_sR _ _ _ _ 2 _ 4))) (congrArg Int32.toInt (cV_c (cVt_sR _ _ _ _ 2 _ 5))) (congrArg Int32.toInt (cV_c (cVt_sR _ _ _ _ 2 _ 15))) (congrArg Int32.toInt (cV_c (cVt_sR _ _ _ _ 2 _ 0))) (x1_c 16 (cVt_sR _ _ _ _ 2 _ 16) (cVt_sR _ _ _ _ 1 _ 3)) (x1_c 17 (cVt_sR _ _ _ _ 2 _ 17) (cVt_sR _ _ _ _ 1 _ 3)) (x10_c 2 (cVt_sR _ _ _ _ 2 _ 18) (cVt_sR _ _ _ _ 10 _ 2)) (x10_c 1 (cVt_sR _ _ _ _ 2 _ 18) (cVt_sR _ _ _ _ 10 _ 1)) (fun j => (lf_c (vLo_c 12 (cVt_sR _ _ _ _ 2 _ 8) (RFc_sR (kb9.2.2.2.1.neT ix (by decide))) (fun _ _ _ _ => (cVt_sR _ _ _ _ 9 _ 12))) j)) j
  have hO : OC B K L (sR M x i o) := hB.c (fun b hb j hj => cVt_sR _ _ _ _ _ _ _) (fun b hb j hj => ⟨cVt_sR _ _ _ _ _ _ _, cVt_sR _ _ _ _ _ _ _⟩) (fun b hb => cVt_sR _ _ _ _ _ _ _) (fun b hb i l hi hl => cVt_sR _ _ _ _ _ _ _) (fun b hb => by
    have kb := KH hW hb
    obtain ⟨n6, q60, q61, q62⟩ := KD hW kb.2.2.2.2.2.2.1
    obtain ⟨n7, q70, q71, q72⟩ := KD hW kb.2.2.2.2.2.2.2.1
    have ku := KU hW kb.2.2.2.2.2.2.2.2
    exact RFc_sR (kb.2.2.2.2.2.1.neT ix (by decide))) (fun b hb => by
    have kb := KH hW hb
    obtain ⟨n6, q60, q61, q62⟩ := KD hW kb.2.2.2.2.2.2.1
    obtain ⟨n7, q70, q71, q72⟩ := KD hW kb.2.2.2.2.2.2.2.1
    have ku := KU hW kb.2.2.2.2.2.2.2.2
    exact RFc_sR (kb.2.2.2.1.neT ix (by decide))) (fun b hb => by
    have kb := KH hW hb
    obtain ⟨n6, q60, q61, q62⟩ := KD hW kb.2.2.2.2.2.2.1
    obtain ⟨n7, q70, q71, q72⟩ := KD hW kb.2.2.2.2.2.2.2.1
    have ku := KU hW kb.2.2.2.2.2.2.2.2
    exact RFc_sR (kb.2.2.2.2.1.neT ix (by decide))) (fun b hb i l hi hl => cVt_sR _ _ _ _ _ _ _) (fun b hb => by
    have kb := KH hW hb
    obtain ⟨n6, q60, q61, q62⟩ := KD hW kb.2.2.2.2.2.2.1
    obtain ⟨n7, q70, q71, q72⟩ := KD hW kb.2.2.2.2.2.2.2.1
    have ku := KU hW kb.2.2.2.2.2.2.2.2
    exact RFc_sR (kb.2.2.1.neT ix (by decide))) (fun b hb i l hi hl => cVt_sR _ _ _ _ _ _ _)
  refine ⟨fun b hb q => ⟨(xs b hb).trans (h1 b hb q).1, (funext fun j => rows b j ⟨hb, Or.inl q⟩).trans (h1 b hb q).2⟩, (xs a ha).trans h2, ?_, hO⟩
  rw [← h3]
  exact funext fun j => rows a j ⟨ha, Or.inr (by simp)⟩
theorem VC.r_lv {cy : Nat → ClassId} {B : Nat → Nat × Nat} {K : Kp} {L : List Nat} {M0 M : Hp} {a x i n : Nat} {X : Nat → Int} {Y : Nat → Nat → Int32} {c : ClassId} {g : Nat → Option Nat} {o : Option Nat} (h : VC B K L M0 M a X Y) (hW : WOK cy K L M) (ha : isk K L a 2 0) (hi : i < 1000) (hs : rA 2 M a 12 = x) (hx : M x = .inl (c, n, .inr (.inr (.inr (.inr g))))) (ho : ∀ q, o = some q → B q = (a, i) ∧ B (rA 3 M q 1) = (a, i)) : VC B K L M0 (sR M x i o) a X (va_up (va_up (va_up (va_up Y 2 (upd (Y 2) i (plN M o))) 3 (upd (Y 3) i (lfN 2 M o))) 4 (upd (Y 4) i (lfN 0 M o))) 60 (fun z => if z % 1000 = i then etN M o (z / 1000) else Y 60 z)) := by
  obtain ⟨h1, h2, h3, hB⟩ := h
  have owx : B x = (a, 0) := by
    rw [← hs]
    exact hB.e0 a ha 12 (by decide)
  obtain ⟨nx, ix⟩ : ∃ nx, isk K L x 18 nx := by
    rw [← hs]
    have kb := KH hW ha
    obtain ⟨n6, q60, q61, q62⟩ := KD hW kb.2.2.2.2.2.2.1
    obtain ⟨n7, q70, q71, q72⟩ := KD hW kb.2.2.2.2.2.2.2.1
    have ku := KU hW kb.2.2.2.2.2.2.2.2
    exact ⟨_, kb.2.2.2.2.2.1⟩
  have rows : ∀ b j, (isk K L b 2 0 ∧ (b ≠ a ∨ ¬ j ∈ ([2, 3, 4, 60] : List Nat))) → cax (sR M x i o) b j = cax M b j := fun b j hq => by
    have kb := KH hW hq.1
    obtain ⟨n6, q60, q61, q62⟩ := KD hW kb.2.2.2.2.2.2.1
    obtain ⟨n7, q70, q71, q72⟩ := KD hW kb.2.2.2.2.2.2.2.1
    have ku := KU hW kb.2.2.2.2.2.2.2.2
    exact rowf_cases (fun j f => (isk K L b 2 0 ∧ (b ≠ a ∨ ¬ j ∈ ([2, 3, 4, 60] : List Nat))) → f (sR M x i o) b = f M b) (fun hq => (vPl_c (cVt_sR _ _ _ _ 2 _ 12) (RFc_sR (fun z => (hq.2.resolve_right (fun w => w (by decide))) (congrArg Prod.fst ((hB.e0 b hq.1 12 (by decide)).symm.trans ((congrArg B z).trans owx))))) (fun _ _ _ _ => ⟨(cVt_sR _ _ _ _ 3 _ 1), (ALc_sR _ _ _ _ _)⟩))) (fun hq => (vLf_c 2 (cVt_sR _ _ _ _ 2 _ 12) (RFc_sR (fun z => (hq.2.resolve_right (fun w => w (by decide))) (congrArg Prod.fst ((hB.e0 b hq.1 12 (by decide)).symm.trans ((congrArg B z).trans owx))))) (fun _ _ _ _ => (cVt_sR _ _ _ _ 3 _ 2)))) (fun hq => (vLf_c 0 (cVt_sR _ _ _ _ 2 _ 12) (RFc_sR (fun z => (hq.2.resolve_right (fun w => w (by decide))) (congrArg Prod.fst ((hB.e0 b hq.1 12 (by decide)).symm.trans ((congrArg B z).trans owx))))) (fun _ _ _ _ => (cVt_sR _ _ _ _ 3 _ 0)))) (fun hq => (vWho_c (cVt_sR _ _ _ _ 2 _ 8) (RFc_sR (kb.2.2.2.1.neT ix (by decide))) (fun _ _ _ _ => ⟨(cVt_sR _ _ _ _ 9 _ 1), (cVt_sR _ _ _ _ 4 _ 0)⟩))) (fun hq => (vTe_c 2 (cVt_sR _ _ _ _ 2 _ 8) (RFc_sR (kb.2.2.2.1.neT ix (by decide))) (fun _ _ _ _ => (cVt_sR _ _ _ _ 9 _ 2)))) (fun hq => (vTe_c 3 (cVt_sR _ _ _ _ 2 _ 8) (RFc_sR (kb.2.2.2.1.neT ix (by decide))) (fun _ _ _ _ => (cVt_sR _ _ _ _ 9 _ 3)))) (fun hq => (vTe_c 5 (cVt_sR _ _ _ _ 2 _ 8) (RFc_sR (kb.2.2.2.1.neT ix (by decide))) (fun _ _ _ _ => (cVt_sR _ _ _ _ 9 _ 5)))) (fun hq => (vTe_c 6 (cVt_sR _ _ _ _ 2 _ 8) (RFc_sR (kb.2.2.2.1.neT ix (by decide))) (fun _ _ _ _ => (cVt_sR _ _ _ _ 9 _ 6)))) (fun hq => (vTe_c 7 (cVt_sR _ _ _ _ 2 _ 8) (RFc_sR (kb.2.2.2.1.neT ix (by decide))) (fun _ _ _ _ => (cVt_sR _ _ _ _ 9 _ 7)))) (fun hq => (vKd_c (cVt_sR _ _ _ _ 2 _ 8) (RFc_sR (kb.2.2.2.1.neT ix (by decide))) (fun _ _ _ _ => ⟨(cVt_sR _ _ _ _ 9 _ 1), (cVt_sR _ _ _ _ 4 _ 1)⟩))) (fun hq => (vHr_c (cVt_sR _ _ _ _ 2 _ 8) (RFc_sR (kb.2.2.2.1.neT ix (by decide))) (fun _ _ _ _ => ⟨(cVt_sR _ _ _ _ 9 _ 8), fun _ _ => (cVt_sR _ _ _ _ 9 _ 0)⟩))) (fun hq => (vTe_c 4 (cVt_sR _ _ _ _ 2 _ 8) (RFc_sR (kb.2.2.2.1.neT ix (by decide))) (fun _ _ _ _ => (cVt_sR _ _ _ _ 9 _ 4)))) (fun hq => (vOw_c (cVt_sR _ _ _ _ 2 _ 8) (RFc_sR (kb.2.2.2.1.neT ix (by decide))) (fun _ _ _ _ => ⟨(cVt_sR _ _ _ _ 9 _ 1), (cVt_sR _ _ _ _ 4 _ 3), fun _ _ => (cVt_sR _ _ _ _ 2 _ 0)⟩))) (fun hq => (vTn_c (cVt_sR _ _ _ _ 2 _ 8) (RFc_sR (kb.2.2.2.1.neT ix (by decide))))) (fun hq => (vRn_c (cVt_sR _ _ _ _ 2 _ 10) (RFc_sR (kb.2.2.2.2.1.neT ix (by decide))))) (fun hq => (vRu_c 0 (cVt_sR _ _ _ _ 2 _ 10) (RFc_sR (kb.2.2.2.2.1.neT ix (by decide))) (fun _ _ _ _ => (cVt_sR _ _ _ _ 6 _ 0)))) (fun hq => (vRu_c 1 (cVt_sR _ _ _ _ 2 _ 10) (RFc_sR (kb.2.2.2.2.1.neT ix (by decide))) (fun _ _ _ _ => (cVt_sR _ _ _ _ 6 _ 1)))) (fun hq => (vTm_c (cVt_sR _ _ _ _ 2 _ 10) (RFc_sR (kb.2.2.2.2.1.neT ix (by decide))) (fun i9 l9 hi9 hl9 => ⟨(cVt_sR _ _ _ _ 6 _ 2), (IFc_sR _ _ _ _ _)⟩))) (fun hq => (vEn_c (cVt_sR _ _ _ _ 2 _ 3) (IFc_sR _ _ _ _ _))) (fun hq => (vMo_c (cVt_sR _ _ _ _ 2 _ 16) (cVt_sR _ _ _ _ 1 _ 0) (RFc_sR (q60.neT ix (by decide))) (fun _ _ _ _ => (cVt_sR _ _ _ _ 9 _ 0)))) (fun hq => (vDs_c 16 1 (cVt_sR _ _ _ _ 2 _ 16) (cVt_sR _ _ _ _ 1 _ 1) (IFc_sR _ _ _ _ _))) (fun hq => (vDs_c 16 2 (cVt_sR _ _ _ _ 2 _ 16) (cVt_sR _ _ _ _ 1 _ 2) (IFc_sR _ _ _ _ _))) (fun hq => (vDs_c 17 1 (cVt_sR _ _ _ _ 2 _ 17) (cVt_sR _ _ _ _ 1 _ 1) (IFc_sR _ _ _ _ _))) (fun hq => (vDs_c 17 2 (cVt_sR _ _ _ _ 2 _ 17) (cVt_sR _ _ _ _ 1 _ 2) (IFc_sR _ _ _ _ _))) (fun hq => (vUn_c (cVt_sR _ _ _ _ 2 _ 18) (cVt_sR _ _ _ _ 10 _ 0) (IFc_sR _ _ _ _ _))) (fun hq => (vLe_c (cVt_sR _ _ _ _ 2 _ 6) (IFc_sR _ _ _ _ _))) (fun hq => (vHe_c (cVt_sR _ _ _ _ 2 _ 7) (RFc_sR (kb.2.2.1.neT ix (by decide))) (fun _ _ _ _ => (cVt_sR _ _ _ _ 9 _ 0)))) (fun hq => (vEt_c (cVt_sR _ _ _ _ 2 _ 12) (RFc_sR (fun z => (hq.2.resolve_right (fun w => w (by decide))) (congrArg Prod.fst ((hB.e0 b hq.1 12 (by decide)).symm.trans ((congrArg B z).trans owx))))) (fun i9 l9 hi9 hl9 => ⟨(cVt_sR _ _ _ _ 3 _ 1), (IFc_sR _ _ _ _ _)⟩))) (fun _ => fun _ => rfl) j hq
  have xs : ∀ b, isk K L b 2 0 → cfx (sR M x i o) b = cfx M b := fun b hb => by
    have kb9 := KH hW hb
    exact funext fun j => xf_cases (fun j f => f (sR M x i o) b = f M b) (congrArg Int32.toInt (cV_c (cVt_sR _ _ _ _ 2 _ 1))) (congrArg Int32.toInt (cV_c (cVt_sR _ _ _ _ 2 _ 2))) (congrArg Int32.toInt (cV_c (cVt_sR _ _ _ _ 2 _ 9))) (congrArg Int32.toInt (cV_c (cVt_sR _ _ _ _ 2 _ 11))) (congrArg Int32.toInt (cV_c (cVt_sR _ _ _ _ 2 _ 4))) (congrArg Int32.toInt (cV_c (cVt_sR _ _ _ _ 2 _ 5))) (congrArg Int32.toInt (cV_c (cVt_sR _ _ _ _ 2 _ 15))) (congrArg Int32.toInt (cV_c (cVt_sR _ _ _ _ 2 _ 0))) (x1_c 16 (cVt_sR _ _ _ _ 2 _ 16) (cVt_sR _ _ _ _ 1 _ 3)) (x1_c 17 (cVt_sR _ _ _ _ 2 _ 17) (cVt_sR _ _ _ _ 1 _ 3)) (x10_c 2 (cVt_sR _ _ _ _ 2 _ 18) (cVt_sR _ _ _ _ 10 _ 2)) (x10_c 1 (cVt_sR _ _ _ _ 2 _ 18) (cVt_sR _ _ _ _ 10 _ 1)) (fun j => (lf_c (vLo_c 12 (cVt_sR _ _ _ _ 2 _ 8) (RFc_sR (kb9.2.2.2.1.neT ix (by decide))) (fun _ _ _ _ => (cVt_sR _ _ _ _ 9 _ 12))) j)) j
  have hO : OC B K L (sR M x i o) := by
    refine ⟨fun b hb j hj => ?_, fun b hb => ?_, fun b hb j hj => ?_, fun b hb j hj => ?_, fun b hb => ?_, fun b hb i9 l hi9 hl => ?_, fun b hb i9 l hi9 hl => ?_, fun b hb i9 l hi9 hl => ?_, fun b hb i9 l hi9 hl => ?_, fun b hb i9 l hi9 hl => ?_, fun b hb => ?_, fun b hb => ?_⟩
    · rw [rA_c (cVt_sR _ _ _ _ _ _ _)]
      exact hB.e0 b hb j hj
    · rw [rA_c (cVt_sR _ _ _ _ _ _ _)]
      exact hB.e17 b hb
    · rw [rA_c (cVt_sR _ _ _ _ _ _ _), rA_c (cVt_sR _ _ _ _ _ _ _)]
      exact hB.d16 b hb j hj
    · rw [rA_c (cVt_sR _ _ _ _ _ _ _), rA_c (cVt_sR _ _ _ _ _ _ _)]
      exact hB.d17 b hb j hj
    · rw [rA_c (cVt_sR _ _ _ _ _ _ _), rA_c (cVt_sR _ _ _ _ _ _ _)]
      exact hB.un b hb
    · rw [rA_c (cVt_sR _ _ _ _ _ _ _)] at hl
      rw [rA_c (cVt_sR _ _ _ _ _ _ _)]
      by_cases z : rA 2 M b 12 = x
      · rw [z, RFc_sR_self hx] at hl
        have eb : b = a := congrArg Prod.fst ((hB.e0 b hb 12 (by decide)).symm.trans ((congrArg B z).trans owx))
        by_cases y : i9 = i
        · subst y
          rw [va_up_self] at hl
          rw [eb]
          exact ho l hl
        · rw [va_up_ne _ _ y, ← z] at hl
          exact hB.lf b hb i9 l hi9 hl
      · rw [RFc_sR z] at hl
        exact hB.lf b hb i9 l hi9 hl
    · rw [rA_c (cVt_sR _ _ _ _ _ _ _), RFc_sR (by
        have kb := KH hW hb
        obtain ⟨n6, q60, q61, q62⟩ := KD hW kb.2.2.2.2.2.2.1
        obtain ⟨n7, q70, q71, q72⟩ := KD hW kb.2.2.2.2.2.2.2.1
        have ku := KU hW kb.2.2.2.2.2.2.2.2
        exact kb.2.2.2.1.neT ix (by decide))] at hl
      exact hB.te b hb i9 l hi9 hl
    · rw [rA_c (cVt_sR _ _ _ _ _ _ _), RFc_sR (by
        have kb := KH hW hb
        obtain ⟨n6, q60, q61, q62⟩ := KD hW kb.2.2.2.2.2.2.1
        obtain ⟨n7, q70, q71, q72⟩ := KD hW kb.2.2.2.2.2.2.2.1
        have ku := KU hW kb.2.2.2.2.2.2.2.2
        exact kb.2.2.2.2.1.neT ix (by decide))] at hl
      rw [rA_c (cVt_sR _ _ _ _ _ _ _)]
      exact hB.ru b hb i9 l hi9 hl
    · rw [rA_c (cVt_sR _ _ _ _ _ _ _), RFc_sR (by
        have kb := KH hW hb
        obtain ⟨n6, q60, q61, q62⟩ := KD hW kb.2.2.2.2.2.2.1
        obtain ⟨n7, q70, q71, q72⟩ := KD hW kb.2.2.2.2.2.2.2.1
        have ku := KU hW kb.2.2.2.2.2.2.2.2
        exact kb.2.2.2.1.neT ix (by decide))] at hl
      rw [cV_c (cVt_sR _ _ _ _ _ _ _)]
      exact hB.nm b hb i9 l hi9 hl
    · rw [rA_c (cVt_sR _ _ _ _ _ _ _), RFc_sR (by
        have kb := KH hW hb
        obtain ⟨n6, q60, q61, q62⟩ := KD hW kb.2.2.2.2.2.2.1
        obtain ⟨n7, q70, q71, q72⟩ := KD hW kb.2.2.2.2.2.2.2.1
        have ku := KU hW kb.2.2.2.2.2.2.2.2
        exact kb.2.2.1.neT ix (by decide))] at hl
      rw [rA_c (cVt_sR _ _ _ _ _ _ _), RFc_sR (by
        have kb := KH hW hb
        obtain ⟨n6, q60, q61, q62⟩ := KD hW kb.2.2.2.2.2.2.1
        obtain ⟨n7, q70, q71, q72⟩ := KD hW kb.2.2.2.2.2.2.2.1
        have ku := KU hW kb.2.2.2.2.2.2.2.2
        exact kb.2.2.2.1.neT ix (by decide))]
      exact hB.hd b hb i9 l hi9 hl
    · rw [rA_c (cVt_sR _ _ _ _ _ _ _), rA_c (cVt_sR _ _ _ _ _ _ _)]
      exact hB.n16 b hb
    · rw [rA_c (cVt_sR _ _ _ _ _ _ _), rA_c (cVt_sR _ _ _ _ _ _ _)]
      exact hB.n17 b hb
  have row2 : cax (sR M x i o) a 2 = upd (cax M a 2) i (plN M o) := by
    funext i9
    show vPl (sR M x i o) a i9 = upd (vPl M a) i (plN M o) i9
    by_cases z : i9 = i
    · subst z
      rw [upd_self]
      unfold vPl
      rw [if_pos hi, rA_c (cVt_sR _ _ _ _ 2 _ 12), hs, RFc_sR_self hx, va_up_self]
      cases o with
      | none => rfl
      | some t => exact congrArg nI (by rw [rA_c (cVt_sR _ _ _ _ 3 _ 1)]; exact ALc_sR _ _ _ _ _)
    · rw [upd_ne _ _ z]
      unfold vPl
      rw [rA_c (cVt_sR _ _ _ _ 2 _ 12), hs, RFc_sR_self hx, va_up_ne _ _ z]
      by_cases q : i9 < 1000
      · rw [if_pos q, if_pos q]
        cases e : RFc (M x) i9 with
        | none => rfl
        | some l => exact congrArg nI (by rw [rA_c (cVt_sR _ _ _ _ 3 _ 1)]; exact ALc_sR _ _ _ _ _)
      · rw [if_neg q, if_neg q]
  have row3 : cax (sR M x i o) a 3 = upd (cax M a 3) i (lfN 2 M o) := by
    funext i9
    show vLf 2 (sR M x i o) a i9 = upd (vLf 2 M a) i (lfN 2 M o) i9
    by_cases z : i9 = i
    · subst z
      rw [upd_self]
      unfold vLf
      rw [if_pos hi, rA_c (cVt_sR _ _ _ _ 2 _ 12), hs, RFc_sR_self hx, va_up_self]
      cases o with
      | none => rfl
      | some t => exact cV_c (cVt_sR _ _ _ _ 3 _ 2)
    · rw [upd_ne _ _ z]
      unfold vLf
      rw [rA_c (cVt_sR _ _ _ _ 2 _ 12), hs, RFc_sR_self hx, va_up_ne _ _ z]
      by_cases q : i9 < 1000
      · rw [if_pos q, if_pos q]
        cases e : RFc (M x) i9 with
        | none => rfl
        | some l => exact cV_c (cVt_sR _ _ _ _ 3 _ 2)
      · rw [if_neg q, if_neg q]
  have row4 : cax (sR M x i o) a 4 = upd (cax M a 4) i (lfN 0 M o) := by
    funext i9
    show vLf 0 (sR M x i o) a i9 = upd (vLf 0 M a) i (lfN 0 M o) i9
    by_cases z : i9 = i
    · subst z
      rw [upd_self]
      unfold vLf
      rw [if_pos hi, rA_c (cVt_sR _ _ _ _ 2 _ 12), hs, RFc_sR_self hx, va_up_self]
      cases o with
      | none => rfl
      | some t => exact cV_c (cVt_sR _ _ _ _ 3 _ 0)
    · rw [upd_ne _ _ z]
      unfold vLf
      rw [rA_c (cVt_sR _ _ _ _ 2 _ 12), hs, RFc_sR_self hx, va_up_ne _ _ z]
      by_cases q : i9 < 1000
      · rw [if_pos q, if_pos q]
        cases e : RFc (M x) i9 with
        | none => rfl
        | some l => exact cV_c (cVt_sR _ _ _ _ 3 _ 0)
      · rw [if_neg q, if_neg q]
  have row60 : cax (sR M x i o) a 60 = (fun z => if z % 1000 = i then etN M o (z / 1000) else cax M a 60 z) := by
    funext y
    show vEt (sR M x i o) a y = (if y % 1000 = i then etN M o (y / 1000) else vEt M a y)
    unfold vEt
    rw [rA_c (cVt_sR _ _ _ _ 2 _ 12), hs, RFc_sR_self hx]
    by_cases z : y % 1000 = i
    · rw [if_pos z, z, va_up_self]
      cases o with
      | none => rfl
      | some q =>
        show IFc (sR M x i (some q) (rA 3 (sR M x i (some q)) q 1)) (y / 1000) = IFc (M (rA 3 M q 1)) (y / 1000)
        rw [rA_c (cVt_sR _ _ _ _ _ _ _), IFc_sR]
    · rw [if_neg z, va_up_ne _ _ z]
      cases e : RFc (M x) (y % 1000) with
      | none => rfl
      | some l =>
        show IFc (sR M x i o (rA 3 (sR M x i o) l 1)) (y / 1000) = IFc (M (rA 3 M l 1)) (y / 1000)
        rw [rA_c (cVt_sR _ _ _ _ _ _ _), IFc_sR]
  refine ⟨fun b hb q => ⟨(xs b hb).trans (h1 b hb q).1, (funext fun j => rows b j ⟨hb, Or.inl q⟩).trans (h1 b hb q).2⟩, (xs a ha).trans h2, ?_, hO⟩
  rw [← h3]
  funext j
  by_cases z3 : j = 60
  · rw [z3, va_up_self]
    exact row60
  · rw [va_up_ne _ _ z3]
    by_cases z2 : j = 4
    · rw [z2, va_up_self]
      exact row4
    · rw [va_up_ne _ _ z2]
      by_cases z1 : j = 3
      · rw [z1, va_up_self]
        exact row3
      · rw [va_up_ne _ _ z1]
        by_cases z0 : j = 2
        · rw [z0, va_up_self]
          exact row2
        · rw [va_up_ne _ _ z0]
          exact rows a j ⟨ha, Or.inr (by simp only [List.mem_cons, List.not_mem_nil, or_false]; omega)⟩
theorem VC.r_te {cy : Nat → ClassId} {B : Nat → Nat × Nat} {K : Kp} {L : List Nat} {M0 M : Hp} {a x i n : Nat} {X : Nat → Int} {Y : Nat → Nat → Int32} {c : ClassId} {g : Nat → Option Nat} {o : Option Nat} (h : VC B K L M0 M a X Y) (hW : WOK cy K L M) (ha : isk K L a 2 0) (hi : i < 24) (hs : rA 2 M a 8 = x) (hx : M x = .inl (c, n, .inr (.inr (.inr (.inr g))))) (ho : ∀ q, o = some q → B q = (a, i)) (hm : ∀ q, o = some q → cV 9 M q 0 = nI i) (hno : RFc (M x) i = none) : VC B K L M0 (sR M x i o) a (va_up X (lKey 3 i) (leN M o)) (ttY Y i (teN M o)) := by
  obtain ⟨h1, h2, h3, hB⟩ := h
  have owx : B x = (a, 0) := by
    rw [← hs]
    exact hB.e0 a ha 8 (by decide)
  obtain ⟨nx, ix⟩ : ∃ nx, isk K L x 62 nx := by
    rw [← hs]
    have kb := KH hW ha
    obtain ⟨n6, q60, q61, q62⟩ := KD hW kb.2.2.2.2.2.2.1
    obtain ⟨n7, q70, q71, q72⟩ := KD hW kb.2.2.2.2.2.2.2.1
    have ku := KU hW kb.2.2.2.2.2.2.2.2
    exact ⟨_, kb.2.2.2.1⟩
  have rows : ∀ b j, (isk K L b 2 0 ∧ (b ≠ a ∨ ¬ j ∈ ([19, 20, 21, 22, 23, 24, 25, 26, 27, 28, 29] : List Nat))) → cax (sR M x i o) b j = cax M b j := fun b j hq => by
    have kb := KH hW hq.1
    obtain ⟨n6, q60, q61, q62⟩ := KD hW kb.2.2.2.2.2.2.1
    obtain ⟨n7, q70, q71, q72⟩ := KD hW kb.2.2.2.2.2.2.2.1
    have ku := KU hW kb.2.2.2.2.2.2.2.2
    exact rowf_cases (fun j f => (isk K L b 2 0 ∧ (b ≠ a ∨ ¬ j ∈ ([19, 20, 21, 22, 23, 24, 25, 26, 27, 28, 29] : List Nat))) → f (sR M x i o) b = f M b) (fun hq => (vPl_c (cVt_sR _ _ _ _ 2 _ 12) (RFc_sR (kb.2.2.2.2.2.1.neT ix (by decide))) (fun _ _ _ _ => ⟨(cVt_sR _ _ _ _ 3 _ 1), (ALc_sR _ _ _ _ _)⟩))) (fun hq => (vLf_c 2 (cVt_sR _ _ _ _ 2 _ 12) (RFc_sR (kb.2.2.2.2.2.1.neT ix (by decide))) (fun _ _ _ _ => (cVt_sR _ _ _ _ 3 _ 2)))) (fun hq => (vLf_c 0 (cVt_sR _ _ _ _ 2 _ 12) (RFc_sR (kb.2.2.2.2.2.1.neT ix (by decide))) (fun _ _ _ _ => (cVt_sR _ _ _ _ 3 _ 0)))) (fun hq => (vWho_c (cVt_sR _ _ _ _ 2 _ 8) (RFc_sR (fun z => (hq.2.resolve_right (fun w => w (by decide))) (congrArg Prod.fst ((hB.e0 b hq.1 8 (by decide)).symm.trans ((congrArg B z).trans owx))))) (fun _ _ _ _ => ⟨(cVt_sR _ _ _ _ 9 _ 1), (cVt_sR _ _ _ _ 4 _ 0)⟩))) (fun hq => (vTe_c 2 (cVt_sR _ _ _ _ 2 _ 8) (RFc_sR (fun z => (hq.2.resolve_right (fun w => w (by decide))) (congrArg Prod.fst ((hB.e0 b hq.1 8 (by decide)).symm.trans ((congrArg B z).trans owx))))) (fun _ _ _ _ => (cVt_sR _ _ _ _ 9 _ 2)))) (fun hq => (vTe_c 3 (cVt_sR _ _ _ _ 2 _ 8) (RFc_sR (fun z => (hq.2.resolve_right (fun w => w (by decide))) (congrArg Prod.fst ((hB.e0 b hq.1 8 (by decide)).symm.trans ((congrArg B z).trans owx))))) (fun _ _ _ _ => (cVt_sR _ _ _ _ 9 _ 3)))) (fun hq => (vTe_c 5 (cVt_sR _ _ _ _ 2 _ 8) (RFc_sR (fun z => (hq.2.resolve_right (fun w => w (by decide))) (congrArg Prod.fst ((hB.e0 b hq.1 8 (by decide)).symm.trans ((congrArg B z).trans owx))))) (fun _ _ _ _ => (cVt_sR _ _ _ _ 9 _ 5)))) (fun hq => (vTe_c 6 (cVt_sR _ _ _ _ 2 _ 8) (RFc_sR (fun z => (hq.2.resolve_right (fun w => w (by decide))) (congrArg Prod.fst ((hB.e0 b hq.1 8 (by decide)).symm.trans ((congrArg B z).trans owx))))) (fun _ _ _ _ => (cVt_sR _ _ _ _ 9 _ 6)))) (fun hq => (vTe_c 7 (cVt_sR _ _ _ _ 2 _ 8) (RFc_sR (fun z => (hq.2.resolve_right (fun w => w (by decide))) (congrArg Prod.fst ((hB.e0 b hq.1 8 (by decide)).symm.trans ((congrArg B z).trans owx))))) (fun _ _ _ _ => (cVt_sR _ _ _ _ 9 _ 7)))) (fun hq => (vKd_c (cVt_sR _ _ _ _ 2 _ 8) (RFc_sR (fun z => (hq.2.resolve_right (fun w => w (by decide))) (congrArg Prod.fst ((hB.e0 b hq.1 8 (by decide)).symm.trans ((congrArg B z).trans owx))))) (fun _ _ _ _ => ⟨(cVt_sR _ _ _ _ 9 _ 1), (cVt_sR _ _ _ _ 4 _ 1)⟩))) (fun hq => (vHr_c (cVt_sR _ _ _ _ 2 _ 8) (RFc_sR (fun z => (hq.2.resolve_right (fun w => w (by decide))) (congrArg Prod.fst ((hB.e0 b hq.1 8 (by decide)).symm.trans ((congrArg B z).trans owx))))) (fun _ _ _ _ => ⟨(cVt_sR _ _ _ _ 9 _ 8), fun _ _ => (cVt_sR _ _ _ _ 9 _ 0)⟩))) (fun hq => (vTe_c 4 (cVt_sR _ _ _ _ 2 _ 8) (RFc_sR (fun z => (hq.2.resolve_right (fun w => w (by decide))) (congrArg Prod.fst ((hB.e0 b hq.1 8 (by decide)).symm.trans ((congrArg B z).trans owx))))) (fun _ _ _ _ => (cVt_sR _ _ _ _ 9 _ 4)))) (fun hq => (vOw_c (cVt_sR _ _ _ _ 2 _ 8) (RFc_sR (fun z => (hq.2.resolve_right (fun w => w (by decide))) (congrArg Prod.fst ((hB.e0 b hq.1 8 (by decide)).symm.trans ((congrArg B z).trans owx))))) (fun _ _ _ _ => ⟨(cVt_sR _ _ _ _ 9 _ 1), (cVt_sR _ _ _ _ 4 _ 3), fun _ _ => (cVt_sR _ _ _ _ 2 _ 0)⟩))) (fun hq => (vTn_c (cVt_sR _ _ _ _ 2 _ 8) (RFc_sR (fun z => (hq.2.resolve_right (fun w => w (by decide))) (congrArg Prod.fst ((hB.e0 b hq.1 8 (by decide)).symm.trans ((congrArg B z).trans owx))))))) (fun hq => (vRn_c (cVt_sR _ _ _ _ 2 _ 10) (RFc_sR (kb.2.2.2.2.1.neT ix (by decide))))) (fun hq => (vRu_c 0 (cVt_sR _ _ _ _ 2 _ 10) (RFc_sR (kb.2.2.2.2.1.neT ix (by decide))) (fun _ _ _ _ => (cVt_sR _ _ _ _ 6 _ 0)))) (fun hq => (vRu_c 1 (cVt_sR _ _ _ _ 2 _ 10) (RFc_sR (kb.2.2.2.2.1.neT ix (by decide))) (fun _ _ _ _ => (cVt_sR _ _ _ _ 6 _ 1)))) (fun hq => (vTm_c (cVt_sR _ _ _ _ 2 _ 10) (RFc_sR (kb.2.2.2.2.1.neT ix (by decide))) (fun i9 l9 hi9 hl9 => ⟨(cVt_sR _ _ _ _ 6 _ 2), (IFc_sR _ _ _ _ _)⟩))) (fun hq => (vEn_c (cVt_sR _ _ _ _ 2 _ 3) (IFc_sR _ _ _ _ _))) (fun hq => (vMo_c (cVt_sR _ _ _ _ 2 _ 16) (cVt_sR _ _ _ _ 1 _ 0) (RFc_sR (q60.neT ix (by decide))) (fun _ _ _ _ => (cVt_sR _ _ _ _ 9 _ 0)))) (fun hq => (vDs_c 16 1 (cVt_sR _ _ _ _ 2 _ 16) (cVt_sR _ _ _ _ 1 _ 1) (IFc_sR _ _ _ _ _))) (fun hq => (vDs_c 16 2 (cVt_sR _ _ _ _ 2 _ 16) (cVt_sR _ _ _ _ 1 _ 2) (IFc_sR _ _ _ _ _))) (fun hq => (vDs_c 17 1 (cVt_sR _ _ _ _ 2 _ 17) (cVt_sR _ _ _ _ 1 _ 1) (IFc_sR _ _ _ _ _))) (fun hq => (vDs_c 17 2 (cVt_sR _ _ _ _ 2 _ 17) (cVt_sR _ _ _ _ 1 _ 2) (IFc_sR _ _ _ _ _))) (fun hq => (vUn_c (cVt_sR _ _ _ _ 2 _ 18) (cVt_sR _ _ _ _ 10 _ 0) (IFc_sR _ _ _ _ _))) (fun hq => (vLe_c (cVt_sR _ _ _ _ 2 _ 6) (IFc_sR _ _ _ _ _))) (fun hq => (vHe_c (cVt_sR _ _ _ _ 2 _ 7) (RFc_sR (kb.2.2.1.neT ix (by decide))) (fun _ _ _ _ => (cVt_sR _ _ _ _ 9 _ 0)))) (fun hq => (vEt_c (cVt_sR _ _ _ _ 2 _ 12) (RFc_sR (kb.2.2.2.2.2.1.neT ix (by decide))) (fun i9 l9 hi9 hl9 => ⟨(cVt_sR _ _ _ _ 3 _ 1), (IFc_sR _ _ _ _ _)⟩))) (fun _ => fun _ => rfl) j hq
  have lone : ∀ k, k ≠ i → vLo 12 (sR M x i o) a k = vLo 12 M a k := fun k hk => by
    unfold vLo
    rw [rA_c (cVt_sR _ _ _ _ 2 _ 8), hs, RFc_sR_self hx, va_up_ne _ _ hk]
    by_cases q : k < 24
    · rw [if_pos q, if_pos q]
      cases e : RFc (M x) k with
      | none => rfl
      | some l => exact congrArg Int64.toInt (cL_c (cVt_sR _ _ _ _ 9 _ 12))
    · rw [if_neg q, if_neg q]
  have lat : cfx (sR M x i o) a (lKey 3 i) = leN M o := by
    show xf (lKey 3 i) (sR M x i o) a = _
    rw [xf_key (r := 3) (i := i), lf_key (by decide)]
    show vLo 12 (sR M x i o) a i = leN M o
    unfold vLo
    rw [if_pos hi, rA_c (cVt_sR _ _ _ _ 2 _ 8), hs, RFc_sR_self hx, va_up_self]
    cases o with
    | none => rfl
    | some t => exact congrArg Int64.toInt (cL_c (cVt_sR _ _ _ _ 9 _ 12))
  have xs : ∀ b j, (isk K L b 2 0 ∧ (b ≠ a ∨ j ≠ lKey 3 i)) → cfx (sR M x i o) b j = cfx M b j := fun b j hq => xf_cases (fun j f => (isk K L b 2 0 ∧ (b ≠ a ∨ j ≠ lKey 3 i)) → f (sR M x i o) b = f M b) (fun hq => (congrArg Int32.toInt (cV_c (cVt_sR _ _ _ _ 2 _ 1)))) (fun hq => (congrArg Int32.toInt (cV_c (cVt_sR _ _ _ _ 2 _ 2)))) (fun hq => (congrArg Int32.toInt (cV_c (cVt_sR _ _ _ _ 2 _ 9)))) (fun hq => (congrArg Int32.toInt (cV_c (cVt_sR _ _ _ _ 2 _ 11)))) (fun hq => (congrArg Int32.toInt (cV_c (cVt_sR _ _ _ _ 2 _ 4)))) (fun hq => (congrArg Int32.toInt (cV_c (cVt_sR _ _ _ _ 2 _ 5)))) (fun hq => (congrArg Int32.toInt (cV_c (cVt_sR _ _ _ _ 2 _ 15)))) (fun hq => (congrArg Int32.toInt (cV_c (cVt_sR _ _ _ _ 2 _ 0)))) (fun hq => (x1_c 16 (cVt_sR _ _ _ _ 2 _ 16) (cVt_sR _ _ _ _ 1 _ 3))) (fun hq => (x1_c 17 (cVt_sR _ _ _ _ 2 _ 17) (cVt_sR _ _ _ _ 1 _ 3))) (fun hq => (x10_c 2 (cVt_sR _ _ _ _ 2 _ 18) (cVt_sR _ _ _ _ 10 _ 2))) (fun hq => (x10_c 1 (cVt_sR _ _ _ _ 2 _ 18) (cVt_sR _ _ _ _ 10 _ 1))) (fun j => fun hq => (by by_cases w : b = a; (rw [w]; exact lf_one (i := i) lone j (hq.2.resolve_left (fun z => z w))); exact lf_c (vLo_c 12 (cVt_sR _ _ _ _ 2 _ 8) (RFc_sR (fun z => w (congrArg Prod.fst ((hB.e0 b hq.1 8 (by decide)).symm.trans ((congrArg B z).trans owx))))) (fun _ _ _ _ => (cVt_sR _ _ _ _ 9 _ 12))) j)) j hq
  have hO : OC B K L (sR M x i o) := by
    refine ⟨fun b hb j hj => ?_, fun b hb => ?_, fun b hb j hj => ?_, fun b hb j hj => ?_, fun b hb => ?_, fun b hb i9 l hi9 hl => ?_, fun b hb i9 l hi9 hl => ?_, fun b hb i9 l hi9 hl => ?_, fun b hb i9 l hi9 hl => ?_, fun b hb i9 l hi9 hl => ?_, fun b hb => ?_, fun b hb => ?_⟩
    · rw [rA_c (cVt_sR _ _ _ _ _ _ _)]
      exact hB.e0 b hb j hj
    · rw [rA_c (cVt_sR _ _ _ _ _ _ _)]
      exact hB.e17 b hb
    · rw [rA_c (cVt_sR _ _ _ _ _ _ _), rA_c (cVt_sR _ _ _ _ _ _ _)]
      exact hB.d16 b hb j hj
    · rw [rA_c (cVt_sR _ _ _ _ _ _ _), rA_c (cVt_sR _ _ _ _ _ _ _)]
      exact hB.d17 b hb j hj
    · rw [rA_c (cVt_sR _ _ _ _ _ _ _), rA_c (cVt_sR _ _ _ _ _ _ _)]
      exact hB.un b hb
    · rw [rA_c (cVt_sR _ _ _ _ _ _ _), RFc_sR (by
        have kb := KH hW hb
        obtain ⟨n6, q60, q61, q62⟩ := KD hW kb.2.2.2.2.2.2.1
        obtain ⟨n7, q70, q71, q72⟩ := KD hW kb.2.2.2.2.2.2.2.1
        have ku := KU hW kb.2.2.2.2.2.2.2.2
        exact kb.2.2.2.2.2.1.neT ix (by decide))] at hl
      rw [rA_c (cVt_sR _ _ _ _ _ _ _)]
      exact hB.lf b hb i9 l hi9 hl
    · rw [rA_c (cVt_sR _ _ _ _ _ _ _)] at hl
      by_cases z : rA 2 M b 8 = x
      · rw [z, RFc_sR_self hx] at hl
        have eb : b = a := congrArg Prod.fst ((hB.e0 b hb 8 (by decide)).symm.trans ((congrArg B z).trans owx))
        by_cases y : i9 = i
        · subst y
          rw [va_up_self] at hl
          rw [eb]
          exact ho l hl
        · rw [va_up_ne _ _ y, ← z] at hl
          exact hB.te b hb i9 l hi9 hl
      · rw [RFc_sR z] at hl
        exact hB.te b hb i9 l hi9 hl
    · rw [rA_c (cVt_sR _ _ _ _ _ _ _), RFc_sR (by
        have kb := KH hW hb
        obtain ⟨n6, q60, q61, q62⟩ := KD hW kb.2.2.2.2.2.2.1
        obtain ⟨n7, q70, q71, q72⟩ := KD hW kb.2.2.2.2.2.2.2.1
        have ku := KU hW kb.2.2.2.2.2.2.2.2
        exact kb.2.2.2.2.1.neT ix (by decide))] at hl
      rw [rA_c (cVt_sR _ _ _ _ _ _ _)]
      exact hB.ru b hb i9 l hi9 hl
    · rw [rA_c (cVt_sR _ _ _ _ _ _ _)] at hl
      rw [cV_c (cVt_sR _ _ _ _ _ _ _)]
      by_cases z : rA 2 M b 8 = x
      · rw [z, RFc_sR_self hx] at hl
        by_cases y : i9 = i
        · subst y
          rw [va_up_self] at hl
          exact (hm l hl)
        · rw [va_up_ne _ _ y, ← z] at hl
          exact hB.nm b hb i9 l hi9 hl
      · rw [RFc_sR z] at hl
        exact hB.nm b hb i9 l hi9 hl
    · rw [rA_c (cVt_sR _ _ _ _ _ _ _), RFc_sR (by
        have kb := KH hW hb
        obtain ⟨n6, q60, q61, q62⟩ := KD hW kb.2.2.2.2.2.2.1
        obtain ⟨n7, q70, q71, q72⟩ := KD hW kb.2.2.2.2.2.2.2.1
        have ku := KU hW kb.2.2.2.2.2.2.2.2
        exact kb.2.2.1.neT ix (by decide))] at hl
      obtain ⟨k9, h9, e9⟩ := hB.hd b hb i9 l hi9 hl
      refine ⟨k9, h9, ?_⟩
      rw [rA_c (cVt_sR _ _ _ _ _ _ _)]
      by_cases z : rA 2 M b 8 = x
      · rw [z, RFc_sR_self hx]
        rw [z] at e9
        by_cases y : k9 = i
        · rw [y, hno] at e9
          cases e9
        · rw [va_up_ne _ _ y]
          exact e9
      · rw [RFc_sR z]
        exact e9
    · rw [rA_c (cVt_sR _ _ _ _ _ _ _), rA_c (cVt_sR _ _ _ _ _ _ _)]
      exact hB.n16 b hb
    · rw [rA_c (cVt_sR _ _ _ _ _ _ _), rA_c (cVt_sR _ _ _ _ _ _ _)]
      exact hB.n17 b hb
  have row19 : cax (sR M x i o) a 19 = upd (cax M a 19) i (teN M o 19) := by
    funext i9
    show vWho (sR M x i o) a i9 = upd (vWho M a) i (teN M o 19) i9
    by_cases z : i9 = i
    · subst z
      rw [upd_self]
      unfold vWho
      rw [if_pos hi, rA_c (cVt_sR _ _ _ _ 2 _ 8), hs, RFc_sR_self hx, va_up_self]
      cases o with
      | none => rfl
      | some t => exact (by rw [rA_c (cVt_sR _ _ _ _ 9 _ 1)]; exact cV_c (cVt_sR _ _ _ _ 4 _ 0) : cV 4 (sR M x i9 (some t)) (rA 9 (sR M x i9 (some t)) t 1) 0 = cV 4 M (rA 9 M t 1) 0)
    · rw [upd_ne _ _ z]
      unfold vWho
      rw [rA_c (cVt_sR _ _ _ _ 2 _ 8), hs, RFc_sR_self hx, va_up_ne _ _ z]
      by_cases q : i9 < 24
      · rw [if_pos q, if_pos q]
        cases e : RFc (M x) i9 with
        | none => rfl
        | some l => exact (by rw [rA_c (cVt_sR _ _ _ _ 9 _ 1)]; exact cV_c (cVt_sR _ _ _ _ 4 _ 0) : cV 4 (sR M x i o) (rA 9 (sR M x i o) l 1) 0 = cV 4 M (rA 9 M l 1) 0)
      · rw [if_neg q, if_neg q]
  have row20 : cax (sR M x i o) a 20 = upd (cax M a 20) i (teN M o 20) := by
    funext i9
    show vTe 2 (sR M x i o) a i9 = upd (vTe 2 M a) i (teN M o 20) i9
    by_cases z : i9 = i
    · subst z
      rw [upd_self]
      unfold vTe
      rw [if_pos hi, rA_c (cVt_sR _ _ _ _ 2 _ 8), hs, RFc_sR_self hx, va_up_self]
      cases o with
      | none => rfl
      | some t => exact cV_c (cVt_sR _ _ _ _ 9 _ 2)
    · rw [upd_ne _ _ z]
      unfold vTe
      rw [rA_c (cVt_sR _ _ _ _ 2 _ 8), hs, RFc_sR_self hx, va_up_ne _ _ z]
      by_cases q : i9 < 24
      · rw [if_pos q, if_pos q]
        cases e : RFc (M x) i9 with
        | none => rfl
        | some l => exact cV_c (cVt_sR _ _ _ _ 9 _ 2)
      · rw [if_neg q, if_neg q]
  have row21 : cax (sR M x i o) a 21 = upd (cax M a 21) i (teN M o 21) := by
    funext i9
    show vTe 3 (sR M x i o) a i9 = upd (vTe 3 M a) i (teN M o 21) i9
    by_cases z : i9 = i
    · subst z
      rw [upd_self]
      unfold vTe
      rw [if_pos hi, rA_c (cVt_sR _ _ _ _ 2 _ 8), hs, RFc_sR_self hx, va_up_self]
      cases o with
      | none => rfl
      | some t => exact cV_c (cVt_sR _ _ _ _ 9 _ 3)
    · rw [upd_ne _ _ z]
      unfold vTe
      rw [rA_c (cVt_sR _ _ _ _ 2 _ 8), hs, RFc_sR_self hx, va_up_ne _ _ z]
      by_cases q : i9 < 24
      · rw [if_pos q, if_pos q]
        cases e : RFc (M x) i9 with
        | none => rfl
        | some l => exact cV_c (cVt_sR _ _ _ _ 9 _ 3)
      · rw [if_neg q, if_neg q]
  have row22 : cax (sR M x i o) a 22 = upd (cax M a 22) i (teN M o 22) := by
    funext i9
    show vTe 5 (sR M x i o) a i9 = upd (vTe 5 M a) i (teN M o 22) i9
    by_cases z : i9 = i
    · subst z
      rw [upd_self]
      unfold vTe
      rw [if_pos hi, rA_c (cVt_sR _ _ _ _ 2 _ 8), hs, RFc_sR_self hx, va_up_self]
      cases o with
      | none => rfl
      | some t => exact cV_c (cVt_sR _ _ _ _ 9 _ 5)
    · rw [upd_ne _ _ z]
      unfold vTe
      rw [rA_c (cVt_sR _ _ _ _ 2 _ 8), hs, RFc_sR_self hx, va_up_ne _ _ z]
      by_cases q : i9 < 24
      · rw [if_pos q, if_pos q]
        cases e : RFc (M x) i9 with
        | none => rfl
        | some l => exact cV_c (cVt_sR _ _ _ _ 9 _ 5)
      · rw [if_neg q, if_neg q]
  have row23 : cax (sR M x i o) a 23 = upd (cax M a 23) i (teN M o 23) := by
    funext i9
    show vTe 6 (sR M x i o) a i9 = upd (vTe 6 M a) i (teN M o 23) i9
    by_cases z : i9 = i
    · subst z
      rw [upd_self]
      unfold vTe
      rw [if_pos hi, rA_c (cVt_sR _ _ _ _ 2 _ 8), hs, RFc_sR_self hx, va_up_self]
      cases o with
      | none => rfl
      | some t => exact cV_c (cVt_sR _ _ _ _ 9 _ 6)
    · rw [upd_ne _ _ z]
      unfold vTe
      rw [rA_c (cVt_sR _ _ _ _ 2 _ 8), hs, RFc_sR_self hx, va_up_ne _ _ z]
      by_cases q : i9 < 24
      · rw [if_pos q, if_pos q]
        cases e : RFc (M x) i9 with
        | none => rfl
        | some l => exact cV_c (cVt_sR _ _ _ _ 9 _ 6)
      · rw [if_neg q, if_neg q]
  have row24 : cax (sR M x i o) a 24 = upd (cax M a 24) i (teN M o 24) := by
    funext i9
    show vTe 7 (sR M x i o) a i9 = upd (vTe 7 M a) i (teN M o 24) i9
    by_cases z : i9 = i
    · subst z
      rw [upd_self]
      unfold vTe
      rw [if_pos hi, rA_c (cVt_sR _ _ _ _ 2 _ 8), hs, RFc_sR_self hx, va_up_self]
      cases o with
      | none => rfl
      | some t => exact cV_c (cVt_sR _ _ _ _ 9 _ 7)
    · rw [upd_ne _ _ z]
      unfold vTe
      rw [rA_c (cVt_sR _ _ _ _ 2 _ 8), hs, RFc_sR_self hx, va_up_ne _ _ z]
      by_cases q : i9 < 24
      · rw [if_pos q, if_pos q]
        cases e : RFc (M x) i9 with
        | none => rfl
        | some l => exact cV_c (cVt_sR _ _ _ _ 9 _ 7)
      · rw [if_neg q, if_neg q]
  have row25 : cax (sR M x i o) a 25 = upd (cax M a 25) i (teN M o 25) := by
    funext i9
    show vHr (sR M x i o) a i9 = upd (vHr M a) i (teN M o 25) i9
    by_cases z : i9 = i
    · subst z
      rw [upd_self]
      unfold vHr
      rw [if_pos hi, rA_c (cVt_sR _ _ _ _ 2 _ 8), hs, RFc_sR_self hx, va_up_self]
      cases o with
      | none => rfl
      | some t => exact (by rw [cR_c (cVt_sR _ _ _ _ 9 _ 8)]; exact hrN_c _ (fun _ _ => (cVt_sR _ _ _ _ 9 _ 0)) : hrN (sR M x i9 (some t)) (cR 9 (sR M x i9 (some t)) t 8) = hrN M (cR 9 M t 8))
    · rw [upd_ne _ _ z]
      unfold vHr
      rw [rA_c (cVt_sR _ _ _ _ 2 _ 8), hs, RFc_sR_self hx, va_up_ne _ _ z]
      by_cases q : i9 < 24
      · rw [if_pos q, if_pos q]
        cases e : RFc (M x) i9 with
        | none => rfl
        | some l => exact (by rw [cR_c (cVt_sR _ _ _ _ 9 _ 8)]; exact hrN_c _ (fun _ _ => (cVt_sR _ _ _ _ 9 _ 0)) : hrN (sR M x i o) (cR 9 (sR M x i o) l 8) = hrN M (cR 9 M l 8))
      · rw [if_neg q, if_neg q]
  have row26 : cax (sR M x i o) a 26 = upd (cax M a 26) i (teN M o 26) := by
    funext i9
    show vTe 4 (sR M x i o) a i9 = upd (vTe 4 M a) i (teN M o 26) i9
    by_cases z : i9 = i
    · subst z
      rw [upd_self]
      unfold vTe
      rw [if_pos hi, rA_c (cVt_sR _ _ _ _ 2 _ 8), hs, RFc_sR_self hx, va_up_self]
      cases o with
      | none => rfl
      | some t => exact cV_c (cVt_sR _ _ _ _ 9 _ 4)
    · rw [upd_ne _ _ z]
      unfold vTe
      rw [rA_c (cVt_sR _ _ _ _ 2 _ 8), hs, RFc_sR_self hx, va_up_ne _ _ z]
      by_cases q : i9 < 24
      · rw [if_pos q, if_pos q]
        cases e : RFc (M x) i9 with
        | none => rfl
        | some l => exact cV_c (cVt_sR _ _ _ _ 9 _ 4)
      · rw [if_neg q, if_neg q]
  have row27 : cax (sR M x i o) a 27 = upd (cax M a 27) i (teN M o 27) := by
    funext i9
    show vOw (sR M x i o) a i9 = upd (vOw M a) i (teN M o 27) i9
    by_cases z : i9 = i
    · subst z
      rw [upd_self]
      unfold vOw
      rw [if_pos hi, rA_c (cVt_sR _ _ _ _ 2 _ 8), hs, RFc_sR_self hx, va_up_self]
      cases o with
      | none => rfl
      | some t => exact (by rw [rA_c (cVt_sR _ _ _ _ 9 _ 1), cR_c (cVt_sR _ _ _ _ 4 _ 3)]; exact owN_c _ (fun _ _ => (cVt_sR _ _ _ _ 2 _ 0)) : owN (sR M x i9 (some t)) (cR 4 (sR M x i9 (some t)) (rA 9 (sR M x i9 (some t)) t 1) 3) = owN M (cR 4 M (rA 9 M t 1) 3))
    · rw [upd_ne _ _ z]
      unfold vOw
      rw [rA_c (cVt_sR _ _ _ _ 2 _ 8), hs, RFc_sR_self hx, va_up_ne _ _ z]
      by_cases q : i9 < 24
      · rw [if_pos q, if_pos q]
        cases e : RFc (M x) i9 with
        | none => rfl
        | some l => exact (by rw [rA_c (cVt_sR _ _ _ _ 9 _ 1), cR_c (cVt_sR _ _ _ _ 4 _ 3)]; exact owN_c _ (fun _ _ => (cVt_sR _ _ _ _ 2 _ 0)) : owN (sR M x i o) (cR 4 (sR M x i o) (rA 9 (sR M x i o) l 1) 3) = owN M (cR 4 M (rA 9 M l 1) 3))
      · rw [if_neg q, if_neg q]
  have row28 : cax (sR M x i o) a 28 = upd (cax M a 28) i (teN M o 28) := by
    funext i9
    show vTn (sR M x i o) a i9 = upd (vTn M a) i (teN M o 28) i9
    by_cases z : i9 = i
    · subst z
      rw [upd_self]
      unfold vTn
      rw [if_pos hi, rA_c (cVt_sR _ _ _ _ 2 _ 8), hs, RFc_sR_self hx, va_up_self]
      all_goals (cases o <;> rfl)
    · rw [upd_ne _ _ z]
      unfold vTn
      rw [rA_c (cVt_sR _ _ _ _ 2 _ 8), hs, RFc_sR_self hx, va_up_ne _ _ z]
  have row29 : cax (sR M x i o) a 29 = upd (cax M a 29) i (teN M o 29) := by
    funext i9
    show vKd (sR M x i o) a i9 = upd (vKd M a) i (teN M o 29) i9
    by_cases z : i9 = i
    · subst z
      rw [upd_self]
      unfold vKd
      rw [if_pos hi, rA_c (cVt_sR _ _ _ _ 2 _ 8), hs, RFc_sR_self hx, va_up_self]
      cases o with
      | none => rfl
      | some t => exact (by rw [rA_c (cVt_sR _ _ _ _ 9 _ 1)]; exact cV_c (cVt_sR _ _ _ _ 4 _ 1) : cV 4 (sR M x i9 (some t)) (rA 9 (sR M x i9 (some t)) t 1) 1 = cV 4 M (rA 9 M t 1) 1)
    · rw [upd_ne _ _ z]
      unfold vKd
      rw [rA_c (cVt_sR _ _ _ _ 2 _ 8), hs, RFc_sR_self hx, va_up_ne _ _ z]
      by_cases q : i9 < 24
      · rw [if_pos q, if_pos q]
        cases e : RFc (M x) i9 with
        | none => rfl
        | some l => exact (by rw [rA_c (cVt_sR _ _ _ _ 9 _ 1)]; exact cV_c (cVt_sR _ _ _ _ 4 _ 1) : cV 4 (sR M x i o) (rA 9 (sR M x i o) l 1) 1 = cV 4 M (rA 9 M l 1) 1)
      · rw [if_neg q, if_neg q]
  refine ⟨fun b hb q => ⟨(funext fun j => xs b j ⟨hb, Or.inl q⟩).trans (h1 b hb q).1, (funext fun j => rows b j ⟨hb, Or.inl q⟩).trans (h1 b hb q).2⟩, (by rw [← h2]; exact cfx_up (lKey 3 i) (fun j hj => xs a j ⟨ha, Or.inr hj⟩) lat), ?_, hO⟩
  rw [← h3]
  funext j
  unfold ttY
  by_cases z : 19 ≤ j ∧ j ≤ 29
  · rw [if_pos z]
    rcases (show j = 19 ∨ j = 20 ∨ j = 21 ∨ j = 22 ∨ j = 23 ∨ j = 24 ∨ j = 25 ∨ j = 26 ∨ j = 27 ∨ j = 28 ∨ j = 29 by omega) with rfl | rfl | rfl | rfl | rfl | rfl | rfl | rfl | rfl | rfl | rfl
    · exact row19
    · exact row20
    · exact row21
    · exact row22
    · exact row23
    · exact row24
    · exact row25
    · exact row26
    · exact row27
    · exact row28
    · exact row29
  · rw [if_neg z]
    exact rows a j ⟨ha, Or.inr (by simp only [List.mem_cons, List.not_mem_nil, or_false]; omega)⟩
theorem VC.r_ru {cy : Nat → ClassId} {B : Nat → Nat × Nat} {K : Kp} {L : List Nat} {M0 M : Hp} {a x i n : Nat} {X : Nat → Int} {Y : Nat → Nat → Int32} {c : ClassId} {g : Nat → Option Nat} {o : Option Nat} (h : VC B K L M0 M a X Y) (hW : WOK cy K L M) (ha : isk K L a 2 0) (hi : i < 16) (hs : rA 2 M a 10 = x) (hx : M x = .inl (c, n, .inr (.inr (.inr (.inr g))))) (ho : ∀ q, o = some q → B q = (a, i) ∧ B (rA 6 M q 2) = (a, i)) : VC B K L M0 (sR M x i o) a X (va_up (va_up (va_up (va_up Y 33 (upd (Y 33) i (rnN o))) 34 (upd (Y 34) i (ruN 0 M o))) 35 (upd (Y 35) i (ruN 1 M o))) 36 (fun y => if y / 24 = i then tmN M o (y % 24) else Y 36 y)) := by
  obtain ⟨h1, h2, h3, hB⟩ := h
  have owx : B x = (a, 0) := by
    rw [← hs]
    exact hB.e0 a ha 10 (by decide)
  obtain ⟨nx, ix⟩ : ∃ nx, isk K L x 20 nx := by
    rw [← hs]
    have kb := KH hW ha
    obtain ⟨n6, q60, q61, q62⟩ := KD hW kb.2.2.2.2.2.2.1
    obtain ⟨n7, q70, q71, q72⟩ := KD hW kb.2.2.2.2.2.2.2.1
    have ku := KU hW kb.2.2.2.2.2.2.2.2
    exact ⟨_, kb.2.2.2.2.1⟩
  have rows : ∀ b j, (isk K L b 2 0 ∧ (b ≠ a ∨ ¬ j ∈ ([33, 34, 35, 36] : List Nat))) → cax (sR M x i o) b j = cax M b j := fun b j hq => by
    have kb := KH hW hq.1
    obtain ⟨n6, q60, q61, q62⟩ := KD hW kb.2.2.2.2.2.2.1
    obtain ⟨n7, q70, q71, q72⟩ := KD hW kb.2.2.2.2.2.2.2.1
    have ku := KU hW kb.2.2.2.2.2.2.2.2
    exact rowf_cases (fun j f => (isk K L b 2 0 ∧ (b ≠ a ∨ ¬ j ∈ ([33, 34, 35, 36] : List Nat))) → f (sR M x i o) b = f M b) (fun hq => (vPl_c (cVt_sR _ _ _ _ 2 _ 12) (RFc_sR (kb.2.2.2.2.2.1.neT ix (by decide))) (fun _ _ _ _ => ⟨(cVt_sR _ _ _ _ 3 _ 1), (ALc_sR _ _ _ _ _)⟩))) (fun hq => (vLf_c 2 (cVt_sR _ _ _ _ 2 _ 12) (RFc_sR (kb.2.2.2.2.2.1.neT ix (by decide))) (fun _ _ _ _ => (cVt_sR _ _ _ _ 3 _ 2)))) (fun hq => (vLf_c 0 (cVt_sR _ _ _ _ 2 _ 12) (RFc_sR (kb.2.2.2.2.2.1.neT ix (by decide))) (fun _ _ _ _ => (cVt_sR _ _ _ _ 3 _ 0)))) (fun hq => (vWho_c (cVt_sR _ _ _ _ 2 _ 8) (RFc_sR (kb.2.2.2.1.neT ix (by decide))) (fun _ _ _ _ => ⟨(cVt_sR _ _ _ _ 9 _ 1), (cVt_sR _ _ _ _ 4 _ 0)⟩))) (fun hq => (vTe_c 2 (cVt_sR _ _ _ _ 2 _ 8) (RFc_sR (kb.2.2.2.1.neT ix (by decide))) (fun _ _ _ _ => (cVt_sR _ _ _ _ 9 _ 2)))) (fun hq => (vTe_c 3 (cVt_sR _ _ _ _ 2 _ 8) (RFc_sR (kb.2.2.2.1.neT ix (by decide))) (fun _ _ _ _ => (cVt_sR _ _ _ _ 9 _ 3)))) (fun hq => (vTe_c 5 (cVt_sR _ _ _ _ 2 _ 8) (RFc_sR (kb.2.2.2.1.neT ix (by decide))) (fun _ _ _ _ => (cVt_sR _ _ _ _ 9 _ 5)))) (fun hq => (vTe_c 6 (cVt_sR _ _ _ _ 2 _ 8) (RFc_sR (kb.2.2.2.1.neT ix (by decide))) (fun _ _ _ _ => (cVt_sR _ _ _ _ 9 _ 6)))) (fun hq => (vTe_c 7 (cVt_sR _ _ _ _ 2 _ 8) (RFc_sR (kb.2.2.2.1.neT ix (by decide))) (fun _ _ _ _ => (cVt_sR _ _ _ _ 9 _ 7)))) (fun hq => (vKd_c (cVt_sR _ _ _ _ 2 _ 8) (RFc_sR (kb.2.2.2.1.neT ix (by decide))) (fun _ _ _ _ => ⟨(cVt_sR _ _ _ _ 9 _ 1), (cVt_sR _ _ _ _ 4 _ 1)⟩))) (fun hq => (vHr_c (cVt_sR _ _ _ _ 2 _ 8) (RFc_sR (kb.2.2.2.1.neT ix (by decide))) (fun _ _ _ _ => ⟨(cVt_sR _ _ _ _ 9 _ 8), fun _ _ => (cVt_sR _ _ _ _ 9 _ 0)⟩))) (fun hq => (vTe_c 4 (cVt_sR _ _ _ _ 2 _ 8) (RFc_sR (kb.2.2.2.1.neT ix (by decide))) (fun _ _ _ _ => (cVt_sR _ _ _ _ 9 _ 4)))) (fun hq => (vOw_c (cVt_sR _ _ _ _ 2 _ 8) (RFc_sR (kb.2.2.2.1.neT ix (by decide))) (fun _ _ _ _ => ⟨(cVt_sR _ _ _ _ 9 _ 1), (cVt_sR _ _ _ _ 4 _ 3), fun _ _ => (cVt_sR _ _ _ _ 2 _ 0)⟩))) (fun hq => (vTn_c (cVt_sR _ _ _ _ 2 _ 8) (RFc_sR (kb.2.2.2.1.neT ix (by decide))))) (fun hq => (vRn_c (cVt_sR _ _ _ _ 2 _ 10) (RFc_sR (fun z => (hq.2.resolve_right (fun w => w (by decide))) (congrArg Prod.fst ((hB.e0 b hq.1 10 (by decide)).symm.trans ((congrArg B z).trans owx))))))) (fun hq => (vRu_c 0 (cVt_sR _ _ _ _ 2 _ 10) (RFc_sR (fun z => (hq.2.resolve_right (fun w => w (by decide))) (congrArg Prod.fst ((hB.e0 b hq.1 10 (by decide)).symm.trans ((congrArg B z).trans owx))))) (fun _ _ _ _ => (cVt_sR _ _ _ _ 6 _ 0)))) (fun hq => (vRu_c 1 (cVt_sR _ _ _ _ 2 _ 10) (RFc_sR (fun z => (hq.2.resolve_right (fun w => w (by decide))) (congrArg Prod.fst ((hB.e0 b hq.1 10 (by decide)).symm.trans ((congrArg B z).trans owx))))) (fun _ _ _ _ => (cVt_sR _ _ _ _ 6 _ 1)))) (fun hq => (vTm_c (cVt_sR _ _ _ _ 2 _ 10) (RFc_sR (fun z => (hq.2.resolve_right (fun w => w (by decide))) (congrArg Prod.fst ((hB.e0 b hq.1 10 (by decide)).symm.trans ((congrArg B z).trans owx))))) (fun i9 l9 hi9 hl9 => ⟨(cVt_sR _ _ _ _ 6 _ 2), (IFc_sR _ _ _ _ _)⟩))) (fun hq => (vEn_c (cVt_sR _ _ _ _ 2 _ 3) (IFc_sR _ _ _ _ _))) (fun hq => (vMo_c (cVt_sR _ _ _ _ 2 _ 16) (cVt_sR _ _ _ _ 1 _ 0) (RFc_sR (q60.neT ix (by decide))) (fun _ _ _ _ => (cVt_sR _ _ _ _ 9 _ 0)))) (fun hq => (vDs_c 16 1 (cVt_sR _ _ _ _ 2 _ 16) (cVt_sR _ _ _ _ 1 _ 1) (IFc_sR _ _ _ _ _))) (fun hq => (vDs_c 16 2 (cVt_sR _ _ _ _ 2 _ 16) (cVt_sR _ _ _ _ 1 _ 2) (IFc_sR _ _ _ _ _))) (fun hq => (vDs_c 17 1 (cVt_sR _ _ _ _ 2 _ 17) (cVt_sR _ _ _ _ 1 _ 1) (IFc_sR _ _ _ _ _))) (fun hq => (vDs_c 17 2 (cVt_sR _ _ _ _ 2 _ 17) (cVt_sR _ _ _ _ 1 _ 2) (IFc_sR _ _ _ _ _))) (fun hq => (vUn_c (cVt_sR _ _ _ _ 2 _ 18) (cVt_sR _ _ _ _ 10 _ 0) (IFc_sR _ _ _ _ _))) (fun hq => (vLe_c (cVt_sR _ _ _ _ 2 _ 6) (IFc_sR _ _ _ _ _))) (fun hq => (vHe_c (cVt_sR _ _ _ _ 2 _ 7) (RFc_sR (kb.2.2.1.neT ix (by decide))) (fun _ _ _ _ => (cVt_sR _ _ _ _ 9 _ 0)))) (fun hq => (vEt_c (cVt_sR _ _ _ _ 2 _ 12) (RFc_sR (kb.2.2.2.2.2.1.neT ix (by decide))) (fun i9 l9 hi9 hl9 => ⟨(cVt_sR _ _ _ _ 3 _ 1), (IFc_sR _ _ _ _ _)⟩))) (fun _ => fun _ => rfl) j hq
  have xs : ∀ b, isk K L b 2 0 → cfx (sR M x i o) b = cfx M b := fun b hb => by
    have kb9 := KH hW hb
    exact funext fun j => xf_cases (fun j f => f (sR M x i o) b = f M b) (congrArg Int32.toInt (cV_c (cVt_sR _ _ _ _ 2 _ 1))) (congrArg Int32.toInt (cV_c (cVt_sR _ _ _ _ 2 _ 2))) (congrArg Int32.toInt (cV_c (cVt_sR _ _ _ _ 2 _ 9))) (congrArg Int32.toInt (cV_c (cVt_sR _ _ _ _ 2 _ 11))) (congrArg Int32.toInt (cV_c (cVt_sR _ _ _ _ 2 _ 4))) (congrArg Int32.toInt (cV_c (cVt_sR _ _ _ _ 2 _ 5))) (congrArg Int32.toInt (cV_c (cVt_sR _ _ _ _ 2 _ 15))) (congrArg Int32.toInt (cV_c (cVt_sR _ _ _ _ 2 _ 0))) (x1_c 16 (cVt_sR _ _ _ _ 2 _ 16) (cVt_sR _ _ _ _ 1 _ 3)) (x1_c 17 (cVt_sR _ _ _ _ 2 _ 17) (cVt_sR _ _ _ _ 1 _ 3)) (x10_c 2 (cVt_sR _ _ _ _ 2 _ 18) (cVt_sR _ _ _ _ 10 _ 2)) (x10_c 1 (cVt_sR _ _ _ _ 2 _ 18) (cVt_sR _ _ _ _ 10 _ 1)) (fun j => (lf_c (vLo_c 12 (cVt_sR _ _ _ _ 2 _ 8) (RFc_sR (kb9.2.2.2.1.neT ix (by decide))) (fun _ _ _ _ => (cVt_sR _ _ _ _ 9 _ 12))) j)) j
  have hO : OC B K L (sR M x i o) := by
    refine ⟨fun b hb j hj => ?_, fun b hb => ?_, fun b hb j hj => ?_, fun b hb j hj => ?_, fun b hb => ?_, fun b hb i9 l hi9 hl => ?_, fun b hb i9 l hi9 hl => ?_, fun b hb i9 l hi9 hl => ?_, fun b hb i9 l hi9 hl => ?_, fun b hb i9 l hi9 hl => ?_, fun b hb => ?_, fun b hb => ?_⟩
    · rw [rA_c (cVt_sR _ _ _ _ _ _ _)]
      exact hB.e0 b hb j hj
    · rw [rA_c (cVt_sR _ _ _ _ _ _ _)]
      exact hB.e17 b hb
    · rw [rA_c (cVt_sR _ _ _ _ _ _ _), rA_c (cVt_sR _ _ _ _ _ _ _)]
      exact hB.d16 b hb j hj
    · rw [rA_c (cVt_sR _ _ _ _ _ _ _), rA_c (cVt_sR _ _ _ _ _ _ _)]
      exact hB.d17 b hb j hj
    · rw [rA_c (cVt_sR _ _ _ _ _ _ _), rA_c (cVt_sR _ _ _ _ _ _ _)]
      exact hB.un b hb
    · rw [rA_c (cVt_sR _ _ _ _ _ _ _), RFc_sR (by
        have kb := KH hW hb
        obtain ⟨n6, q60, q61, q62⟩ := KD hW kb.2.2.2.2.2.2.1
        obtain ⟨n7, q70, q71, q72⟩ := KD hW kb.2.2.2.2.2.2.2.1
        have ku := KU hW kb.2.2.2.2.2.2.2.2
        exact kb.2.2.2.2.2.1.neT ix (by decide))] at hl
      rw [rA_c (cVt_sR _ _ _ _ _ _ _)]
      exact hB.lf b hb i9 l hi9 hl
    · rw [rA_c (cVt_sR _ _ _ _ _ _ _), RFc_sR (by
        have kb := KH hW hb
        obtain ⟨n6, q60, q61, q62⟩ := KD hW kb.2.2.2.2.2.2.1
        obtain ⟨n7, q70, q71, q72⟩ := KD hW kb.2.2.2.2.2.2.2.1
        have ku := KU hW kb.2.2.2.2.2.2.2.2
        exact kb.2.2.2.1.neT ix (by decide))] at hl
      exact hB.te b hb i9 l hi9 hl
    · rw [rA_c (cVt_sR _ _ _ _ _ _ _)] at hl
      rw [rA_c (cVt_sR _ _ _ _ _ _ _)]
      by_cases z : rA 2 M b 10 = x
      · rw [z, RFc_sR_self hx] at hl
        have eb : b = a := congrArg Prod.fst ((hB.e0 b hb 10 (by decide)).symm.trans ((congrArg B z).trans owx))
        by_cases y : i9 = i
        · subst y
          rw [va_up_self] at hl
          rw [eb]
          exact ho l hl
        · rw [va_up_ne _ _ y, ← z] at hl
          exact hB.ru b hb i9 l hi9 hl
      · rw [RFc_sR z] at hl
        exact hB.ru b hb i9 l hi9 hl
    · rw [rA_c (cVt_sR _ _ _ _ _ _ _), RFc_sR (by
        have kb := KH hW hb
        obtain ⟨n6, q60, q61, q62⟩ := KD hW kb.2.2.2.2.2.2.1
        obtain ⟨n7, q70, q71, q72⟩ := KD hW kb.2.2.2.2.2.2.2.1
        have ku := KU hW kb.2.2.2.2.2.2.2.2
        exact kb.2.2.2.1.neT ix (by decide))] at hl
      rw [cV_c (cVt_sR _ _ _ _ _ _ _)]
      exact hB.nm b hb i9 l hi9 hl
    · rw [rA_c (cVt_sR _ _ _ _ _ _ _), RFc_sR (by
        have kb := KH hW hb
        obtain ⟨n6, q60, q61, q62⟩ := KD hW kb.2.2.2.2.2.2.1
        obtain ⟨n7, q70, q71, q72⟩ := KD hW kb.2.2.2.2.2.2.2.1
        have ku := KU hW kb.2.2.2.2.2.2.2.2
        exact kb.2.2.1.neT ix (by decide))] at hl
      rw [rA_c (cVt_sR _ _ _ _ _ _ _), RFc_sR (by
        have kb := KH hW hb
        obtain ⟨n6, q60, q61, q62⟩ := KD hW kb.2.2.2.2.2.2.1
        obtain ⟨n7, q70, q71, q72⟩ := KD hW kb.2.2.2.2.2.2.2.1
        have ku := KU hW kb.2.2.2.2.2.2.2.2
        exact kb.2.2.2.1.neT ix (by decide))]
      exact hB.hd b hb i9 l hi9 hl
    · rw [rA_c (cVt_sR _ _ _ _ _ _ _), rA_c (cVt_sR _ _ _ _ _ _ _)]
      exact hB.n16 b hb
    · rw [rA_c (cVt_sR _ _ _ _ _ _ _), rA_c (cVt_sR _ _ _ _ _ _ _)]
      exact hB.n17 b hb
  have row33 : cax (sR M x i o) a 33 = upd (cax M a 33) i (rnN o) := by
    funext i9
    show vRn (sR M x i o) a i9 = upd (vRn M a) i (rnN o) i9
    by_cases z : i9 = i
    · subst z
      rw [upd_self]
      unfold vRn
      rw [if_pos hi, rA_c (cVt_sR _ _ _ _ 2 _ 10), hs, RFc_sR_self hx, va_up_self]
      all_goals (cases o <;> rfl)
    · rw [upd_ne _ _ z]
      unfold vRn
      rw [rA_c (cVt_sR _ _ _ _ 2 _ 10), hs, RFc_sR_self hx, va_up_ne _ _ z]
  have row34 : cax (sR M x i o) a 34 = upd (cax M a 34) i (ruN 0 M o) := by
    funext i9
    show vRu 0 (sR M x i o) a i9 = upd (vRu 0 M a) i (ruN 0 M o) i9
    by_cases z : i9 = i
    · subst z
      rw [upd_self]
      unfold vRu
      rw [if_pos hi, rA_c (cVt_sR _ _ _ _ 2 _ 10), hs, RFc_sR_self hx, va_up_self]
      cases o with
      | none => rfl
      | some t => exact cV_c (cVt_sR _ _ _ _ 6 _ 0)
    · rw [upd_ne _ _ z]
      unfold vRu
      rw [rA_c (cVt_sR _ _ _ _ 2 _ 10), hs, RFc_sR_self hx, va_up_ne _ _ z]
      by_cases q : i9 < 16
      · rw [if_pos q, if_pos q]
        cases e : RFc (M x) i9 with
        | none => rfl
        | some l => exact cV_c (cVt_sR _ _ _ _ 6 _ 0)
      · rw [if_neg q, if_neg q]
  have row35 : cax (sR M x i o) a 35 = upd (cax M a 35) i (ruN 1 M o) := by
    funext i9
    show vRu 1 (sR M x i o) a i9 = upd (vRu 1 M a) i (ruN 1 M o) i9
    by_cases z : i9 = i
    · subst z
      rw [upd_self]
      unfold vRu
      rw [if_pos hi, rA_c (cVt_sR _ _ _ _ 2 _ 10), hs, RFc_sR_self hx, va_up_self]
      cases o with
      | none => rfl
      | some t => exact cV_c (cVt_sR _ _ _ _ 6 _ 1)
    · rw [upd_ne _ _ z]
      unfold vRu
      rw [rA_c (cVt_sR _ _ _ _ 2 _ 10), hs, RFc_sR_self hx, va_up_ne _ _ z]
      by_cases q : i9 < 16
      · rw [if_pos q, if_pos q]
        cases e : RFc (M x) i9 with
        | none => rfl
        | some l => exact cV_c (cVt_sR _ _ _ _ 6 _ 1)
      · rw [if_neg q, if_neg q]
  have row36 : cax (sR M x i o) a 36 = (fun y => if y / 24 = i then tmN M o (y % 24) else cax M a 36 y) := by
    funext y
    show vTm (sR M x i o) a y = (if y / 24 = i then tmN M o (y % 24) else vTm M a y)
    unfold vTm
    rw [rA_c (cVt_sR _ _ _ _ 2 _ 10), hs, RFc_sR_self hx]
    by_cases z : y / 24 = i
    · rw [if_pos z, if_pos (by omega), z, va_up_self]
      cases o with
      | none => rfl
      | some q =>
        show IFc (sR M x i (some q) (rA 6 (sR M x i (some q)) q 2)) (y % 24) = IFc (M (rA 6 M q 2)) (y % 24)
        rw [rA_c (cVt_sR _ _ _ _ _ _ _), IFc_sR]
    · rw [if_neg z, va_up_ne _ _ z]
      by_cases q : y / 24 < 16
      · rw [if_pos q, if_pos q]
        cases e : RFc (M x) (y / 24) with
        | none => rfl
        | some l =>
          show IFc (sR M x i o (rA 6 (sR M x i o) l 2)) (y % 24) = IFc (M (rA 6 M l 2)) (y % 24)
          rw [rA_c (cVt_sR _ _ _ _ _ _ _), IFc_sR]
      · rw [if_neg q, if_neg q]
  refine ⟨fun b hb q => ⟨(xs b hb).trans (h1 b hb q).1, (funext fun j => rows b j ⟨hb, Or.inl q⟩).trans (h1 b hb q).2⟩, (xs a ha).trans h2, ?_, hO⟩
  rw [← h3]
  funext j
  by_cases z3 : j = 36
  · rw [z3, va_up_self]
    exact row36
  · rw [va_up_ne _ _ z3]
    by_cases z2 : j = 35
    · rw [z2, va_up_self]
      exact row35
    · rw [va_up_ne _ _ z2]
      by_cases z1 : j = 34
      · rw [z1, va_up_self]
        exact row34
      · rw [va_up_ne _ _ z1]
        by_cases z0 : j = 33
        · rw [z0, va_up_self]
          exact row33
        · rw [va_up_ne _ _ z0]
          exact rows a j ⟨ha, Or.inr (by simp only [List.mem_cons, List.not_mem_nil, or_false]; omega)⟩
/-- what is watched: fields, arrays of references, int arrays -/
def wtc (t j : Nat) : Bool := match t with
  | 2 => decide (j ∈ ([0, 1, 2, 3, 4, 5, 6, 7, 8, 9, 10, 11, 12, 15, 16, 17, 18] : List Nat))
  | 9 => decide (j ∈ ([0, 1, 2, 3, 4, 5, 6, 7, 8, 12] : List Nat))
  | 3 => decide (j ∈ ([0, 1, 2] : List Nat))
  | 6 => decide (j ∈ ([0, 1, 2] : List Nat))
  | 1 => decide (j ∈ ([0, 1, 2, 3] : List Nat))
  | 10 => decide (j ∈ ([0, 1, 2] : List Nat))
  | 4 => decide (j ∈ ([0, 1, 3] : List Nat))
  | _ => false
def CVk (t : Nat) (K : Kp) (L : List Nat) (M M1 : Hp) : Prop := ∀ c, isk K L c t 0 → ∀ j, wtc t j = true → cVt t M1 c j = cVt t M c j
theorem fr.cv {t : Nat} {K : Kp} {L ts : List Nat} {M M1 : Hp} (h : fr K L ts M M1) (ht : t ∉ ts) : CVk t K L M M1 := fun c hc j _ => by
  unfold cVt
  rw [h.at hc ht]
theorem CVk.up {t t' n x : Nat} {K : Kp} {L : List Nat} {M : Hp} {e : va_E} (hx : isk K L x t' n) (ht : t' ≠ t) : CVk t K L M (va_up M x e) := fun c hc j _ => by
  unfold cVt
  rw [va_up_ne _ _ (hc.neT hx (fun z => ht z.symm))]
theorem fT.cv {t : Nat} {K : Kp} {L js : List Nat} {M M1 : Hp} (hg : ∀ c, isk K L c t 0 → ∃ fs, M c = .inr (t, fs)) (h : fT t K L js M M1) (hj : ∀ j ∈ js, wtc t j = false) : CVk t K L M M1 := fun c hc j hw => by
  obtain ⟨fs, e⟩ := hg c hc
  obtain ⟨fs', e', g⟩ := h c hc fs e
  rw [cVt_of j e, cVt_of j e']
  exact g j (fun z => by rw [hj j z] at hw; cases hw)
theorem W2 {cy : Nat → ClassId} {K : Kp} {L : List Nat} {M : Hp} (hW : WOK cy K L M) : ∀ c, isk K L c 2 0 → ∃ fs, M c = .inr (2, fs) := fun c hc => by
  obtain ⟨v0, v1, v2, v3, v4, v5, v6, v7, v8, v9, v10, v11, v12, v13, v14, v15, v16, v17, v18, v19, hM, _⟩ := hW.open_2 hc
  exact ⟨_, hM⟩
theorem W9 {cy : Nat → ClassId} {K : Kp} {L : List Nat} {M : Hp} (hW : WOK cy K L M) : ∀ c, isk K L c 9 0 → ∃ fs, M c = .inr (9, fs) := fun c hc => by
  obtain ⟨v0, v1, v2, v3, v4, v5, v6, v7, v8, v9, v10, v11, v12, v13, v14, v15, hM, _⟩ := hW.open_9 hc
  exact ⟨_, hM⟩
theorem W1 {cy : Nat → ClassId} {K : Kp} {L : List Nat} {M : Hp} (hW : WOK cy K L M) : ∀ c, isk K L c 1 0 → ∃ fs, M c = .inr (1, fs) := fun c hc => by
  obtain ⟨n_, v0, v1, v2, v3, hM, _⟩ := hW.open_1 hc
  exact ⟨_, hM⟩
def rtc (t : Nat) : Bool := decide (t ∈ [18, 62, 20, 61, 63])
def itc (t : Nat) : Bool := decide (t ∈ [51, 52, 53, 54, 55, 56, 57])
/-- nothing that is watched has changed -/
def SAME (K : Kp) (L : List Nat) (M M1 : Hp) : Prop := CVk 2 K L M M1 ∧ CVk 9 K L M M1 ∧ CVk 3 K L M M1 ∧ CVk 6 K L M M1 ∧ CVk 1 K L M M1 ∧ CVk 10 K L M M1 ∧ CVk 4 K L M M1 ∧ (∀ r t n, rtc t = true → isk K L r t n → RFc (M1 r) = RFc (M r)) ∧ (∀ r t n, itc t = true → isk K L r t n → IFc (M1 r) = IFc (M r)) ∧ (∀ r n, isk K L r 53 n → ALc (M1 r) = ALc (M r))
theorem seenB {cy : Nat → ClassId} {K : Kp} {L : List Nat} {M M1 : Hp} (hW : WOK cy K L M) (hS : SAME K L M M1) (b : Nat) (hb : isk K L b 2 0) (hn : isk K L (rA 1 M (rA 2 M b 16) 0) 63 120) : cfx M1 b = cfx M b ∧ cax M1 b = cax M b := by
  obtain ⟨v2, v9, v3, v6, v1, v10, v4, hr, hi, hl⟩ := hS
  have kb := KH hW hb
  obtain ⟨n6, q60, q61, q62⟩ := KD hW kb.2.2.2.2.2.2.1
  obtain ⟨n7, q70, q71, q72⟩ := KD hW kb.2.2.2.2.2.2.2.1
  have ku := KU hW kb.2.2.2.2.2.2.2.2
  have q60 := hn
  exact ⟨funext fun j => xf_cases (fun j f => f M1 b = f M b) (congrArg Int32.toInt (cV_c (v2 b hb 1 rfl))) (congrArg Int32.toInt (cV_c (v2 b hb 2 rfl))) (congrArg Int32.toInt (cV_c (v2 b hb 9 rfl))) (congrArg Int32.toInt (cV_c (v2 b hb 11 rfl))) (congrArg Int32.toInt (cV_c (v2 b hb 4 rfl))) (congrArg Int32.toInt (cV_c (v2 b hb 5 rfl))) (congrArg Int32.toInt (cV_c (v2 b hb 15 rfl))) (congrArg Int32.toInt (cV_c (v2 b hb 0 rfl))) (x1_c 16 (v2 b hb 16 rfl) (v1 _ kb.2.2.2.2.2.2.1 3 rfl)) (x1_c 17 (v2 b hb 17 rfl) (v1 _ kb.2.2.2.2.2.2.2.1 3 rfl)) (x10_c 2 (v2 b hb 18 rfl) (v10 _ kb.2.2.2.2.2.2.2.2 2 rfl)) (x10_c 1 (v2 b hb 18 rfl) (v10 _ kb.2.2.2.2.2.2.2.2 1 rfl)) (fun j => lf_c (vLo_c 12 (v2 b hb 8 rfl) (hr _ _ _ rfl kb.2.2.2.1) (fun i l q e => v9 _ (KA8 hW kb.2.2.2.1 q e) 12 rfl)) j) j, funext fun j => rowf_cases (fun j f => f M1 b = f M b) (vPl_c (v2 b hb 12 rfl) (hr _ _ _ rfl kb.2.2.2.2.2.1) (fun i l q e => ⟨v3 _ (KA12 hW kb.2.2.2.2.2.1 q e) 1 rfl, by obtain ⟨n9, k9⟩ := KL hW (KA12 hW kb.2.2.2.2.2.1 q e); exact hl _ _ k9⟩)) (vLf_c 2 (v2 b hb 12 rfl) (hr _ _ _ rfl kb.2.2.2.2.2.1) (fun i l q e => v3 _ (KA12 hW kb.2.2.2.2.2.1 q e) 2 rfl)) (vLf_c 0 (v2 b hb 12 rfl) (hr _ _ _ rfl kb.2.2.2.2.2.1) (fun i l q e => v3 _ (KA12 hW kb.2.2.2.2.2.1 q e) 0 rfl)) (vWho_c (v2 b hb 8 rfl) (hr _ _ _ rfl kb.2.2.2.1) (fun i l q e => ⟨v9 _ (KA8 hW kb.2.2.2.1 q e) 1 rfl, v4 _ (KT hW (KA8 hW kb.2.2.2.1 q e)).1 0 rfl⟩)) (vTe_c 2 (v2 b hb 8 rfl) (hr _ _ _ rfl kb.2.2.2.1) (fun i l q e => v9 _ (KA8 hW kb.2.2.2.1 q e) 2 rfl)) (vTe_c 3 (v2 b hb 8 rfl) (hr _ _ _ rfl kb.2.2.2.1) (fun i l q e => v9 _ (KA8 hW kb.2.2.2.1 q e) 3 rfl)) (vTe_c 5 (v2 b hb 8 rfl) (hr _ _ _ rfl kb.2.2.2.1) (fun i l q e => v9 _ (KA8 hW kb.2.2.2.1 q e) 5 rfl)) (vTe_c 6 (v2 b hb 8 rfl) (hr _ _ _ rfl kb.2.2.2.1) (fun i l q e => v9 _ (KA8 hW kb.2.2.2.1 q e) 6 rfl)) (vTe_c 7 (v2 b hb 8 rfl) (hr _ _ _ rfl kb.2.2.2.1) (fun i l q e => v9 _ (KA8 hW kb.2.2.2.1 q e) 7 rfl)) (vKd_c (v2 b hb 8 rfl) (hr _ _ _ rfl kb.2.2.2.1) (fun i l q e => ⟨v9 _ (KA8 hW kb.2.2.2.1 q e) 1 rfl, v4 _ (KT hW (KA8 hW kb.2.2.2.1 q e)).1 1 rfl⟩)) (vHr_c (v2 b hb 8 rfl) (hr _ _ _ rfl kb.2.2.2.1) (fun i l q e => ⟨v9 _ (KA8 hW kb.2.2.2.1 q e) 8 rfl, fun u hu => v9 _ ((KT hW (KA8 hW kb.2.2.2.1 q e)).2 u hu) 0 rfl⟩)) (vTe_c 4 (v2 b hb 8 rfl) (hr _ _ _ rfl kb.2.2.2.1) (fun i l q e => v9 _ (KA8 hW kb.2.2.2.1 q e) 4 rfl)) (vOw_c (v2 b hb 8 rfl) (hr _ _ _ rfl kb.2.2.2.1) (fun i l q e => ⟨v9 _ (KA8 hW kb.2.2.2.1 q e) 1 rfl, v4 _ (KT hW (KA8 hW kb.2.2.2.1 q e)).1 3 rfl, fun u hu => v2 _ (KP hW (KT hW (KA8 hW kb.2.2.2.1 q e)).1 u hu) 0 rfl⟩)) (vTn_c (v2 b hb 8 rfl) (hr _ _ _ rfl kb.2.2.2.1)) (vRn_c (v2 b hb 10 rfl) (hr _ _ _ rfl kb.2.2.2.2.1)) (vRu_c 0 (v2 b hb 10 rfl) (hr _ _ _ rfl kb.2.2.2.2.1) (fun i l q e => v6 _ (KA10 hW kb.2.2.2.2.1 q e) 0 rfl)) (vRu_c 1 (v2 b hb 10 rfl) (hr _ _ _ rfl kb.2.2.2.2.1) (fun i l q e => v6 _ (KA10 hW kb.2.2.2.2.1 q e) 1 rfl)) (vTm_c (v2 b hb 10 rfl) (hr _ _ _ rfl kb.2.2.2.2.1) (fun i l q e => ⟨v6 _ (KA10 hW kb.2.2.2.2.1 q e) 2 rfl, (hi _ _ _ rfl (KR hW (KA10 hW kb.2.2.2.2.1 q e)))⟩)) (vEn_c (v2 b hb 3 rfl) (hi _ _ _ rfl kb.1)) (vMo_c (v2 b hb 16 rfl) (v1 _ kb.2.2.2.2.2.2.1 0 rfl) (hr _ _ _ rfl q60) (fun i l q e => v9 _ (KA0 hW q60 (by omega) e) 0 rfl)) (vDs_c 16 1 (v2 b hb 16 rfl) (v1 _ kb.2.2.2.2.2.2.1 1 rfl) (hi _ _ _ rfl q61)) (vDs_c 16 2 (v2 b hb 16 rfl) (v1 _ kb.2.2.2.2.2.2.1 2 rfl) (hi _ _ _ rfl q62)) (vDs_c 17 1 (v2 b hb 17 rfl) (v1 _ kb.2.2.2.2.2.2.2.1 1 rfl) (hi _ _ _ rfl q71)) (vDs_c 17 2 (v2 b hb 17 rfl) (v1 _ kb.2.2.2.2.2.2.2.1 2 rfl) (hi _ _ _ rfl q72)) (vUn_c (v2 b hb 18 rfl) (v10 _ kb.2.2.2.2.2.2.2.2 0 rfl) (hi _ _ _ rfl ku)) (vLe_c (v2 b hb 6 rfl) (hi _ _ _ rfl kb.2.1)) (vHe_c (v2 b hb 7 rfl) (hr _ _ _ rfl kb.2.2.1) (fun i l q e => v9 _ (KA7 hW kb.2.2.1 q e) 0 rfl)) (vEt_c (v2 b hb 12 rfl) (hr _ _ _ rfl kb.2.2.2.2.2.1) (fun i l q e => ⟨v3 _ (KA12 hW kb.2.2.2.2.2.1 q e) 1 rfl, by obtain ⟨n9, k9⟩ := KL hW (KA12 hW kb.2.2.2.2.2.1 q e); exact hi _ _ _ rfl k9⟩)) (fun _ => rfl) j⟩
theorem SAME.oc {cy : Nat → ClassId} {B : Nat → Nat × Nat} {K : Kp} {L : List Nat} {M M1 : Hp} (hW : WOK cy K L M) (hS : SAME K L M M1) (h : OC B K L M) : OC B K L M1 := by
  obtain ⟨v2, v9, v3, v6, v1, v10, v4, hr, hi, hl⟩ := hS
  refine h.c (fun b hb j hj => v2 b hb j ?_) (fun b hb j hj => ⟨v1 _ (KH hW hb).2.2.2.2.2.2.1 j ?_, v1 _ (KH hW hb).2.2.2.2.2.2.2.1 j ?_⟩) (fun b hb => v10 _ (KH hW hb).2.2.2.2.2.2.2.2 0 rfl) (fun b hb i l q e => v6 _ (KA10 hW (KH hW hb).2.2.2.2.1 q e) 2 rfl) (fun b hb => hr _ _ _ rfl (KH hW hb).2.2.2.2.2.1) (fun b hb => hr _ _ _ rfl (KH hW hb).2.2.2.1) (fun b hb => hr _ _ _ rfl (KH hW hb).2.2.2.2.1) (fun b hb i l q e => v9 _ (KA8 hW (KH hW hb).2.2.2.1 q e) 0 rfl) (fun b hb => hr _ _ _ rfl (KH hW hb).2.2.1) (fun b hb i l q e => v3 _ (KA12 hW (KH hW hb).2.2.2.2.2.1 q e) 1 rfl)
  · revert hj
    simp only [wtc, List.mem_cons, List.not_mem_nil, or_false, decide_eq_true_eq]
    omega
  · simp only [wtc, List.mem_cons, List.not_mem_nil, or_false, decide_eq_true_eq]
    omega
  · simp only [wtc, List.mem_cons, List.not_mem_nil, or_false, decide_eq_true_eq]
    omega
theorem VC.same {cy : Nat → ClassId} {B : Nat → Nat × Nat} {K : Kp} {L : List Nat} {M0 M M1 : Hp} {a : Nat} {X : Nat → Int} {Y : Nat → Nat → Int32} (h : VC B K L M0 M a X Y) (hW : WOK cy K L M) (ha : isk K L a 2 0) (hS : SAME K L M M1) : VC B K L M0 M1 a X Y := by
  obtain ⟨h1, h2, h3, hB⟩ := h
  have g := fun b (hb : isk K L b 2 0) => seenB hW hS b hb (hB.n16 b hb)
  exact ⟨fun b hb q => ⟨(g b hb).1.trans (h1 b hb q).1, (g b hb).2.trans (h1 b hb q).2⟩, (g a ha).1.trans h2, (g a ha).2.trans h3, SAME.oc hW hS hB⟩
theorem SAME.fr {K : Kp} {L ts : List Nat} {M M1 : Hp} (h2 : CVk 2 K L M M1) (h9 : CVk 9 K L M M1) (h3 : CVk 3 K L M M1) (h6 : CVk 6 K L M M1) (h1 : CVk 1 K L M M1) (h10 : CVk 10 K L M M1) (h4 : CVk 4 K L M M1) (hF : fr K L ts M M1) (ht : ∀ t ∈ ts, rtc t = false ∧ itc t = false ∧ t ≠ 53) : SAME K L M M1 := ⟨h2, h9, h3, h6, h1, h10, h4, fun r t n w i => by rw [hF.at i (fun z => by rw [(ht t z).1] at w; cases w)], fun r t n w i => by rw [hF.at i (fun z => by rw [(ht t z).2.1] at w; cases w)], fun r n i => by rw [hF.at i (fun z => (ht _ z).2.2 rfl)]⟩
theorem SAME.ad {K : Kp} {L : List Nat} {M M1 : Hp} (h : ∀ b, b ∈ L → M1 b = M b) : SAME K L M M1 := by
  have v : ∀ t, CVk t K L M M1 := fun t c hc j _ => by
    unfold cVt
    rw [h c hc.1]
  exact ⟨v 2, v 9, v 3, v 6, v 1, v 10, v 4, fun r t n w i => by rw [h r i.1], fun r t n w i => by rw [h r i.1], fun r n i => by rw [h r i.1]⟩
/-- the pool grows by a thing q that is no House: it is s's -/
theorem VC.ad {cy : Nat → ClassId} {B : Nat → Nat × Nat} {K K' : Kp} {L L' : List Nat} {M0 M M1 : Hp} {a q : Nat} {X : Nat → Int} {Y : Nat → Nat → Int32} (s : Nat × Nat) (h : VC B K L M0 M a X Y) (hW : WOK cy K L M) (ha : isk K L a 2 0) (hx : ext K L K' L') (hM : ∀ b, b ∈ L → M1 b = M b) (hq : q ∉ L) (hn : ∀ b, isk K' L' b 2 0 → isk K L b 2 0) : VC (va_up B q s) K' L' M0 M1 a X Y := by
  have hS : SAME K L M M1 := SAME.ad hM
  obtain ⟨h1, h2, h3, hB⟩ := h.same hW ha hS
  have nb : ∀ b t n, isk K L b t n → va_up B q s b = B b := fun b t n i => va_up_ne _ _ (fun z => hq (z ▸ i.1))
  obtain ⟨v2, v9, v3, v6, v1, v10, v4, hr, hi, hl⟩ := hS
  have e2 : ∀ b j, isk K L b 2 0 → rA 2 M1 b j = rA 2 M b j := fun b j hb => by
    unfold rA cR cVt
    rw [hM b hb.1]
  have eo : ∀ t b j n, isk K L b t n → rA t M1 b j = rA t M b j := fun t b j n hb => by
    unfold rA cR cVt
    rw [hM b hb.1]
  refine ⟨fun b hb q => h1 b (hn b hb) q, h2, h3, ⟨fun b hb j hj => ?_, fun b hb => ?_, fun b hb j hj => ?_, fun b hb j hj => ?_, fun b hb => ?_, fun b hb i l hi9 e => ?_, fun b hb i l hi9 e => ?_, fun b hb i l hi9 e => ?_, fun b hb i l hi9 e => hB.nm b (hn b hb) i l hi9 e, fun b hb i l hi9 e => hB.hd b (hn b hb) i l hi9 e, fun b hb => (hB.n16 b (hn b hb)).ext hx, fun b hb => (hB.n17 b (hn b hb)).ext hx⟩⟩
  · have kb := KH hW (hn b hb)
    have g := hB.e0 b (hn b hb) j hj
    rw [e2 b j (hn b hb)] at g ⊢
    simp only [List.mem_cons, List.not_mem_nil, or_false] at hj
    rcases hj with rfl | rfl | rfl | rfl | rfl | rfl | rfl | rfl
    · rw [nb _ _ _ kb.1]; exact g
    · rw [nb _ _ _ kb.2.1]; exact g
    · rw [nb _ _ _ kb.2.2.1]; exact g
    · rw [nb _ _ _ kb.2.2.2.1]; exact g
    · rw [nb _ _ _ kb.2.2.2.2.1]; exact g
    · rw [nb _ _ _ kb.2.2.2.2.2.1]; exact g
    · rw [nb _ _ _ kb.2.2.2.2.2.2.1]; exact g
    · rw [nb _ _ _ kb.2.2.2.2.2.2.2.2]; exact g
  · have kb := KH hW (hn b hb)
    have g := hB.e17 b (hn b hb)
    rw [e2 b 17 (hn b hb)] at g ⊢
    rw [nb _ _ _ kb.2.2.2.2.2.2.2.1]
    exact g
  · have kb := KH hW (hn b hb)
    obtain ⟨n6, q60, q61, q62⟩ := KD hW kb.2.2.2.2.2.2.1
    have g := hB.d16 b (hn b hb) j hj
    rw [e2 b 16 (hn b hb), eo 1 _ _ _ kb.2.2.2.2.2.2.1] at g ⊢
    rcases (show j = 0 ∨ j = 1 ∨ j = 2 by omega) with rfl | rfl | rfl
    · rw [nb _ _ _ q60]; exact g
    · rw [nb _ _ _ q61]; exact g
    · rw [nb _ _ _ q62]; exact g
  · have kb := KH hW (hn b hb)
    obtain ⟨n6, q60, q61, q62⟩ := KD hW kb.2.2.2.2.2.2.2.1
    have g := hB.d17 b (hn b hb) j hj
    rw [e2 b 17 (hn b hb), eo 1 _ _ _ kb.2.2.2.2.2.2.2.1] at g ⊢
    rcases (show j = 0 ∨ j = 1 ∨ j = 2 by omega) with rfl | rfl | rfl
    · rw [nb _ _ _ q60]; exact g
    · rw [nb _ _ _ q61]; exact g
    · rw [nb _ _ _ q62]; exact g
  · have kb := KH hW (hn b hb)
    have g := hB.un b (hn b hb)
    rw [e2 b 18 (hn b hb), eo 10 _ _ _ kb.2.2.2.2.2.2.2.2] at g ⊢
    rw [nb _ _ _ (KU hW kb.2.2.2.2.2.2.2.2)]
    exact g
  · have kb := KH hW (hn b hb)
    have g := hB.lf b (hn b hb) i l hi9 e
    rw [e2 b 12 (hn b hb), hM _ kb.2.2.2.2.2.1.1] at e
    have il := KA12 hW kb.2.2.2.2.2.1 hi9 e
    rw [eo 3 _ _ _ il] at g ⊢
    rw [nb _ _ _ il, nb _ _ _ (KL hW il).choose_spec]
    exact g
  · have kb := KH hW (hn b hb)
    have g := hB.te b (hn b hb) i l hi9 e
    rw [e2 b 8 (hn b hb), hM _ kb.2.2.2.1.1] at e
    rw [nb _ _ _ (KA8 hW kb.2.2.2.1 hi9 e)]
    exact g
  · have kb := KH hW (hn b hb)
    have g := hB.ru b (hn b hb) i l hi9 e
    rw [e2 b 10 (hn b hb), hM _ kb.2.2.2.2.1.1] at e
    have il := KA10 hW kb.2.2.2.2.1 hi9 e
    rw [eo 6 _ _ _ il] at g ⊢
    rw [nb _ _ _ il, nb _ _ _ (KR hW il)]
    exact g
