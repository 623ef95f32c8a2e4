
theorem upd_self (f : Nat → Int32) (k : Nat) (v : Int32) : upd f k v k = v := by simp [upd]
theorem upd_ne (f : Nat → Int32) {k j : Nat} (v : Int32) (h : j ≠ k) : upd f k v j = f j := by simp [upd, h]
theorem HA.leaf {p q : Nat → Int32} {d : Nat} {n : Int32} (h : HA p q) (hn : 0 ≤ n.toInt) : HA (upd p d n) (upd q d 0) := fun e he => by
  by_cases z : e = d
  · subst z
    rw [upd_self, upd_self]
    exact Or.inr hn
  · rw [upd_ne _ _ z, upd_ne _ _ z]
    exact h e he
theorem HA.tear {p q : Nat → Int32} {d : Nat} {v : Int32} (h : HA p q) : HA (upd p d (-1)) (upd q d v) := fun e he => by
  by_cases z : e = d
  · subst z
    rw [upd_self]
    exact Or.inl rfl
  · rw [upd_ne _ _ z, upd_ne _ _ z]
    exact h e he
theorem HA.set {p q : Nat → Int32} {d : Nat} {v : Int32} (h : HA p q) (hv : p d = -1 ∨ v.toInt ≤ (p d).toInt) : HA p (upd q d v) := fun e he => by
  by_cases z : e = d
  · subst z
    rw [upd_self]
    exact hv
  · rw [upd_ne _ _ z]
    exact h e he
theorem HA.dec {p q f3 : Nat → Int32} {k t : Nat} (h : HA p q) (hk : k < 1000) (e3 : q = f3) (h3 : f3 k = nI t) (ht : 1 ≤ t) (ht2 : t < 1000) : HA p (upd q k (nI (t - 1))) := HA.set h ((h k hk).imp id (fun g => by
  rw [e3, h3, nI_toInt (by omega)] at g
  rw [nI_toInt (by omega)]
  omega))
theorem cn_s (f : Nat → Int32) (n : Nat) (v : Int32) : cn f (n + 1) v = cn f n v + (if f n = v then 1 else 0) := by
  unfold cn
  rw [List.range_succ, List.countP_append]
  by_cases h : f n = v
  · simp [h]
  · simp [h]
theorem cn_congr {f g : Nat → Int32} {n : Nat} {v : Int32} (h : ∀ i, i < n → g i = f i) : cn g n v = cn f n v := by
  induction n with
  | zero => rfl
  | succ n ih =>
    rw [cn_s, cn_s, ih (fun i hi => h i (by omega)), h n (by omega)]
theorem cn_shift (f : Nat → Int32) (n : Nat) (v : Int32) : cn (fun i => f (i + 1)) n v ≤ cn f (n + 1) v := by
  induction n with
  | zero => exact Nat.zero_le _
  | succ n ih =>
    rw [cn_s, cn_s f (n + 1)]
    exact Nat.add_le_add_right ih _
theorem HB.nn {u mv : Int} {q l : Nat → Int32} (h : HB u mv q l) : (∀ d, d < 1000 → 0 ≤ (q d).toInt) ∧ 0 ≤ mv := ⟨fun d hd => Int.le_trans (Int.natCast_nonneg _) (h.1 d hd), Int.le_trans (Int.natCast_nonneg _) h.2⟩
theorem HB.zero {mv : Int} {q l : Nat → Int32} (h : ∀ d, d < 1000 → 0 ≤ (q d).toInt) (hm : 0 ≤ mv) : HB 0 mv q l := ⟨h, hm⟩
theorem nn_upd {q : Nat → Int32} {k : Nat} {v : Int32} (h : ∀ d, d < 1000 → 0 ≤ (q d).toInt) (hv : 0 ≤ v.toInt) : ∀ d, d < 1000 → 0 ≤ (upd q k v d).toInt := fun d hd => by
  by_cases z : d = k
  · subst z
    rw [upd_self]
    exact hv
  · rw [upd_ne _ _ z]
    exact h d hd
/-- what remember() does to the days that may be undone -/
def REMF (u : Int) (l : Nat → Int32) (w : Int32) (n' : Int) (l' : Nat → Int32) : Prop := (0 ≤ u ∧ u < 60 ∧ n' = u + 1 ∧ l' = upd l u.toNat w) ∨ (u = 60 ∧ n' = 60 ∧ (∀ i, i < 59 → l' i = l (i + 1)) ∧ l' 59 = w)
theorem cn_rem {u n' : Int} {l l' : Nat → Int32} {w : Int32} (h : REMF u l w n' l') (v : Int32) : cn l' n'.toNat v ≤ cn l u.toNat v + (if w = v then 1 else 0) := by
  rcases h with ⟨h0, h1, h2, h3⟩ | ⟨h1, h2, h3, h4⟩
  · have e : n'.toNat = u.toNat + 1 := by omega
    rw [e, cn_s, h3, upd_self, cn_congr (f := l) (g := upd l u.toNat w) (fun i hi => upd_ne _ _ (by omega))]
    exact Nat.le_refl _
  · rw [h2, h1]
    show cn l' (59 + 1) v ≤ cn l (59 + 1) v + _
    rw [cn_s, h4, cn_congr (f := fun i => l (i + 1)) h3]
    exact Nat.add_le_add_right (cn_shift l 59 v) _
theorem nI_ne {a b : Nat} (ha : a < 1000) (hb : b < 1000) (h : a ≠ b) : ¬ nI a = nI b := fun e => h ((iEQ (by omega) (by omega)).mp e)
theorem HB.remD {u mv n' : Int} {q l l' : Nat → Int32} {d k : Nat} {x : Int32} (h : HB u mv q l) (hd : d < 1000) (hk : k = d) (r : REMF u l (nI d) n' l') (hx : x.toInt = (q k).toInt + 1) : HB n' mv (upd q k x) l' := by
  subst hk
  refine ⟨fun e he => ?_, ?_⟩
  · have h1 := cn_rem r (nI e)
    have h2 := h.1 e he
    by_cases z : e = k
    · subst z
      rw [if_pos rfl] at h1
      rw [upd_self]
      omega
    · rw [if_neg (nI_ne hd he (fun y => z y.symm))] at h1
      rw [upd_ne _ _ z]
      omega
  · have h1 := cn_rem r (-1)
    have h2 := h.2
    rw [if_neg (nI_ne_m1 (by omega))] at h1
    omega
theorem HB.remM {u mv mv' n' : Int} {q l l' : Nat → Int32} (h : HB u mv q l) (r : REMF u l (-1) n' l') (hm : mv' = mv + 1) : HB n' mv' q l' := by
  subst hm
  refine ⟨fun e he => ?_, ?_⟩
  · have h1 := cn_rem r (nI e)
    have h2 := h.1 e he
    rw [if_neg (fun y => nI_ne_m1 (by omega) y.symm)] at h1
    omega
  · have h1 := cn_rem r (-1)
    have h2 := h.2
    rw [if_pos rfl] at h1
    omega
theorem HB.undoD {u mv : Int} {q l : Nat → Int32} {n d k : Nat} {x : Int32} (h : HB u mv q l) (hu : u = ((n + 1 : Nat) : Int)) (hd : d < 1000) (hk : k = d) (hl : l n = nI d) (hx : x.toInt = (q k).toInt - 1) : HB (n : Int) mv (upd q k x) l := by
  subst hk
  subst hu
  have e : ((n + 1 : Nat) : Int).toNat = n + 1 := by omega
  have e2 : (n : Int).toNat = n := by omega
  unfold HB at h ⊢
  rw [e] at h
  rw [e2]
  refine ⟨fun e he => ?_, ?_⟩
  · have h2 := h.1 e he
    rw [cn_s, hl] at h2
    by_cases z : e = k
    · subst z
      rw [if_pos rfl] at h2
      rw [upd_self]
      omega
    · rw [if_neg (nI_ne hd he (fun y => z y.symm))] at h2
      rw [upd_ne _ _ z]
      omega
  · have h2 := h.2
    rw [cn_s, hl, if_neg (nI_ne_m1 (by omega))] at h2
    omega
theorem HB.undoP {u mv : Int} {q l : Nat → Int32} {n d : Nat} (h : HB u mv q l) (hu : u = ((n + 1 : Nat) : Int)) (hd : d < 1000) (hl : l n = nI d) : 1 ≤ (q d).toInt := by
  subst hu
  have e : ((n + 1 : Nat) : Int).toNat = n + 1 := by omega
  have h2 := h.1 d hd
  rw [e, cn_s, hl, if_pos rfl] at h2
  omega
theorem HB.undoM {u mv mv' : Int} {q l : Nat → Int32} {n : Nat} (h : HB u mv q l) (hu : u = ((n + 1 : Nat) : Int)) (hl : l n = -1) (hm : mv' = mv - 1) : HB (n : Int) mv' q l ∧ 1 ≤ mv := by
  subst hm
  subst hu
  have e : ((n + 1 : Nat) : Int).toNat = n + 1 := by omega
  have e2 : (n : Int).toNat = n := by omega
  unfold HB at h ⊢
  rw [e] at h
  rw [e2]
  have h3 := h.2
  rw [cn_s, hl, if_pos rfl] at h3
  refine ⟨⟨fun e he => ?_, ?_⟩, ?_⟩
  · have h2 := h.1 e he
    rw [cn_s, hl, if_neg (fun y => nI_ne_m1 (by omega) y.symm)] at h2
    omega
  · omega
  · omega
theorem HC.st {t : Int} {e i : Nat → Int32} {k : Nat} {v n : Int32} (h : HC t e i) (hn : 1 ≤ n.toInt) : HC t (upd e k v) (upd i k n) := fun j hj hjt => by
  by_cases z : j = k
  · subst z
    rw [upd_self, upd_self]
    exact Or.inr hn
  · rw [upd_ne _ _ z, upd_ne _ _ z]
    exact h j hj hjt
theorem HC.beg {t t' : Int} {e i : Nat → Int32} {k n : Nat} {z : Int32} (h : HC t e i) (ht : t = (n : Int)) (ht' : t' = (n : Int) + 1) (hk : k = n) : HC t' (upd e k (-1)) (upd i k z) := fun j hj hjt => by
  subst hk
  by_cases y : j = k
  · subst y
    rw [upd_self]
    exact Or.inl rfl
  · rw [upd_ne _ _ y, upd_ne _ _ y]
    exact h j hj (by omega)
theorem HD.rule {first rules rules' mends : Int} {rd md : Nat → Int32} {k r : Nat} {day : Int32} (h : HD first rules mends rd md) (hr : rules = (r : Int)) (hr' : rules' = (r : Int) + 1) (hk : k = r) (hd : r = 0 → day.toInt ≤ first) : HD first rules' mends (upd rd k day) md := by
  subst hk
  refine ⟨fun _ => ?_, h.2⟩
  by_cases y : k = 0
  · subst y
    rw [upd_self]
    exact hd rfl
  · rw [upd_ne _ _ (fun q => y q.symm)]
    exact h.1 (by omega)
theorem HD.mend {first rules mends mends' : Int} {rd md : Nat → Int32} {k r : Nat} {day : Int32} (h : HD first rules mends rd md) (hr : mends = (r : Int)) (hr' : mends' = (r : Int) + 1) (hk : k = r) (hd : first ≤ day.toInt) : HD first rules mends' rd (upd md k day) := by
  subst hk
  refine ⟨h.1, fun m hm hmm => ?_⟩
  by_cases y : m = k
  · subst y
    rw [upd_self]
    exact hd
  · rw [upd_ne _ _ y]
    exact h.2 m hm (by omega)
theorem HD.clr {first rules mends : Int} {rd md : Nat → Int32} (h : HD first rules mends rd md) : HD first rules 0 rd md := ⟨h.1, fun m _ q => absurd q (by omega)⟩
theorem pv_upd {first : Int} {e : Nat → Int32} {k n : Nat} {v : Int32} (h : k ≤ n) : pv first (upd e n v) k = pv first e k := by
  cases k with
  | zero => rfl
  | succ k =>
    show (upd e n v k).toInt = (e k).toInt
    rw [upd_ne _ _ (by omega)]
theorem HE.fin {first to years years' closed : Int} {e : Nat → Int32} {k n : Nat} {day : Int32} (h : HE first to years closed e) (hy : years = (n : Int)) (hy' : years' = (n : Int) + 1) (hk : k = n) (hc : 0 ≤ closed) (h1 : pv first e n + 1 ≤ day.toInt) (h2 : day.toInt ≤ pv first e n + 100) : HE first to years' closed (upd e k day) := by
  subst hk
  obtain ⟨g1, g2, g3⟩ := h
  refine ⟨by omega, by rw [pv_upd (by omega)]; exact g2, fun j hj hjt => ?_⟩
  rw [pv_upd (by omega)]
  by_cases y : j = k
  · subst y
    rw [upd_self]
    exact ⟨h1, h2⟩
  · rw [upd_ne _ _ y]
    exact g3 j hj (by omega)
theorem HE.close {first to to' years closed closed' : Int} {e : Nat → Int32} {c : Nat} (h : HE first to years closed e) (hc : closed = (c : Int)) (hc' : closed' = (c : Int) + 1) (hy : (c : Int) < years) (ht : to' = (e c).toInt) : HE first to' years closed' e := by
  obtain ⟨g1, g2, g3⟩ := h
  subst hc
  subst hc'
  have e1 : ((c : Int) + 1).toNat = c + 1 := by omega
  exact ⟨by omega, by rw [e1]; exact ht, g3⟩
/-- a House that house() has just made -/
theorem HI.house {x X : Nat → Int} {y Y : Nat → Nat → Int32} (h : FRS x y) (hf : ∀ j, j = 10 ∨ j = 11 ∨ j = 12 ∨ j = 13 ∨ j = 14 ∨ j = 15 ∨ j = 16 → X j = x j) (h1 : X 1 = X 0 - 1) (h2 : ∀ d, d < 1000 → Y 2 d = -1) (h3 : ∀ d, d < 1000 → 0 ≤ (Y 3 d).toInt) : HI X Y := by
  obtain ⟨⟨a10, a11, a12, a13, a14, a15, a16, _⟩, _⟩ := h
  have e10 := (hf 10 (by omega)).trans a10
  have e11 := (hf 11 (by omega)).trans a11
  have e12 := (hf 12 (by omega)).trans a12
  have e13 := (hf 13 (by omega)).trans a13
  have e14 := (hf 14 (by omega)).trans a14
  have e15 := (hf 15 (by omega)).trans a15
  have e16 := (hf 16 (by omega)).trans a16
  refine ⟨fun d hd => Or.inl (h2 d hd), ?_, ?_, ?_, ?_⟩
  · rw [e16, e14]
    exact HB.zero h3 (by omega)
  · rw [e10]
    exact fun k hk q => absurd q (by omega)
  · rw [e11, e15]
    exact ⟨fun q => absurd q (by omega), fun m _ q => absurd q (by omega)⟩
  · rw [e12, e13, h1]
    exact ⟨by omega, rfl, fun k _ q => absurd q (by omega)⟩
theorem va_up_up {α : Type} (f : Nat → α) (k : Nat) (v w : α) : va_up (va_up f k v) k w = va_up f k w := by
  funext j
  by_cases q : j = k
  · subst q
    rw [va_up_self, va_up_self]
  · rw [va_up_ne _ _ q, va_up_ne _ _ q, va_up_ne _ _ q]
theorem va_up_id {α : Type} (f : Nat → α) (k : Nat) : va_up f k (f k) = f := by
  funext j
  by_cases q : j = k
  · subst q
    rw [va_up_self]
  · rw [va_up_ne _ _ q]
theorem remf1 {u : Int} {l : Nat → Int32} {w : Int32} {n k : Nat} (hu : u = (n : Int)) (hn : n < 60) (hk : k = n) : REMF u l w ((n + 1 : Nat) : Int) (upd l k w) := by
  subst hk
  subst hu
  exact Or.inl ⟨by omega, by omega, by omega, by rw [show ((k : Int)).toNat = k from by omega]⟩
theorem remf2 {u n' : Int} {l g : Nat → Int32} {w : Int32} {k : Nat} (hu : u = 60) (hn : n' = 60) (hg : ∀ i : Nat, i + 1 < 60 → g i = l (i + 1)) (hk : k = 59) : REMF u l w n' (upd g k w) := by
  subst hk
  refine Or.inr ⟨hu, hn, fun i hi => ?_, upd_self _ _ _⟩
  rw [upd_ne _ _ (show i ≠ 59 by omega)]
  exact hg i (by omega)
theorem sh1 {g y : Nat → Int32} {k n : Nat} {v : Int32} (h1 : ∀ i : Nat, i + 1 < n → g i = y (i + 1)) (h2 : ∀ i : Nat, n ≤ i + 1 → g i = y i) (hn : 1 ≤ n) (hk : k = n - 1) (hv : v = g n) : ∀ i : Nat, i + 1 < n + 1 → upd g k v i = y (i + 1) := fun i hi => by
  by_cases q : i = k
  · subst q
    rw [upd_self, hv, h2 n (by omega)]
    rw [show i + 1 = n from by omega]
  · rw [upd_ne _ _ q]
    exact h1 i (by omega)
theorem sh2 {g y : Nat → Int32} {k n : Nat} {v : Int32} (h2 : ∀ i : Nat, n ≤ i + 1 → g i = y i) (hn : 1 ≤ n) (hk : k = n - 1) : ∀ i : Nat, n + 1 ≤ i + 1 → upd g k v i = y i := fun i hi => by
  rw [upd_ne _ _ (show i ≠ k by omega)]
  exact h2 i (by omega)
theorem fill1 {g : Nat → Int32} {k n : Nat} (h : ∀ i : Nat, i < n → g i = -1) (hk : k = n) : ∀ i : Nat, i < n + 1 → upd g k (-1) i = -1 := fun i hi => by
  by_cases q : i = k
  · subst q
    rw [upd_self]
  · rw [upd_ne _ _ q]
    exact h i (by omega)
theorem haLt {p q f2 f3 : Nat → Int32} {k c2 c : Nat} (h : HA p q) (e2 : p = f2) (e3 : q = f3) (hk : k < 1000) (h2 : f2 k = nI c2) (h3 : f3 k = nI c) (b2 : c2 < 1000) (b3 : c < 1000) : c ≤ c2 := by
  subst e2
  subst e3
  have := h k hk
  rw [h2, h3] at this
  rcases this with this | this
  · exact absurd this (nI_ne_m1 (by omega))
  · rw [nI_toInt (by omega), nI_toInt (by omega)] at this
    omega
theorem geI {x : Int32} {n : Nat} (h : ¬ x < nI n) (hn : n < 2147483648) : (n : Int) ≤ x.toInt := by
  have := Int32.le_iff_toInt_le.mp (Int32.not_lt.mp h)
  rw [nI_toInt hn] at this
  exact this
theorem leI2 {x : Int32} {n : Nat} (h : x ≤ nI n) (hn : n < 2147483648) : x.toInt ≤ (n : Int) := by
  have := Int32.le_iff_toInt_le.mp h
  rw [nI_toInt hn] at this
  exact this
theorem ge1 {x : Int32} (h : ¬ x < 1) : 1 ≤ x.toInt := Int32.le_iff_toInt_le.mp (Int32.not_lt.mp h)
theorem pv_0 {first : Int} {e : Nat → Int32} {n : Nat} (h : n = 0) : pv first e n = first - 1 := by
  subst h
  rfl
theorem pv_s {first : Int} {e : Nat → Int32} {n : Nat} (h : 1 ≤ n) : pv first e n = (e (n - 1)).toInt := by
  obtain ⟨k, rfl⟩ : ∃ k, n = k + 1 := ⟨n - 1, by omega⟩
  rfl
theorem GI.house {cy : Nat → ClassId} {K : Kp} {L : List Nat} {M M1 : Hp} {z1 z2 a : Nat} {X : Nat → Int} {Y : Nat → Nat → Int32} (hW : WOM cy K L M) (hz : isk K L z1 23 8) (hz2 : z2 < 8) (h : GI K L z1 z2 M) (ha : RFc (M z1) z2 = some a) (hV : VW K L M M1 a X Y) (hq : M1 z1 = M z1) (hH : HI X Y) : GI K L z1 (z2 + 1) M1 := by
  refine ⟨by rw [hq]; exact h.1, fun k b hk hb => ?_, fun k b hk hk8 hb => ?_, hV.2.2.2⟩
  · rw [hq] at hb
    by_cases q : b = a
    · subst q
      rw [hV.2.1, hV.2.2.1]
      exact hH
    · have hne : k ≠ z2 := fun z => q (by
        subst z
        exact Option.some.inj (hb.symm.trans ha))
      have hs := hV.1 b (hs23 hW hz (by omega) hb) q
      rw [hs.1, hs.2]
      exact h.2.1 k b (by omega) hb
  · rw [hq] at hb
    have q : b ≠ a := fun z => by
      subst z
      have := h.1 k z2 b hk8 (by omega) hb ha
      omega
    rw [(hV.1 b (hs23 hW hz hk8 hb) q).1, (hV.1 b (hs23 hW hz hk8 hb) q).2]
    exact h.2.2.1 k b (by omega) hk8 hb
