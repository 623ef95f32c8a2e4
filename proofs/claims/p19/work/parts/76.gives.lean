/-- of the things of kind t only those of P may have changed -/
def ONL (t : Nat) (K : Kp) (L : List Nat) (P : Nat → Prop) (M M' : Hp) : Prop := ∀ b n, isk K L b t n → ¬ P b → M' b = M b
theorem ONL.rf {t : Nat} {K : Kp} {L : List Nat} {P : Nat → Prop} {M : Hp} : ONL t K L P M M := fun _ _ _ _ => rfl
theorem ONL.upS {t : Nat} {K : Kp} {L : List Nat} {P : Nat → Prop} {M M' : Hp} {a : Nat} {e : va_E} (h : ONL t K L P M M') (ha : a ∈ L → P a) : ONL t K L P M (va_up M' a e) := fun b n hb hn => by
  rw [va_up_ne M' e (fun q => hn (by rw [q]; exact ha (by rw [← q]; exact hb.1)))]
  exact h b n hb hn
theorem ONL.up {t : Nat} {K : Kp} {L : List Nat} {P : Nat → Prop} {M M' : Hp} {a t' n' : Nat} {e : va_E} (h : ONL t K L P M M') (ha : isk K L a t' n') (ht : t' ≠ t) : ONL t K L P M (va_up M' a e) := fun b n hb hn => by
  rw [va_up_ne M' e (hb.neT ha (fun q => ht q.symm))]
  exact h b n hb hn
theorem ONL.upX {t : Nat} {K0 K : Kp} {L0 L : List Nat} {P : Nat → Prop} {M0 M : Hp} {a t' n' : Nat} {e : va_E} (h : ONL t K0 L0 P M0 M) (x : ext K0 L0 K L) (ha : isk K L a t' n') (ht : t' ≠ t) : ONL t K0 L0 P M0 (va_up M a e) := fun b n hb hn => by
  rw [va_up_ne M e ((hb.ext x).neT ha (fun q => ht q.symm))]
  exact h b n hb hn
theorem ONL.tr {t : Nat} {K : Kp} {L : List Nat} {P Q : Nat → Prop} {M M' M'' : Hp} (h : ONL t K L P M M') (g : ONL t K L Q M' M'') (hq : ∀ b, Q b → P b) : ONL t K L P M M'' := fun b n hb hn => (g b n hb (fun q => hn (hq b q))).trans (h b n hb hn)
theorem ONL.trX {t : Nat} {K0 K : Kp} {L0 L : List Nat} {P Q : Nat → Prop} {M0 M M' : Hp} (h : ONL t K0 L0 P M0 M) (x : ext K0 L0 K L) (g : ONL t K L Q M M') (hq : ∀ b, b ∈ L0 → Q b → P b) : ONL t K0 L0 P M0 M' := fun b n hb hn => (g b n (hb.ext x) (fun q => hn (hq b hb.1 q))).trans (h b n hb hn)
theorem ONL.frr {t : Nat} {K : Kp} {L us : List Nat} {P : Nat → Prop} {M M' M'' : Hp} (h : ONL t K L P M M') (g : fr K L us M' M'') (ht : t ∉ us) : ONL t K L P M M'' := fun b n hb hn => (g.at hb ht).trans (h b n hb hn)
theorem ONL.frrX {t : Nat} {K0 K : Kp} {L0 L us : List Nat} {P : Nat → Prop} {M0 M M' : Hp} (h : ONL t K0 L0 P M0 M) (x : ext K0 L0 K L) (g : fr K L us M M') (ht : t ∉ us) : ONL t K0 L0 P M0 M' := fun b n hb hn => (g.at (hb.ext x) ht).trans (h b n hb hn)
theorem ONL.adX {t : Nat} {K0 K : Kp} {L0 L : List Nat} {P : Nat → Prop} {M0 M M' : Hp} (h : ONL t K0 L0 P M0 M) (x : ext K0 L0 K L) (g : ∀ b, b ∈ L → M' b = M b) : ONL t K0 L0 P M0 M' := fun b n hb hn => (g b (x b hb.1).1).trans (h b n hb hn)
theorem ONL.at {t n : Nat} {K : Kp} {L : List Nat} {P : Nat → Prop} {M M' : Hp} {b : Nat} (h : ONL t K L P M M') (hb : isk K L b t n) (hn : ¬ P b) : M' b = M b := h b n hb hn
/-- who sits in seat q of stretch s of the class -/
def sT (M : Hp) (s q : Nat) : Option Nat := RFc (M (rA 8 M s 0)) q
/-- a term of a rule of the class, as a number -/
def tR (M : Hp) (r w q : Nat) : Int := (IFc (M (rA 6 M r 2)) (6 * w + q)).toInt
theorem trV_e {M M1 : Hp} {r : Nat} {s w : Int32} (h : M1 r = M r) (g : M1 (rA 6 M r 2) = M (rA 6 M r 2)) : trV M1 r s w = trV M r s w := by
  have e : rA 6 M1 r 2 = rA 6 M r 2 := by
    unfold rA cR cVt
    rw [h]
  unfold trV
  rw [e, g]
theorem trV_R {M : Hp} {r w q : Nat} (hw : w < 4) (hq : q < 6) : (trV M r (nI q) (nI w)).toInt = tR M r w q := by
  have h1 : (nI q).toInt = ((q : Nat) : Int) := nI_toInt (by omega)
  have h2 : (nI w).toInt = ((w : Nat) : Int) := nI_toInt (by omega)
  unfold trV tR
  rw [if_pos (by omega), nI_cl (t := w) (by omega), nI_cl (t := q) (by omega)]
/-- the wage of seat q for the days of stretch s -/
def wgE (M : Hp) (s r q : Nat) : Int := match sT M s q with
  | none => 0
  | some t => if (cV 4 M (rA 9 M t 1) 1).toInt = 3 then tR M r 0 q * (cV 8 M s 3).toInt else 0
theorem wgE_n {M : Hp} {s r q : Nat} (h : sT M s q = none) : wgE M s r q = 0 := by
  unfold wgE
  rw [h]
theorem wgE_y {M : Hp} {s r q t : Nat} (h : sT M s q = some t) (k : (cV 4 M (rA 9 M t 1) 1).toInt = 3) : wgE M s r q = tR M r 0 q * (cV 8 M s 3).toInt := by
  unfold wgE
  rw [h]
  exact if_pos k
theorem wgE_z {M : Hp} {s r q t : Nat} (h : sT M s q = some t) (k : ¬ (cV 4 M (rA 9 M t 1) 1).toInt = 3) : wgE M s r q = 0 := by
  unfold wgE
  rw [h]
  exact if_neg k
theorem wgE_b {M : Hp} {s r q : Nat} (ht : 0 ≤ tR M r 0 q ∧ tR M r 0 q ≤ 1000000) (hd : 0 ≤ (cV 8 M s 3).toInt ∧ (cV 8 M s 3).toInt ≤ 100) : 0 ≤ wgE M s r q ∧ wgE M s r q ≤ 100000000 := by
  have h1 : 0 ≤ tR M r 0 q * (cV 8 M s 3).toInt := Int.mul_nonneg ht.1 hd.1
  have h2 : tR M r 0 q * (cV 8 M s 3).toInt ≤ tR M r 0 q * 100 := Int.mul_le_mul_of_nonneg_left hd.2 ht.1
  cases e : sT M s q with
  | none => rw [wgE_n e]; omega
  | some t =>
    by_cases k : (cV 4 M (rA 9 M t 1) 1).toInt = 3
    · rw [wgE_y e k]
      omega
    · rw [wgE_z e k]
      omega
/-- of what is left the next one's told sum, as far as it goes -/
noncomputable def fx1 (P : Prop) (tm left g : Int) : Int := @ite Int P (Classical.propDecidable _) (if left - g < tm then left - g else tm) 0
/-- what those ahead of q have had -/
noncomputable def gvS (P : Nat → Prop) (tm : Nat → Int) (left : Int) : Nat → Int
  | 0 => 0
  | q + 1 => gvS P tm left q + fx1 (P q) (tm q) left (gvS P tm left q)
noncomputable def fxS (P : Nat → Prop) (tm : Nat → Int) (left : Int) (q : Nat) : Int := fx1 (P q) (tm q) left (gvS P tm left q)
theorem gvS_b {P : Nat → Prop} {tm : Nat → Int} {left : Int} (h0 : 0 ≤ left) : ∀ q, (∀ i, i < q → 0 ≤ tm i) → 0 ≤ gvS P tm left q ∧ gvS P tm left q ≤ left := by
  intro q
  induction q with
  | zero => intro _; exact ⟨Int.le_refl 0, h0⟩
  | succ q ih =>
    intro h
    have h1 := ih (fun i hi => h i (Nat.lt_succ_of_lt hi))
    have h2 := h q (Nat.lt_succ_self q)
    show 0 ≤ gvS P tm left q + fx1 (P q) (tm q) left (gvS P tm left q) ∧ gvS P tm left q + fx1 (P q) (tm q) left (gvS P tm left q) ≤ left
    unfold fx1
    by_cases z : P q
    · rw [if_pos z]
      by_cases y : left - gvS P tm left q < tm q
      · rw [if_pos y]
        omega
      · rw [if_neg y]
        omega
    · rw [if_neg z]
      omega
theorem fxS_b {P : Nat → Prop} {tm : Nat → Int} {left : Int} {q : Nat} (h0 : 0 ≤ left) (h : ∀ i, i < q + 1 → 0 ≤ tm i) : 0 ≤ fxS P tm left q ∧ fxS P tm left q ≤ left := by
  have h1 := gvS_b (P := P) h0 q (fun i hi => h i (Nat.lt_succ_of_lt hi))
  have h2 := h q (Nat.lt_succ_self q)
  unfold fxS fx1
  by_cases z : P q
  · rw [if_pos z]
    by_cases y : left - gvS P tm left q < tm q
    · rw [if_pos y]
      omega
    · rw [if_neg y]
      omega
  · rw [if_neg z]
    omega
def mx0 (x : Int) : Int := if x < 0 then 0 else x
/-- of n sums those that are so -/
noncomputable def mvS (P : Nat → Prop) (S : Nat → Int) (n : Nat) : Int := sumI (fun k => @ite Int (P k) (Classical.propDecidable _) (S k) 0) n
theorem mvS_y {P : Nat → Prop} {S : Nat → Int} {n : Nat} (h : P n) : mvS P S (n + 1) = mvS P S n + S n := by
  show sumI _ n + @ite Int (P n) (Classical.propDecidable _) (S n) 0 = _
  rw [if_pos h]
  rfl
theorem mvS_n {P : Nat → Prop} {S : Nat → Int} {n : Nat} (h : ¬ P n) : mvS P S (n + 1) = mvS P S n := by
  show sumI _ n + @ite Int (P n) (Classical.propDecidable _) (S n) 0 = _
  rw [if_neg h, Int.add_zero]
  rfl
theorem mvS_b {P : Nat → Prop} {S : Nat → Int} : ∀ n, (∀ k, k < n → -1000000000 ≤ S k ∧ S k ≤ 1000000000) → -1000000000 * (n : Int) ≤ mvS P S n ∧ mvS P S n ≤ 1000000000 * (n : Int) := by
  intro n
  induction n with
  | zero => intro _; exact ⟨Int.le_refl 0, Int.le_refl 0⟩
  | succ n ih =>
    intro h
    have h1 := ih (fun k hk => h k (Nat.lt_succ_of_lt hk))
    have h2 := h n (Nat.lt_succ_self n)
    by_cases z : P n
    · rw [mvS_y z]
      omega
    · rw [mvS_n z]
      omega
theorem mvS_two {P Q R : Nat → Prop} {S : Nat → Int} (h : ∀ k, (R k ↔ P k ∨ Q k) ∧ ¬ (P k ∧ Q k)) : ∀ n, mvS R S n = mvS P S n + mvS Q S n := by
  intro n
  induction n with
  | zero => rfl
  | succ n ih =>
    have g := h n
    by_cases p : P n
    · have q : ¬ Q n := fun w => g.2 ⟨p, w⟩
      rw [mvS_y (g.1.mpr (Or.inl p)), mvS_y p, mvS_n q, ih]
      omega
    · by_cases q : Q n
      · rw [mvS_y (g.1.mpr (Or.inr q)), mvS_n p, mvS_y q, ih]
        omega
      · rw [mvS_n (fun w => (g.1.mp w).elim p q), mvS_n p, mvS_n q, ih]
/-- a credit on a day: c0 with those of n moves of one's own up to then -/
noncomputable def crD (c0 : Int) (P : Nat → Prop) (D S : Nat → Int) (n : Nat) (d : Int) : Int := c0 + mvS (fun k => P k ∧ D k ≤ d) S n
/-- the sum of what is above 0 over days from f on -/
noncomputable def itS (c0 : Int) (P : Nat → Prop) (D S : Nat → Int) (n : Nat) (f : Int) (days : Nat) : Int := sumI (fun j => mx0 (crD c0 P D S n (f + (j : Int)))) days
theorem crD_0 {c0 : Int} {P : Nat → Prop} {D S : Nat → Int} {n : Nat} {f : Int} : c0 + mvS (fun k => P k ∧ D k < f) S n + mvS (fun k => P k ∧ D k = f + ((0 : Nat) : Int)) S n = crD c0 P D S n (f + ((0 : Nat) : Int)) := by
  unfold crD
  rw [mvS_two (R := fun k => P k ∧ D k ≤ f + ((0 : Nat) : Int)) (P := fun k => P k ∧ D k < f) (Q := fun k => P k ∧ D k = f + ((0 : Nat) : Int)) (fun k => ⟨⟨fun w => by
    by_cases z : D k < f
    · exact Or.inl ⟨w.1, z⟩
    · exact Or.inr ⟨w.1, by have := w.2; omega⟩, fun w => w.elim (fun w => ⟨w.1, by have := w.2; omega⟩) (fun w => ⟨w.1, by have := w.2; omega⟩)⟩, fun w => by have h1 := w.1.2; have h2 := w.2.2; omega⟩)]
  omega
theorem crD_1 {c0 : Int} {P : Nat → Prop} {D S : Nat → Int} {n j : Nat} {f : Int} : crD c0 P D S n (f + (j : Int)) + mvS (fun k => P k ∧ D k = f + ((j + 1 : Nat) : Int)) S n = crD c0 P D S n (f + ((j + 1 : Nat) : Int)) := by
  unfold crD
  rw [mvS_two (R := fun k => P k ∧ D k ≤ f + ((j + 1 : Nat) : Int)) (P := fun k => P k ∧ D k ≤ f + (j : Int)) (Q := fun k => P k ∧ D k = f + ((j + 1 : Nat) : Int)) (fun k => ⟨⟨fun w => by
    by_cases z : D k ≤ f + (j : Int)
    · exact Or.inl ⟨w.1, z⟩
    · exact Or.inr ⟨w.1, by have := w.2; omega⟩, fun w => w.elim (fun w => ⟨w.1, by have := w.2; omega⟩) (fun w => ⟨w.1, by have := w.2; omega⟩)⟩, fun w => by have h1 := w.1.2; have h2 := w.2.2; omega⟩)]
  omega
theorem itS_b {c0 : Int} {P : Nat → Prop} {D S : Nat → Int} {n : Nat} {f b : Int} (m : Nat) (h : ∀ d, crD c0 P D S n d ≤ b) (hb : 0 ≤ b) : 0 ≤ itS c0 P D S n f m ∧ itS c0 P D S n f m ≤ b * (m : Int) := sumI_bd m (fun j _ => by
  have g := h (f + (j : Int))
  show 0 ≤ mx0 (crD c0 P D S n (f + (j : Int))) ∧ mx0 (crD c0 P D S n (f + (j : Int))) ≤ b
  unfold mx0
  by_cases z : crD c0 P D S n (f + (j : Int)) < 0
  · rw [if_pos z]
    omega
  · rw [if_neg z]
    omega)
set_option maxHeartbeats 4000000 in
set_option maxRecDepth 100000 in
theorem e_wages (l : Launch) (D : va_G) (cy : Nat → ClassId) (K : Kp) (L : List Nat) (M : Hp) (sz : Nat) (oa : Nat) (k1 : Nat) (k2 : Nat) (y0 : Nat) (y1 : Nat) (y2 : Int32) (y3 : Int32) (y4 : Int64) (y5 : Int64) (hW : WOK cy K L M) (ia : isk K L oa 0 0) (ik1 : isk K L k1 8 0) (ik2 : isk K L k2 6 0) (hTB : (∀ q : Nat, q < 6 → 0 ≤ tR M k2 0 q ∧ tR M k2 0 q ≤ 1000000)) (hDB : (0 ≤ (cV 8 M k1 3).toInt ∧ (cV 8 M k1 3).toInt ≤ 100)) (hUB : (∀ q : Nat, q < 6 → -1000000000000000 ≤ (LFc (M y1) q).toInt ∧ (LFc (M y1) q).toInt ≤ 1000000000000000)) (hMy : M k1 = .inr (8, [.ref y0, .ref y1, .int y2, .int y3, .long y4, .long y5])) (hy0 : isk K L y0 65 6) (hy1 : isk K L y1 72 6) : Met l yX0_giveWages (wsM yX0_giveWages cX0_giveWages 9 (some .long)) ({ frames := 2, cells := 0, slots := 0, locals := 43 }) (va_Pc [.ref oa, .ref k1, .ref k2] (PG D cy [] L M sz)) (va_Ql (fun (r : Int64) (M9 : Hp) => WOK cy K L M9 ∧ fr K L [72] M M9 ∧ ONL 72 K L (fun b => b = y1) M M9 ∧ ((∀ q : Nat, q < 6 → (LFc (M9 y1) q).toInt = (LFc (M y1) q).toInt + wgE M k1 k2 q)) ∧ ((∃ (vr : Int64), r = vr ∧ ((vr : Int64).toInt = sumI (wgE M k1 k2) 6)))) (fun M9 t => PQ D [] L M9 (va_A ([] ++ va_pl L M) sz) t) (va_A ([] ++ va_pl L M) sz)) 0 0 (va_A ([] ++ va_pl L M) sz) := by
  refine Met.ofW (cc := cX0_giveWages) (maxL := 9) (ret := (some .long)) (by decide) rfl ?_
  intro p e s m args below meth c s₁ B hml hv
  obtain ⟨rfl, hsz, hP, hK, hD0, hN⟩ := hv
  have hx := B.exec
  have hb := B.bytes
  have hr := B.returns
  have hts := atoms_spec (ws := (wsM yX0_giveWages cX0_giveWages 9 (some .long))) B.pre
  have hg : ∀ w ∈ lw_good, w.before _ s = true := fun w h => hts w (List.mem_cons_of_mem _ h)
  have hown : s.vm.findClass RX0 = some m.cls := findClass_of_methodNamed B.named
  have hlocks := B.notSynchronized
  subst hsz
  have hD := hD0.self (sz := s.heap.size)
  generalize hAe : va_A ([] ++ va_pl L M) s.heap.size = A at hD ⊢
  have hA : ∀ q : Nat, s.heap.size ≤ q → A q := fun q h => by rw [← hAe]; exact Or.inr h
  have hS : va_S A s.heap s.heap [] := va_S.rf
  have hl := lv_entry ([.ref oa, .ref k1, .ref k2]) (n := 9) (Nat.le_of_ble_eq_true rfl)
  rw [lg_entry_eq]
  generalize (lg_sl ([.ref oa, .ref k1, .ref k2]) ++ List.replicate (9 - (lg_sl ([.ref oa, .ref k1, .ref k2])).length) Slot.unset).toArray = ls at hl ⊢
  refine W.nameQ (fun Q hQ => ?_)
  refine W.nameR (fun R hR => ?_)
  have hRf : 2 ≤ R.frames := by rw [hR]; exact Nat.le_of_ble_eq_true rfl
  have hRl : 43 ≤ R.locals := by rw [hR]; exact Nat.le_of_ble_eq_true rfl
  have hRc : 0 ≤ R.cells := by rw [hR]; exact Nat.le_of_ble_eq_true rfl
  have hRs : 0 ≤ R.slots := by rw [hR]; exact Nat.le_of_ble_eq_true rfl
  have hF : fr K L [72] M M := fr.rf
  have hO72 : ONL 72 K L (fun b => b = y1) M M := ONL.rf
  have hl : lv_has ls 9 [(0, .ref oa), (1, .ref k1), (2, .ref k2)] := hl
  obtain ⟨f1, hM1⟩ := hW.open_72 hy1
  have hD0 : ∀ q : Nat, (f1 q).toInt = (LFc (M y1) q).toInt := fun q => by rw [LFc_of hM1]
  have hyT : rA 8 M k1 0 = y0 := rA_of (j := 0) hMy rfl
  have hyd : cV 8 M k1 3 = y3 := cV_of (j := 3) hMy rfl
  rw [hyd] at hDB
  have hwb : ∀ q : Nat, q < 6 → 0 ≤ wgE M k1 k2 q ∧ wgE M k1 k2 q ≤ 100000000 := fun q hq => wgE_b (hTB q hq) (by rw [hyd]; exact hDB)
  obtain ⟨v2_0, v2_1, v2_2, hM2, h2_2⟩ := hW.open_6 ik2
  have hyr : rA 6 M k2 2 = v2_2 := rA_of (j := 2) hM2 rfl
  refine lv_lconst (v := 0) hx hb dX0_giveWages_0 (by decide) ?_
  refine lv_lstore_n (lv' := [(3, .long 0), (0, .ref oa), (1, .ref k1), (2, .ref k2)]) hx hb dX0_giveWages_1 rfl hl (by decide) rfl (fun ls hl => ?_)
  refine lv_iconst (v := 0) hx hb dX0_giveWages_2 (by decide) ?_
  refine lv_istore (lv' := [(5, .int 0), (3, .long 0), (0, .ref oa), (1, .ref k1), (2, .ref k2)]) hx hb dX0_giveWages_3 hl (by decide) rfl (fun ls hl => ?_)
  have key_3 : ∀ (fu_5 : Nat) (v3w6 : Int64) (v5w6 : Nat) (gDw6 : Nat → Int64) (M_12 : Hp) (H_13 : Heap) (locs : List Loc) (ls : Array Slot), 6 - v5w6 < fu_5 → M_12 k1 = .inr (8, [.ref y0, .ref y1, .int y2, .int y3, .long y4, .long y5]) → M_12 y1 = .inl (cy 15, 6, .inr (.inl (gDw6))) → v5w6 ≤ 6 → v5w6 < 7 → (∀ q : Nat, q < v5w6 → (gDw6 q).toInt = (LFc (M y1) q).toInt + wgE M k1 k2 q) → (∀ q : Nat, v5w6 ≤ q → q < 6 → (gDw6 q).toInt = (LFc (M y1) q).toInt) → v3w6.toInt = sumI (wgE M k1 k2) v5w6 → WOK cy K L M_12 → fr K L [72] M M_12 → ONL 72 K L (fun b => b = y1) M M_12 → va_P D vwCl ([] ++ va_pl L M_12) H_13 → va_D A ([] ++ va_pl L M_12) → va_S A s.heap H_13 locs → lv_has ls 9 [(5, .int (nI v5w6)), (3, .long v3w6), (0, .ref oa), (1, .ref k1), (2, .ref k2)] → W p l e R s m ([.ref oa, .ref k1, .ref k2] : List Value).toArray below meth c H_13 locs 0 0 Q (F0 m 5 ls []) := by
    intro fu_5
    induction fu_5 with
    | zero => intro v3w6 v5w6 gDw6 M_12 H_13 locs ls h; exact absurd h (Nat.not_lt_zero _)
    | succ fu_5 ih_4 =>
      intro v3w6 v5w6 gDw6 M_12 H_13 locs ls hfu hM_14 hM_15 hx_7 hx_8 hx_9 hx_10 hx_11 hW hF hO72 hP hD hS hl
      refine lv_iload hx hb dX0_giveWages_5 (lv_at hl 0 rfl) ?_
      refine lv_bipush (v := 6) hx hb dX0_giveWages_7 (by decide) ?_
      refine lv_icmp_ge (tgt := 77) hx hb dX0_giveWages_9 (by decide) (fun c_16 => ?_) (fun c_16 => ?_)
      · have hz := rfl (a := 0)
        have n_17 : 6 ≤ v5w6 := (iLE (a := 6) (b := v5w6) (by omega) (by omega)).mp c_16
        refine lv_lload_n hx hb dX0_giveWages_77 rfl (lv_at hl 1 rfl) ?_
        rw [hQ]
        exact W.lret (v := v3w6) hx hb hr (fun t ht hW9 => ⟨⟨v3w6, M_12, rfl, ⟨hW, hF, hO72, (fun q hq => by rw [LFc_of hM_15]; exact hx_9 q (by omega)), ⟨_, rfl, (by have h9 := hx_11; rw [show v5w6 = 6 by omega] at h9; exact h9)⟩⟩, ⟨by rw [ht]; exact hP, hD⟩⟩, hS.F ht⟩) hS.2.2 dX0_giveWages_78
      · have hz := rfl (a := 0)
        have n_18 : ¬ (6 ≤ v5w6) := fun q => c_16 ((iLE (a := 6) (b := v5w6) (by omega) (by omega)).mpr q)
        refine lv_aload_n hx hb dX0_giveWages_12 rfl (lv_at hl 3 rfl) ?_
        refine pg_get (D := D) (ci := 8) (v := .ref y0) (C := RX8) (T := TX8) (N := 6) hx hb hg inG8 hown hK hP ik1.1 hM_14 rfl 0 (by decide) (hg _ wd_212) (fun _ h9 => h9) rfl dX0_giveWages_13 ?_
        refine lv_iload hx hb dX0_giveWages_16 (lv_at hl 0 rfl) ?_
        obtain ⟨f19, hM19, hf19⟩ := hW.open_65 hy0
        have hi_20 : vp_in (nI v5w6) 6 := (inbN v5w6 6 (by omega) (by omega))
        refine pg_aldq hx hb hK hP hy0.1 8 hM19 rfl hi_20 dX0_giveWages_18 ?_
        obtain ⟨q_21, ho_22⟩ : ∃ q : Option Nat, q = f19 ((nI v5w6) : Int32).toNatClampNeg := ⟨_, rfl⟩
        rw [← ho_22]
        have hq_23 : iskN K L q_21 9 0 := by rw [ho_22]; exact hf19 _ (vp_lt hi_20)
        rcases q_21 with _ | bq_21
        · have hz := rfl (a := 0)
          have hs9 : sT M k1 v5w6 = none := by unfold sT; rw [hyT, ← hF.at hy0 (by decide), RFc_of hM19]; have h9 := Eq.symm ho_22; rw [nI_cl (by omega)] at h9; exact h9
          have hw9 : wgE M k1 k2 v5w6 = 0 := wgE_n hs9
          refine lv_astoreN (lv' := [(6, .null), (5, .int (nI v5w6)), (3, .long v3w6), (0, .ref oa), (1, .ref k1), (2, .ref k2)]) hx hb dX0_giveWages_19 hl (by decide) rfl (fun ls hl => ?_)
          refine lv_aloadN hx hb dX0_giveWages_21 (lv_at hl 0 rfl) ?_
          refine lv_ifnullN (tgt := 71) hx hb dX0_giveWages_23 (by decide) ?_
          refine lv_iinc (v := (nI (v5w6 + 1))) (lv' := [(5, .int (nI (v5w6 + 1))), (6, .null), (3, .long v3w6), (0, .ref oa), (1, .ref k1), (2, .ref k2)]) hx hb dX0_giveWages_71 hl (k := 1) rfl (nI_1 v5w6) (by decide) rfl (fun ls hl => ?_)
          refine lv_goto (tgt := 5) hx hb dX0_giveWages_74 (by decide) ?_
          exact ih_4 v3w6 (v5w6 + 1) gDw6 M_12 H_13 _ _ (by omega) hM_14 hM_15 (by omega) (by omega) (fun q hq => by by_cases z9 : q = v5w6; rw [z9, hw9, Int.add_zero]; exact hx_10 v5w6 (by omega) (by omega); exact hx_9 q (by omega)) (fun q hq hq2 => hx_10 q (by omega) hq2) (by rw [hx_11]; show _ = sumI (wgE M k1 k2) v5w6 + wgE M k1 k2 v5w6; rw [hw9, Int.add_zero]) hW hF hO72 hP hD hS (lv_sub hl [0, 2, 3, 4, 5] rfl)
        · have hb_24 := hq_23 bq_21 rfl
          have hs9 : sT M k1 v5w6 = some bq_21 := by unfold sT; rw [hyT, ← hF.at hy0 (by decide), RFc_of hM19]; have h9 := (Eq.symm ho_22); rw [nI_cl (by omega)] at h9; exact h9
          refine lv_astore (lv' := [(6, .ref bq_21), (5, .int (nI v5w6)), (3, .long v3w6), (0, .ref oa), (1, .ref k1), (2, .ref k2)]) hx hb dX0_giveWages_19 hl (by decide) rfl (fun ls hl => ?_)
          refine lv_aload hx hb dX0_giveWages_21 (lv_at hl 0 rfl) ?_
          refine lv_ifnull hx hb dX0_giveWages_23 ?_
          refine lv_aload hx hb dX0_giveWages_26 (lv_at hl 0 rfl) ?_
          obtain ⟨v25_0, v25_1, v25_2, v25_3, v25_4, v25_5, v25_6, v25_7, v25_8, v25_9, v25_10, v25_11, v25_12, v25_13, v25_14, v25_15, hM25, h25_0, h25_1, h25_4, h25_8⟩ := hW.open_9 hb_24
          refine pg_get (D := D) (ci := 9) (v := .ref v25_1) (C := RX9) (T := TX9) (N := 16) hx hb hg inG9 hown hK hP hb_24.1 hM25 rfl 1 (by decide) (hg _ wd_218) (fun _ h9 => h9) rfl dX0_giveWages_28 ?_
          obtain ⟨v26_0, v26_1, v26_2, v26_3, hM26, h26_3⟩ := hW.open_4 h25_1
          refine pg_get (D := D) (ci := 4) (v := .int v26_1) (C := RX4) (T := TX4) (N := 4) hx hb hg inG4 hown hK hP h25_1.1 hM26 rfl 1 (by decide) (hg _ wd_219) (fun _ h9 => h9) rfl dX0_giveWages_31 ?_
          refine lv_iconst (v := 3) hx hb dX0_giveWages_34 (by decide) ?_
          refine lv_icmp_ne (tgt := 71) hx hb dX0_giveWages_35 (by decide) (fun c_27 => ?_) (fun c_27 => ?_)
          · have hz := rfl (a := 0)
            have hkd : (cV 4 M (rA 9 M bq_21 1) 1).toInt = (v26_1 : Int32).toInt := by rw [rA_of (j := 1) ((hF.at hb_24 (by decide)).symm.trans hM25) rfl, cV_of (j := 1) ((hF.at h25_1 (by decide)).symm.trans hM26) rfl]
            have hw9 : wgE M k1 k2 v5w6 = 0 := wgE_z hs9 (fun q9 => c_27 (Int32.toInt.inj (by rw [← hkd, q9]; rfl)))
            refine lv_iinc (v := (nI (v5w6 + 1))) (lv' := [(5, .int (nI (v5w6 + 1))), (6, .ref bq_21), (3, .long v3w6), (0, .ref oa), (1, .ref k1), (2, .ref k2)]) hx hb dX0_giveWages_71 hl (k := 1) rfl (nI_1 v5w6) (by decide) rfl (fun ls hl => ?_)
            refine lv_goto (tgt := 5) hx hb dX0_giveWages_74 (by decide) ?_
            exact ih_4 v3w6 (v5w6 + 1) gDw6 M_12 H_13 _ _ (by omega) hM_14 hM_15 (by omega) (by omega) (fun q hq => by by_cases z9 : q = v5w6; rw [z9, hw9, Int.add_zero]; exact hx_10 v5w6 (by omega) (by omega); exact hx_9 q (by omega)) (fun q hq hq2 => hx_10 q (by omega) hq2) (by rw [hx_11]; show _ = sumI (wgE M k1 k2) v5w6 + wgE M k1 k2 v5w6; rw [hw9, Int.add_zero]) hW hF hO72 hP hD hS (lv_sub hl [0, 2, 3, 4, 5] rfl)
          · have hz := rfl (a := 0)
            have hkd : (cV 4 M (rA 9 M bq_21 1) 1).toInt = (v26_1 : Int32).toInt := by rw [rA_of (j := 1) ((hF.at hb_24 (by decide)).symm.trans hM25) rfl, cV_of (j := 1) ((hF.at h25_1 (by decide)).symm.trans hM26) rfl]
            have hk3 : (cV 4 M (rA 9 M bq_21 1) 1).toInt = 3 := by rw [hkd, c_27]; rfl
            refine lv_aload_n hx hb dX0_giveWages_38 rfl (lv_at hl 5 rfl) ?_
            refine lv_iload hx hb dX0_giveWages_39 (lv_at hl 1 rfl) ?_
            refine lv_iconst (v := 0) hx hb dX0_giveWages_41 (by decide) ?_
            obtain ⟨v28_0, v28_1, v28_2, hM28, h28_2⟩ := hW.open_6 ik2
            have hPc : va_P D vwCl ([] ++ va_pl L M_12) H_13 := hP
            have hDc : va_D A ([] ++ va_pl L M_12) := hD
            have hFc : ∀ q, va_A ([] ++ va_pl L M_12) H_13.size q → A q := pg_free hDc hS hA
            refine va_calli (va_runV (As := [.int (nI v5w6), .int 0]) (rest := []) ⟨hx, hb, hml, hown, hg⟩ (e_termOf l D cy K L M_12 H_13.size k2 (nI v5w6) 0  hW ik2) (cwV 2 hg (gV wd_217 wd_136 wd_137 wd_97 wd_138) rfl rfl rfl (by decide +kernel) ⟨(Nat.le_trans (Nat.le_of_ble_eq_true rfl) hRf), (Nat.le_trans (Nat.le_of_ble_eq_true rfl) hRl)⟩) ⟨PG.blind, pg_recv hK hP ik2.1 hM28 rfl, fun U hU hW => ⟨rfl, PG.at hPc hK hDc hN hU hW⟩⟩ rfl rfl hl.1 rfl (lv_room (Nat.le_of_ble_eq_true rfl)) dX0_giveWages_42 ⟨(Nat.le_trans (Nat.le_of_ble_eq_true rfl) hRc), (Nat.le_trans (Nat.le_of_ble_eq_true rfl) hRs)⟩) hS (fun q _ h => hFc q h) hFc (fun r_30 M_31 t H_29 locs ht hvm hw hB hz1 hk1 hS => ?_)
            have hp_32 := hw
            obtain ⟨hP1, hD1⟩ := hB
            rw [ht] at hP1
            have hP : va_P D vwCl ([] ++ va_pl L M_12) H_29 := hP1
            have hD : va_D A ([] ++ va_pl L M_12) := hD1.mono hFc
            obtain ⟨vr_33, hr_35, c_34⟩ := hp_32
            have hq := Eq.symm hr_35
            subst hq
            have htv : (vr_33 : Int32).toInt = tR M k2 0 v5w6 := by rw [c_34, trV_e (hF.at ik2 (by decide)) (by rw [hyr]; exact hF.at h2_2 (by decide))]; exact trV_R (w := 0) (by decide) (by omega)
            refine lv_i2l hx hb dX0_giveWages_45 rfl ?_
            refine lv_topl (fun f_36 ef_36 => ?_)
            have hl1 : (f_36 : Int64).toInt = (vr_33 : Int32).toInt := by rw [ef_36]; exact Int32.toInt_toInt64 _
            refine lv_aload_n hx hb dX0_giveWages_46 rfl (lv_at hl 4 rfl) ?_
            refine pg_get (D := D) (ci := 8) (v := .int y3) (C := RX8) (T := TX8) (N := 6) hx hb hg inG8 hown hK hP ik1.1 hM_14 rfl 3 (by decide) (hg _ wd_220) (fun _ h9 => h9) rfl dX0_giveWages_47 ?_
            refine lv_i2l hx hb dX0_giveWages_50 rfl ?_
            refine lv_topl (fun f_37 ef_37 => ?_)
            have hl2 : (f_37 : Int64).toInt = (cV 8 M k1 3).toInt := by rw [hyd, ef_37, Int32.toInt_toInt64]
            refine lv_lmul hx hb dX0_giveWages_51 ?_
            refine lv_topl (fun f_38 ef_38 => ?_)
            have hb9 := hwb v5w6 (by omega)
            rw [wgE_y hs9 hk3] at hb9
            have hwv : (f_38 : Int64).toInt = wgE M k1 k2 v5w6 := by rw [wgE_y hs9 hk3, ← htv, ← hl1, ← hl2]; exact lM ef_38 (by rw [hl1, hl2, htv]; omega) (by rw [hl1, hl2, htv]; omega)
            refine lv_lstore (lv' := [(7, .long f_38), (6, .ref bq_21), (5, .int (nI v5w6)), (3, .long v3w6), (0, .ref oa), (1, .ref k1), (2, .ref k2)]) hx hb dX0_giveWages_52 hl (by decide) rfl (fun ls hl => ?_)
            refine lv_aload_n hx hb dX0_giveWages_54 rfl (lv_at hl 5 rfl) ?_
            refine pg_get (D := D) (ci := 8) (v := .ref y1) (C := RX8) (T := TX8) (N := 6) hx hb hg inG8 hown hK hP ik1.1 hM_14 rfl 1 (by decide) (hg _ wd_221) (fun _ h9 => h9) rfl dX0_giveWages_55 ?_
            refine lv_iload hx hb dX0_giveWages_58 (lv_at hl 2 rfl) ?_
            refine lv_dup2_11 hx hb dX0_giveWages_60 rfl rfl ?_
            refine pg_lald hx hb hK hP hy1.1 1 hM_15 rfl (inbN v5w6 6 (by omega) (by omega)) dX0_giveWages_61 ?_
            refine lv_topl (fun f_39 ef_39 => ?_)
            have hdv : (f_39 : Int64).toInt = (LFc (M y1) v5w6).toInt := by rw [ef_39, nI_cl (by omega)]; exact hx_10 v5w6 (by omega) (by omega)
            refine lv_lload hx hb dX0_giveWages_62 (lv_at hl 0 rfl) ?_
            refine lv_ladd hx hb dX0_giveWages_64 ?_
            refine lv_topl (fun f_40 ef_40 => ?_)
            have hu9 := hUB v5w6 (by omega)
            have hb8 := hwb v5w6 (by omega)
            have hsv : (f_40 : Int64).toInt = (LFc (M y1) v5w6).toInt + wgE M k1 k2 v5w6 := by have h9 := lA ef_40 (by rw [hdv, hwv]; omega) (by rw [hdv, hwv]; omega); rw [hdv, hwv] at h9; exact h9
            refine pg_last hx hb hK hP hD hS hy1.1 1 hM_15 rfl (inbN v5w6 6 (by omega) (by omega)) dX0_giveWages_65 (fun H_41 locs hP hD hS => ?_)
            obtain ⟨M_42, eM_42⟩ : ∃ M1 : Hp, M1 = va_up M_12 y1 (.inl (cy 15, 6, .inr (.inl (vp_updL gDw6 ((nI v5w6) : Int32).toNatClampNeg f_40)))) := ⟨_, rfl⟩
            have hP : va_P D vwCl ([] ++ va_pl L M_42) H_41 := by rw [eM_42]; exact hP
            have hD : va_D A ([] ++ va_pl L M_42) := by rw [eM_42]; exact hD
            have hW : WOK cy K L M_42 := by rw [eM_42]; exact hW.up_72 hy1 ⟨_, rfl⟩
            have hF : fr K L [72] M M_42 := by rw [eM_42]; exact hF.up hy1 (by decide)
            have hO72 : ONL 72 K L (fun b => b = y1) M M_42 := by rw [eM_42]; exact hO72.upS ((fun _ => rfl))
            have hM_43 : M_42 y1 = .inl (cy 15, 6, .inr (.inl (vp_updL gDw6 ((nI v5w6) : Int32).toNatClampNeg f_40))) := by rw [eM_42]; exact va_up_self _ _ _
            have hM_44 : M_42 k1 = .inr (8, [.ref y0, .ref y1, .int y2, .int y3, .long y4, .long y5]) := by rw [eM_42, va_up_ne _ _ (ik1.neT hy1 (by decide))]; exact hM_14
            have hM_45 : M_42 y0 = .inl (cy 22, 6, .inr (.inr (.inr (.inr (f19))))) := by rw [eM_42, va_up_ne _ _ (hy0.neT hy1 (by decide))]; exact hM19
            have hM_46 : M_42 bq_21 = .inr (9, [.int (nI v25_0), .ref v25_1, .int v25_2, .int v25_3, .int v25_4, .int v25_5, .int v25_6, .int v25_7, va_rf v25_8, .long v25_9, .long v25_10, .long v25_11, .long v25_12, .long v25_13, .long v25_14, .long v25_15]) := by rw [eM_42, va_up_ne _ _ (hb_24.neT hy1 (by decide))]; exact hM25
            have hM_47 : M_42 v25_1 = .inr (4, [.int v26_0, .int v26_1, .int v26_2, va_rf v26_3]) := by rw [eM_42, va_up_ne _ _ (h25_1.neT hy1 (by decide))]; exact hM26
            have hM_48 : M_42 k2 = .inr (6, [.int v28_0, .int v28_1, .ref v28_2]) := by rw [eM_42, va_up_ne _ _ (ik2.neT hy1 (by decide))]; exact hM28
            obtain ⟨f_49, ef_49⟩ : ∃ f : Nat → Int64, f = vp_updL gDw6 ((nI v5w6) : Int32).toNatClampNeg f_40 := ⟨_, rfl⟩
            rw [← ef_49] at hM_43
            refine lv_lload_n hx hb dX0_giveWages_66 rfl (lv_at hl 3 rfl) ?_
            refine lv_lload hx hb dX0_giveWages_67 (lv_at hl 0 rfl) ?_
            refine lv_ladd hx hb dX0_giveWages_69 ?_
            refine lv_topl (fun f_50 ef_50 => ?_)
            have hs8 := sumI_bd (f := wgE M k1 k2) (b := 100000000) v5w6 (fun i hi => hwb i (by omega))
            have hnv : (f_50 : Int64).toInt = sumI (wgE M k1 k2) (v5w6 + 1) := by have h9 := lA ef_50 (by rw [hx_11, hwv]; omega) (by rw [hx_11, hwv]; omega); rw [hx_11, hwv] at h9; exact h9
            refine lv_lstore_n (lv' := [(3, .long f_50), (7, .long f_38), (6, .ref bq_21), (5, .int (nI v5w6)), (0, .ref oa), (1, .ref k1), (2, .ref k2)]) hx hb dX0_giveWages_70 rfl hl (by decide) rfl (fun ls hl => ?_)
            refine lv_iinc (v := (nI (v5w6 + 1))) (lv' := [(5, .int (nI (v5w6 + 1))), (3, .long f_50), (7, .long f_38), (6, .ref bq_21), (0, .ref oa), (1, .ref k1), (2, .ref k2)]) hx hb dX0_giveWages_71 hl (k := 3) rfl (nI_1 v5w6) (by decide) rfl (fun ls hl => ?_)
            refine lv_goto (tgt := 5) hx hb dX0_giveWages_74 (by decide) ?_
            exact ih_4 f_50 (v5w6 + 1) f_49 M_42 H_41 _ _ (by omega) hM_44 hM_43 (by omega) (by omega) (by rw [ef_49, nI_cl (by omega)]; intro q hq; by_cases z9 : q = v5w6; rw [z9, vp_updL_self]; exact hsv; rw [vp_updL_ne _ _ z9]; exact hx_9 q (by omega)) (by rw [ef_49, nI_cl (by omega)]; intro q hq hq2; rw [vp_updL_ne _ _ (by omega)]; exact hx_10 q (by omega) hq2) hnv hW hF hO72 hP hD hS (lv_sub hl [0, 1, 4, 5, 6] rfl)
  exact key_3 (6 - 0 + 1) 0 0 f1 M s.heap _ _ (by omega) hMy hM1 (by omega) (by omega) (fun q h => absurd h (Nat.not_lt_zero _)) (fun q _ hq => hD0 q) rfl hW hF hO72 hP hD hS (lv_sub hl [0, 1, 2, 3, 4] rfl)
set_option maxHeartbeats 4000000 in
set_option maxRecDepth 100000 in
theorem e_sums (l : Launch) (D : va_G) (cy : Nat → ClassId) (K : Kp) (L : List Nat) (M : Hp) (sz : Nat) (oa : Nat) (k1 : Nat) (k2 : Nat) (k3 : Int64) (y0 : Nat) (y1 : Nat) (y2 : Int32) (y3 : Int32) (y4 : Int64) (y5 : Int64) (hW : WOK cy K L M) (ia : isk K L oa 0 0) (ik1 : isk K L k1 8 0) (ik2 : isk K L k2 6 0) (hTB : (∀ q : Nat, q < 6 → 0 ≤ tR M k2 1 q ∧ tR M k2 1 q ≤ 1000000000)) (hk3 : (0 ≤ k3.toInt ∧ k3.toInt ≤ 1000000000000000)) (hUB : (∀ q : Nat, q < 6 → -1000000000000000 ≤ (LFc (M y1) q).toInt ∧ (LFc (M y1) q).toInt ≤ 1000000000000000)) (hMy : M k1 = .inr (8, [.ref y0, .ref y1, .int y2, .int y3, .long y4, .long y5])) (hy0 : isk K L y0 65 6) (hy1 : isk K L y1 72 6) : Met l yX0_giveSums (wsM yX0_giveSums cX0_giveSums 10 (some .long)) ({ frames := 2, cells := 0, slots := 0, locals := 43 }) (va_Pc [.ref oa, .ref k1, .ref k2, .long k3] (PG D cy [] L M sz)) (va_Ql (fun (r : Int64) (M9 : Hp) => WOK cy K L M9 ∧ fr K L [72] M M9 ∧ ONL 72 K L (fun b => b = y1) M M9 ∧ ((∀ q : Nat, q < 6 → (LFc (M9 y1) q).toInt = (LFc (M y1) q).toInt + fxS (fun q => sT M k1 q ≠ none) (fun q => tR M k2 1 q) k3.toInt q)) ∧ ((∃ (vr : Int64), r = vr ∧ ((vr : Int64).toInt = gvS (fun q => sT M k1 q ≠ none) (fun q => tR M k2 1 q) k3.toInt 6)))) (fun M9 t => PQ D [] L M9 (va_A ([] ++ va_pl L M) sz) t) (va_A ([] ++ va_pl L M) sz)) 0 0 (va_A ([] ++ va_pl L M) sz) := by
  refine Met.ofW (cc := cX0_giveSums) (maxL := 10) (ret := (some .long)) (by decide) rfl ?_
  intro p e s m args below meth c s₁ B hml hv
  obtain ⟨rfl, hsz, hP, hK, hD0, hN⟩ := hv
  have hx := B.exec
  have hb := B.bytes
  have hr := B.returns
  have hts := atoms_spec (ws := (wsM yX0_giveSums cX0_giveSums 10 (some .long))) B.pre
  have hg : ∀ w ∈ lw_good, w.before _ s = true := fun w h => hts w (List.mem_cons_of_mem _ h)
  have hown : s.vm.findClass RX0 = some m.cls := findClass_of_methodNamed B.named
  have hlocks := B.notSynchronized
  subst hsz
  have hD := hD0.self (sz := s.heap.size)
  generalize hAe : va_A ([] ++ va_pl L M) s.heap.size = A at hD ⊢
  have hA : ∀ q : Nat, s.heap.size ≤ q → A q := fun q h => by rw [← hAe]; exact Or.inr h
  have hS : va_S A s.heap s.heap [] := va_S.rf
  have hl := lv_entry ([.ref oa, .ref k1, .ref k2, .long k3]) (n := 10) (Nat.le_of_ble_eq_true rfl)
  rw [lg_entry_eq]
  generalize (lg_sl ([.ref oa, .ref k1, .ref k2, .long k3]) ++ List.replicate (10 - (lg_sl ([.ref oa, .ref k1, .ref k2, .long k3])).length) Slot.unset).toArray = ls at hl ⊢
  refine W.nameQ (fun Q hQ => ?_)
  refine W.nameR (fun R hR => ?_)
  have hRf : 2 ≤ R.frames := by rw [hR]; exact Nat.le_of_ble_eq_true rfl
  have hRl : 43 ≤ R.locals := by rw [hR]; exact Nat.le_of_ble_eq_true rfl
  have hRc : 0 ≤ R.cells := by rw [hR]; exact Nat.le_of_ble_eq_true rfl
  have hRs : 0 ≤ R.slots := by rw [hR]; exact Nat.le_of_ble_eq_true rfl
  have hF : fr K L [72] M M := fr.rf
  have hO72 : ONL 72 K L (fun b => b = y1) M M := ONL.rf
  have hl : lv_has ls 10 [(0, .ref oa), (1, .ref k1), (2, .ref k2), (3, .long k3)] := hl
  obtain ⟨f1, hM1⟩ := hW.open_72 hy1
  have hD0 : ∀ q : Nat, (f1 q).toInt = (LFc (M y1) q).toInt := fun q => by rw [LFc_of hM1]
  have hyT : rA 8 M k1 0 = y0 := rA_of (j := 0) hMy rfl
  obtain ⟨v2_0, v2_1, v2_2, hM2, h2_2⟩ := hW.open_6 ik2
  have hyr : rA 6 M k2 2 = v2_2 := rA_of (j := 2) hM2 rfl
  have hgb : ∀ q : Nat, q ≤ 6 → 0 ≤ gvS (fun q => sT M k1 q ≠ none) (fun q => tR M k2 1 q) k3.toInt q ∧ gvS (fun q => sT M k1 q ≠ none) (fun q => tR M k2 1 q) k3.toInt q ≤ k3.toInt := fun q hq => gvS_b hk3.1 q (fun i hi => (hTB i (by omega)).1)
  have hfb : ∀ q : Nat, q < 6 → 0 ≤ fxS (fun q => sT M k1 q ≠ none) (fun q => tR M k2 1 q) k3.toInt q ∧ fxS (fun q => sT M k1 q ≠ none) (fun q => tR M k2 1 q) k3.toInt q ≤ k3.toInt := fun q hq => fxS_b hk3.1 (fun i hi => (hTB i (by omega)).1)
  refine lv_lconst (v := 0) hx hb dX0_giveSums_0 (by decide) ?_
  refine lv_lstore (lv' := [(5, .long 0), (0, .ref oa), (1, .ref k1), (2, .ref k2), (3, .long k3)]) hx hb dX0_giveSums_1 hl (by decide) rfl (fun ls hl => ?_)
  refine lv_iconst (v := 0) hx hb dX0_giveSums_3 (by decide) ?_
  refine lv_istore (lv' := [(7, .int 0), (5, .long 0), (0, .ref oa), (1, .ref k1), (2, .ref k2), (3, .long k3)]) hx hb dX0_giveSums_4 hl (by decide) rfl (fun ls hl => ?_)
  have key_3 : ∀ (fu_5 : Nat) (v5w6 : Int64) (v7w6 : Nat) (gDw6 : Nat → Int64) (M_12 : Hp) (H_13 : Heap) (locs : List Loc) (ls : Array Slot), 6 - v7w6 < fu_5 → M_12 k1 = .inr (8, [.ref y0, .ref y1, .int y2, .int y3, .long y4, .long y5]) → M_12 y1 = .inl (cy 15, 6, .inr (.inl (gDw6))) → v7w6 ≤ 6 → v7w6 < 7 → (∀ q : Nat, q < v7w6 → (gDw6 q).toInt = (LFc (M y1) q).toInt + fxS (fun q => sT M k1 q ≠ none) (fun q => tR M k2 1 q) k3.toInt q) → (∀ q : Nat, v7w6 ≤ q → q < 6 → (gDw6 q).toInt = (LFc (M y1) q).toInt) → v5w6.toInt = gvS (fun q => sT M k1 q ≠ none) (fun q => tR M k2 1 q) k3.toInt v7w6 → WOK cy K L M_12 → fr K L [72] M M_12 → ONL 72 K L (fun b => b = y1) M M_12 → va_P D vwCl ([] ++ va_pl L M_12) H_13 → va_D A ([] ++ va_pl L M_12) → va_S A s.heap H_13 locs → lv_has ls 10 [(7, .int (nI v7w6)), (5, .long v5w6), (0, .ref oa), (1, .ref k1), (2, .ref k2), (3, .long k3)] → W p l e R s m ([.ref oa, .ref k1, .ref k2, .long k3] : List Value).toArray below meth c H_13 locs 0 0 Q (F0 m 6 ls []) := by
    intro fu_5
    induction fu_5 with
    | zero => intro v5w6 v7w6 gDw6 M_12 H_13 locs ls h; exact absurd h (Nat.not_lt_zero _)
    | succ fu_5 ih_4 =>
      intro v5w6 v7w6 gDw6 M_12 H_13 locs ls hfu hM_14 hM_15 hx_7 hx_8 hx_9 hx_10 hx_11 hW hF hO72 hP hD hS hl
      refine lv_iload hx hb dX0_giveSums_6 (lv_at hl 0 rfl) ?_
      refine lv_bipush (v := 6) hx hb dX0_giveSums_8 (by decide) ?_
      refine lv_icmp_ge (tgt := 65) hx hb dX0_giveSums_10 (by decide) (fun c_16 => ?_) (fun c_16 => ?_)
      · have hz := rfl (a := 0)
        have n_17 : 6 ≤ v7w6 := (iLE (a := 6) (b := v7w6) (by omega) (by omega)).mp c_16
        refine lv_lload hx hb dX0_giveSums_65 (lv_at hl 1 rfl) ?_
        rw [hQ]
        exact W.lret (v := v5w6) hx hb hr (fun t ht hW9 => ⟨⟨v5w6, M_12, rfl, ⟨hW, hF, hO72, (fun q hq => by rw [LFc_of hM_15]; exact hx_9 q (by omega)), ⟨_, rfl, (by have h9 := hx_11; rw [show v7w6 = 6 by omega] at h9; exact h9)⟩⟩, ⟨by rw [ht]; exact hP, hD⟩⟩, hS.F ht⟩) hS.2.2 dX0_giveSums_67
      · have hz := rfl (a := 0)
        have n_18 : ¬ (6 ≤ v7w6) := fun q => c_16 ((iLE (a := 6) (b := v7w6) (by omega) (by omega)).mpr q)
        refine lv_aload_n hx hb dX0_giveSums_13 rfl (lv_at hl 3 rfl) ?_
        refine pg_get (D := D) (ci := 8) (v := .ref y0) (C := RX8) (T := TX8) (N := 6) hx hb hg inG8 hown hK hP ik1.1 hM_14 rfl 0 (by decide) (hg _ wd_212) (fun _ h9 => h9) rfl dX0_giveSums_14 ?_
        refine lv_iload hx hb dX0_giveSums_17 (lv_at hl 0 rfl) ?_
        obtain ⟨f19, hM19, hf19⟩ := hW.open_65 hy0
        have hi_20 : vp_in (nI v7w6) 6 := (inbN v7w6 6 (by omega) (by omega))
        refine pg_aldq hx hb hK hP hy0.1 8 hM19 rfl hi_20 dX0_giveSums_19 ?_
        obtain ⟨q_21, ho_22⟩ : ∃ q : Option Nat, q = f19 ((nI v7w6) : Int32).toNatClampNeg := ⟨_, rfl⟩
        rw [← ho_22]
        have hq_23 : iskN K L q_21 9 0 := by rw [ho_22]; exact hf19 _ (vp_lt hi_20)
        rcases q_21 with _ | bq_21
        · have hz := rfl (a := 0)
          have hs9 : sT M k1 v7w6 = none := by unfold sT; rw [hyT, ← hF.at hy0 (by decide), RFc_of hM19]; have h9 := Eq.symm ho_22; rw [nI_cl (by omega)] at h9; exact h9
          have hw9 : fxS (fun q => sT M k1 q ≠ none) (fun q => tR M k2 1 q) k3.toInt v7w6 = 0 := by unfold fxS fx1; exact if_neg (fun q9 => q9 hs9)
          refine lv_ifnullN (tgt := 59) hx hb dX0_giveSums_20 (by decide) ?_
          refine lv_iinc (v := (nI (v7w6 + 1))) (lv' := [(7, .int (nI (v7w6 + 1))), (5, .long v5w6), (0, .ref oa), (1, .ref k1), (2, .ref k2), (3, .long k3)]) hx hb dX0_giveSums_59 hl (k := 0) rfl (nI_1 v7w6) (by decide) rfl (fun ls hl => ?_)
          refine lv_goto (tgt := 6) hx hb dX0_giveSums_62 (by decide) ?_
          exact ih_4 v5w6 (v7w6 + 1) gDw6 M_12 H_13 _ _ (by omega) hM_14 hM_15 (by omega) (by omega) (fun q hq => by by_cases z9 : q = v7w6; rw [z9, hw9, Int.add_zero]; exact hx_10 v7w6 (by omega) (by omega); exact hx_9 q (by omega)) (fun q hq hq2 => hx_10 q (by omega) hq2) (by rw [hx_11]; show _ = gvS (fun q => sT M k1 q ≠ none) (fun q => tR M k2 1 q) k3.toInt v7w6 + fxS (fun q => sT M k1 q ≠ none) (fun q => tR M k2 1 q) k3.toInt v7w6; rw [hw9, Int.add_zero]) hW hF hO72 hP hD hS (lv_sub hl [0, 1, 2, 3, 4, 5] rfl)
        · have hb_24 := hq_23 bq_21 rfl
          have hs9 : sT M k1 v7w6 = some bq_21 := by unfold sT; rw [hyT, ← hF.at hy0 (by decide), RFc_of hM19]; have h9 := (Eq.symm ho_22); rw [nI_cl (by omega)] at h9; exact h9
          refine lv_ifnull hx hb dX0_giveSums_20 ?_
          refine lv_aload_n hx hb dX0_giveSums_23 rfl (lv_at hl 4 rfl) ?_
          refine lv_iload hx hb dX0_giveSums_24 (lv_at hl 0 rfl) ?_
          refine lv_iconst (v := 1) hx hb dX0_giveSums_26 (by decide) ?_
          obtain ⟨v25_0, v25_1, v25_2, hM25, h25_2⟩ := hW.open_6 ik2
          have hPc : va_P D vwCl ([] ++ va_pl L M_12) H_13 := hP
          have hDc : va_D A ([] ++ va_pl L M_12) := hD
          have hFc : ∀ q, va_A ([] ++ va_pl L M_12) H_13.size q → A q := pg_free hDc hS hA
          refine va_calli (va_runV (As := [.int (nI v7w6), .int 1]) (rest := []) ⟨hx, hb, hml, hown, hg⟩ (e_termOf l D cy K L M_12 H_13.size k2 (nI v7w6) 1  hW ik2) (cwV 2 hg (gV wd_217 wd_136 wd_137 wd_97 wd_138) rfl rfl rfl (by decide +kernel) ⟨(Nat.le_trans (Nat.le_of_ble_eq_true rfl) hRf), (Nat.le_trans (Nat.le_of_ble_eq_true rfl) hRl)⟩) ⟨PG.blind, pg_recv hK hP ik2.1 hM25 rfl, fun U hU hW => ⟨rfl, PG.at hPc hK hDc hN hU hW⟩⟩ rfl rfl hl.1 rfl (lv_room (Nat.le_of_ble_eq_true rfl)) dX0_giveSums_27 ⟨(Nat.le_trans (Nat.le_of_ble_eq_true rfl) hRc), (Nat.le_trans (Nat.le_of_ble_eq_true rfl) hRs)⟩) hS (fun q _ h => hFc q h) hFc (fun r_27 M_28 t H_26 locs ht hvm hw hB hz1 hk1 hS => ?_)
          have hp_29 := hw
          obtain ⟨hP1, hD1⟩ := hB
          rw [ht] at hP1
          have hP : va_P D vwCl ([] ++ va_pl L M_12) H_26 := hP1
          have hD : va_D A ([] ++ va_pl L M_12) := hD1.mono hFc
          obtain ⟨vr_30, hr_32, c_31⟩ := hp_29
          have hq := Eq.symm hr_32
          subst hq
          have htv : (vr_30 : Int32).toInt = tR M k2 1 v7w6 := by rw [c_31, trV_e (hF.at ik2 (by decide)) (by rw [hyr]; exact hF.at h2_2 (by decide))]; exact trV_R (w := 1) (by decide) (by omega)
          refine lv_i2l hx hb dX0_giveSums_30 rfl ?_
          refine lv_topl (fun f_33 ef_33 => ?_)
          have hl1 : (f_33 : Int64).toInt = tR M k2 1 v7w6 := by rw [ef_33, Int32.toInt_toInt64, htv]
          refine lv_lload_n hx hb dX0_giveSums_31 rfl (lv_at hl 5 rfl) ?_
          refine lv_lload hx hb dX0_giveSums_32 (lv_at hl 1 rfl) ?_
          refine lv_lsub hx hb dX0_giveSums_34 ?_
          refine lv_topl (fun f_34 ef_34 => ?_)
          have hg9 := hgb v7w6 (by omega)
          have hlv : (f_34 : Int64).toInt = k3.toInt - gvS (fun q => sT M k1 q ≠ none) (fun q => tR M k2 1 q) k3.toInt v7w6 := by have h9 := lS ef_34 (by rw [hx_11]; omega) (by rw [hx_11]; omega); rw [hx_11] at h9; exact h9
          refine va_mmin_long hx hb (by rw [hml]; exact hl.1.symm) hown (hg _ wd_238) (hg _ wd_176) (hg _ wd_12) (hg _ wd_177) (Nat.le_trans (Nat.le_of_ble_eq_true rfl) hRf) (Nat.le_trans (Nat.le_of_ble_eq_true rfl) hRl) (Nat.le_trans (Nat.le_of_ble_eq_true rfl) hRc) (Nat.le_trans (Nat.le_of_ble_eq_true rfl) hRs) dX0_giveSums_35 ?_
          refine lv_topl (fun f_35 ef_35 => ?_)
          have hwv : (f_35 : Int64).toInt = fxS (fun q => sT M k1 q ≠ none) (fun q => tR M k2 1 q) k3.toInt v7w6 := by have h9 := lmin ef_35; rw [hlv, hl1] at h9; rw [h9]; unfold fxS fx1; rw [if_pos (show sT M k1 v7w6 ≠ none by rw [hs9]; intro z9; cases z9)]
          refine lv_lstore (lv' := [(8, .long f_35), (7, .int (nI v7w6)), (5, .long v5w6), (0, .ref oa), (1, .ref k1), (2, .ref k2), (3, .long k3)]) hx hb dX0_giveSums_38 hl (by decide) rfl (fun ls hl => ?_)
          refine lv_aload_n hx hb dX0_giveSums_40 rfl (lv_at hl 4 rfl) ?_
          refine pg_get (D := D) (ci := 8) (v := .ref y1) (C := RX8) (T := TX8) (N := 6) hx hb hg inG8 hown hK hP ik1.1 hM_14 rfl 1 (by decide) (hg _ wd_221) (fun _ h9 => h9) rfl dX0_giveSums_41 ?_
          refine lv_iload hx hb dX0_giveSums_44 (lv_at hl 1 rfl) ?_
          refine lv_dup2_11 hx hb dX0_giveSums_46 rfl rfl ?_
          refine pg_lald hx hb hK hP hy1.1 1 hM_15 rfl (inbN v7w6 6 (by omega) (by omega)) dX0_giveSums_47 ?_
          refine lv_topl (fun f_36 ef_36 => ?_)
          have hdv : (f_36 : Int64).toInt = (LFc (M y1) v7w6).toInt := by rw [ef_36, nI_cl (by omega)]; exact hx_10 v7w6 (by omega) (by omega)
          refine lv_lload hx hb dX0_giveSums_48 (lv_at hl 0 rfl) ?_
          refine lv_ladd hx hb dX0_giveSums_50 ?_
          refine lv_topl (fun f_37 ef_37 => ?_)
          have hu9 := hUB v7w6 (by omega)
          have hb8 := hfb v7w6 (by omega)
          have hsv : (f_37 : Int64).toInt = (LFc (M y1) v7w6).toInt + fxS (fun q => sT M k1 q ≠ none) (fun q => tR M k2 1 q) k3.toInt v7w6 := by have h9 := lA ef_37 (by rw [hdv, hwv]; omega) (by rw [hdv, hwv]; omega); rw [hdv, hwv] at h9; exact h9
          refine pg_last hx hb hK hP hD hS hy1.1 1 hM_15 rfl (inbN v7w6 6 (by omega) (by omega)) dX0_giveSums_51 (fun H_38 locs hP hD hS => ?_)
          obtain ⟨M_39, eM_39⟩ : ∃ M1 : Hp, M1 = va_up M_12 y1 (.inl (cy 15, 6, .inr (.inl (vp_updL gDw6 ((nI v7w6) : Int32).toNatClampNeg f_37)))) := ⟨_, rfl⟩
          have hP : va_P D vwCl ([] ++ va_pl L M_39) H_38 := by rw [eM_39]; exact hP
          have hD : va_D A ([] ++ va_pl L M_39) := by rw [eM_39]; exact hD
          have hW : WOK cy K L M_39 := by rw [eM_39]; exact hW.up_72 hy1 ⟨_, rfl⟩
          have hF : fr K L [72] M M_39 := by rw [eM_39]; exact hF.up hy1 (by decide)
          have hO72 : ONL 72 K L (fun b => b = y1) M M_39 := by rw [eM_39]; exact hO72.upS ((fun _ => rfl))
          have hM_40 : M_39 y1 = .inl (cy 15, 6, .inr (.inl (vp_updL gDw6 ((nI v7w6) : Int32).toNatClampNeg f_37))) := by rw [eM_39]; exact va_up_self _ _ _
          have hM_41 : M_39 k1 = .inr (8, [.ref y0, .ref y1, .int y2, .int y3, .long y4, .long y5]) := by rw [eM_39, va_up_ne _ _ (ik1.neT hy1 (by decide))]; exact hM_14
          have hM_42 : M_39 y0 = .inl (cy 22, 6, .inr (.inr (.inr (.inr (f19))))) := by rw [eM_39, va_up_ne _ _ (hy0.neT hy1 (by decide))]; exact hM19
          have hM_43 : M_39 k2 = .inr (6, [.int v25_0, .int v25_1, .ref v25_2]) := by rw [eM_39, va_up_ne _ _ (ik2.neT hy1 (by decide))]; exact hM25
          obtain ⟨f_44, ef_44⟩ : ∃ f : Nat → Int64, f = vp_updL gDw6 ((nI v7w6) : Int32).toNatClampNeg f_37 := ⟨_, rfl⟩
          rw [← ef_44] at hM_40
          refine lv_lload hx hb dX0_giveSums_52 (lv_at hl 2 rfl) ?_
          refine lv_lload hx hb dX0_giveSums_54 (lv_at hl 0 rfl) ?_
          refine lv_ladd hx hb dX0_giveSums_56 ?_
          refine lv_topl (fun f_45 ef_45 => ?_)
          have hnv : (f_45 : Int64).toInt = gvS (fun q => sT M k1 q ≠ none) (fun q => tR M k2 1 q) k3.toInt (v7w6 + 1) := by have h9 := lA ef_45 (by rw [hx_11, hwv]; omega) (by rw [hx_11, hwv]; omega); rw [hx_11, hwv] at h9; exact h9
          refine lv_lstore (lv' := [(5, .long f_45), (8, .long f_35), (7, .int (nI v7w6)), (0, .ref oa), (1, .ref k1), (2, .ref k2), (3, .long k3)]) hx hb dX0_giveSums_57 hl (by decide) rfl (fun ls hl => ?_)
          refine lv_iinc (v := (nI (v7w6 + 1))) (lv' := [(7, .int (nI (v7w6 + 1))), (5, .long f_45), (8, .long f_35), (0, .ref oa), (1, .ref k1), (2, .ref k2), (3, .long k3)]) hx hb dX0_giveSums_59 hl (k := 2) rfl (nI_1 v7w6) (by decide) rfl (fun ls hl => ?_)
          refine lv_goto (tgt := 6) hx hb dX0_giveSums_62 (by decide) ?_
          exact ih_4 f_45 (v7w6 + 1) f_44 M_39 H_38 _ _ (by omega) hM_41 hM_40 (by omega) (by omega) (by rw [ef_44, nI_cl (by omega)]; intro q hq; by_cases z9 : q = v7w6; rw [z9, vp_updL_self]; exact hsv; rw [vp_updL_ne _ _ z9]; exact hx_9 q (by omega)) (by rw [ef_44, nI_cl (by omega)]; intro q hq hq2; rw [vp_updL_ne _ _ (by omega)]; exact hx_10 q (by omega) hq2) hnv hW hF hO72 hP hD hS (lv_sub hl [0, 1, 3, 4, 5, 6] rfl)
  exact key_3 (6 - 0 + 1) 0 0 f1 M s.heap _ _ (by omega) hMy hM1 (by omega) (by omega) (fun q h => absurd h (Nat.not_lt_zero _)) (fun q _ hq => hD0 q) rfl hW hF hO72 hP hD hS (lv_sub hl [0, 1, 2, 3, 4, 5] rfl)
set_option maxHeartbeats 4000000 in
set_option maxRecDepth 100000 in
theorem e_fill66 (l : Launch) (D : va_G) (cy : Nat → ClassId) (K : Kp) (L : List Nat) (M : Hp) (sz : Nat) (k1 : Nat) (k2 : Int64) (hW : WOK cy K L M) (ik1 : isk K L k1 66 100) : Met l yJ7_fill_d0a16 (wsM yJ7_fill_d0a16 cJ7_fill_d0a16 5 none) ({ frames := 0, cells := 0, slots := 0, locals := 0 }) (va_Pc [.ref k1, .long k2] (PG D cy [] L M sz)) (va_Qv (fun (M9 : Hp) => WOK cy K L M9 ∧ fr K L [66] M M9 ∧ ((∀ i : Nat, i < 100 → LFc (M9 k1) i = k2)) ∧ (True)) (fun M9 t => PQ D [] L M9 (va_A ([] ++ va_pl L M) sz) t) (va_A ([] ++ va_pl L M) sz)) 0 0 (va_A ([] ++ va_pl L M) sz) := by
  refine Met.ofW (cc := cJ7_fill_d0a16) (maxL := 5) (ret := none) (by decide) rfl ?_
  intro p e s m args below meth c s₁ B hml hv
  obtain ⟨rfl, hsz, hP, hK, hD0, hN⟩ := hv
  have hx := B.exec
  have hb := B.bytes
  have hr := B.returns
  have hts := atoms_spec (ws := (wsM yJ7_fill_d0a16 cJ7_fill_d0a16 5 none)) B.pre
  have hg : ∀ w ∈ lw_good, w.before _ s = true := fun w h => hts w (List.mem_cons_of_mem _ h)
  have hown : s.vm.findClass RJ7 = some m.cls := findClass_of_methodNamed B.named
  have hlocks := B.notSynchronized
  subst hsz
  have hD := hD0.self (sz := s.heap.size)
  generalize hAe : va_A ([] ++ va_pl L M) s.heap.size = A at hD ⊢
  have hA : ∀ q : Nat, s.heap.size ≤ q → A q := fun q h => by rw [← hAe]; exact Or.inr h
  have hS : va_S A s.heap s.heap [] := va_S.rf
  have hl := lv_entry ([.ref k1, .long k2]) (n := 5) (Nat.le_of_ble_eq_true rfl)
  rw [lg_entry_eq]
  generalize (lg_sl ([.ref k1, .long k2]) ++ List.replicate (5 - (lg_sl ([.ref k1, .long k2])).length) Slot.unset).toArray = ls at hl ⊢
  refine W.nameQ (fun Q hQ => ?_)
  refine W.nameR (fun R hR => ?_)
  have hRf : 0 ≤ R.frames := by rw [hR]; exact Nat.le_of_ble_eq_true rfl
  have hRl : 0 ≤ R.locals := by rw [hR]; exact Nat.le_of_ble_eq_true rfl
  have hRc : 0 ≤ R.cells := by rw [hR]; exact Nat.le_of_ble_eq_true rfl
  have hRs : 0 ≤ R.slots := by rw [hR]; exact Nat.le_of_ble_eq_true rfl
  have hF : fr K L [66] M M := fr.rf
  have hl : lv_has ls 5 [(0, .ref k1), (1, .long k2)] := hl
  refine lv_iconst (v := 0) hx hb dJ7_fill_d0a16_0 (by decide) ?_
  refine lv_istore_n (lv' := [(3, .int 0), (0, .ref k1), (1, .long k2)]) hx hb dJ7_fill_d0a16_1 rfl hl (by decide) rfl (fun ls hl => ?_)
  refine lv_aload_n hx hb dJ7_fill_d0a16_2 rfl (lv_at hl 1 rfl) ?_
  obtain ⟨f1, hM1⟩ := hW.open_66 ik1
  refine pg_alen (v := 100) hx hb hK hP ik1.1 1 hM1 rfl (by rfl) dJ7_fill_d0a16_3 ?_
  refine lv_istore (lv' := [(4, .int 100), (3, .int 0), (0, .ref k1), (1, .long k2)]) hx hb dJ7_fill_d0a16_4 hl (by decide) rfl (fun ls hl => ?_)
  have key_2 : ∀ (fu_4 : Nat) (v3w5 : Nat) (gFw5 : Nat → Int64) (M_8 : Hp) (H_9 : Heap) (locs : List Loc) (ls : Array Slot), 100 - v3w5 < fu_4 → M_8 k1 = .inl (cy 15, 100, .inr (.inl (gFw5))) → v3w5 ≤ 100 → (∀ i : Nat, i < v3w5 → gFw5 i = k2) → WOK cy K L M_8 → fr K L [66] M M_8 → va_P D vwCl ([] ++ va_pl L M_8) H_9 → va_D A ([] ++ va_pl L M_8) → va_S A s.heap H_9 locs → lv_has ls 5 [(4, .int 100), (3, .int (nI v3w5)), (0, .ref k1), (1, .long k2)] → W p l e R s m ([.ref k1, .long k2] : List Value).toArray below meth c H_9 locs 0 0 Q (F0 m 6 ls []) := by
    intro fu_4
    induction fu_4 with
    | zero => intro v3w5 gFw5 M_8 H_9 locs ls h; exact absurd h (Nat.not_lt_zero _)
    | succ fu_4 ih_3 =>
      intro v3w5 gFw5 M_8 H_9 locs ls hfu hM_10 hx_6 hx_7 hW hF hP hD hS hl
      refine lv_iload_n hx hb dJ7_fill_d0a16_6 rfl (lv_at hl 1 rfl) ?_
      refine lv_iload hx hb dJ7_fill_d0a16_7 (lv_at hl 0 rfl) ?_
      refine lv_icmp_ge (tgt := 22) hx hb dJ7_fill_d0a16_9 (by decide) (fun c_11 => ?_) (fun c_11 => ?_)
      · have hz := rfl (a := 0)
        have n_12 : 100 ≤ v3w5 := (iLE (a := 100) (b := v3w5) (by omega) (by omega)).mp c_11
        rw [hQ]
        exact W.vret hx hb hr (fun t ht hW9 => ⟨⟨M_8, rfl, ⟨hW, hF, (fun i hi => by rw [LFc_of hM_10]; exact hx_7 i (by omega)), trivial⟩, ⟨by rw [ht]; exact hP, hD⟩⟩, hS.F ht⟩) hS.2.2 dJ7_fill_d0a16_22
      · have hz := rfl (a := 0)
        have n_13 : ¬ (100 ≤ v3w5) := fun q => c_11 ((iLE (a := 100) (b := v3w5) (by omega) (by omega)).mpr q)
        refine lv_aload_n hx hb dJ7_fill_d0a16_12 rfl (lv_at hl 2 rfl) ?_
        refine lv_iload_n hx hb dJ7_fill_d0a16_13 rfl (lv_at hl 1 rfl) ?_
        refine lv_lload_n hx hb dJ7_fill_d0a16_14 rfl (lv_at hl 3 rfl) ?_
        refine pg_last hx hb hK hP hD hS ik1.1 1 hM_10 rfl (inbN v3w5 100 (by omega) (by omega)) dJ7_fill_d0a16_15 (fun H_14 locs hP hD hS => ?_)
        obtain ⟨M_15, eM_15⟩ : ∃ M1 : Hp, M1 = va_up M_8 k1 (.inl (cy 15, 100, .inr (.inl (vp_updL gFw5 ((nI v3w5) : Int32).toNatClampNeg k2)))) := ⟨_, rfl⟩
        have hP : va_P D vwCl ([] ++ va_pl L M_15) H_14 := by rw [eM_15]; exact hP
        have hD : va_D A ([] ++ va_pl L M_15) := by rw [eM_15]; exact hD
        have hW : WOK cy K L M_15 := by rw [eM_15]; exact hW.up_66 ik1 ⟨_, rfl⟩
        have hF : fr K L [66] M M_15 := by rw [eM_15]; exact hF.up ik1 (by decide)
        have hM_16 : M_15 k1 = .inl (cy 15, 100, .inr (.inl (vp_updL gFw5 ((nI v3w5) : Int32).toNatClampNeg k2))) := by rw [eM_15]; exact va_up_self _ _ _
        obtain ⟨f_17, ef_17⟩ : ∃ f : Nat → Int64, f = vp_updL gFw5 ((nI v3w5) : Int32).toNatClampNeg k2 := ⟨_, rfl⟩
        rw [← ef_17] at hM_16
        refine lv_iinc (v := (nI (v3w5 + 1))) (lv' := [(3, .int (nI (v3w5 + 1))), (4, .int 100), (0, .ref k1), (1, .long k2)]) hx hb dJ7_fill_d0a16_16 hl (k := 1) rfl (nI_1 v3w5) (by decide) rfl (fun ls hl => ?_)
        refine lv_goto (tgt := 6) hx hb dJ7_fill_d0a16_19 (by decide) ?_
        exact ih_3 (v3w5 + 1) f_17 M_15 H_14 _ _ (by omega) hM_16 (by omega) (by rw [ef_17, nI_cl (by omega)]; intro i hi; by_cases z9 : i = v3w5; rw [z9, vp_updL_self]; rw [vp_updL_ne _ _ z9]; exact hx_7 i (by omega)) hW hF hP hD hS (lv_sub hl [1, 0, 2, 3] rfl)
  exact key_2 (100 - 0 + 1) 0 f1 M s.heap _ _ (by omega) hM1 (by omega) (fun i h => absurd h (Nat.not_lt_zero _)) hW hF hP hD hS (lv_sub hl [0, 1, 2, 3] rfl)
set_option maxHeartbeats 4000000 in
set_option maxRecDepth 100000 in
theorem e_credit (l : Launch) (D : va_G) (cy : Nat → ClassId) (K : Kp) (L : List Nat) (M : Hp) (sz : Nat) (oa : Nat) (k1 : Nat) (k2 : Nat) (k3 : Nat) (y0 : Nat) (y1 : Nat) (y2 : Nat) (y3 : Nat) (y4 : Int64) (un : Nat) (u0 : Nat) (u1 : Nat) (u2 : Nat) (u3 : Nat) (w0 : Nat) (w1 : Nat) (w2 : Int32) (w3 : Int32) (w4 : Int64) (w5 : Int64) (hW : WOK cy K L M) (ia : isk K L oa 0 0) (ik1 : isk K L k1 1 0) (ik2 : isk K L k2 8 0) (ik3 : isk K L k3 9 0) (hSB : (∀ k : Nat, k < u3 → -1000000000 ≤ (wJ (IFc (M u2))) k ∧ (wJ (IFc (M u2))) k ≤ 1000000000)) (hDB : (∀ k : Nat, k < u3 → 0 ≤ (wJ (IFc (M u1))) k ∧ (wJ (IFc (M u1))) k ≤ 999)) (hfd : (0 ≤ w2.toInt ∧ w2.toInt ≤ 999)) (hdd : (0 ≤ w3.toInt ∧ w3.toInt ≤ 100)) (hun : u3 ≤ 120) (hcb : (-1000000000000000 ≤ (cL 9 M k3 9).toInt ∧ (cL 9 M k3 9).toInt ≤ 1000000000000000)) (hnn : un = 120) (hMy : M oa = .inr (0, [.ref y0, .ref y1, .ref y2, .int (nI y3), .long y4])) (hy0 : isk K L y0 21 120) (hy1 : isk K L y1 66 100) (hy2 : isk K L y2 7 0) (hy3 : y3 ≤ 120) (hMu : M k1 = .inr (1, [.ref u0, .ref u1, .ref u2, .int (nI u3)])) (hu0 : isk K L u0 63 un) (hu1 : isk K L u1 56 un) (hu2 : isk K L u2 57 un) (hu3 : u3 ≤ un) (heu0 : un ≤ 120) (hMw : M k2 = .inr (8, [.ref w0, .ref w1, .int w2, .int w3, .long w4, .long w5])) (hw0 : isk K L w0 65 6) (hw1 : isk K L w1 72 6) : Met l yX0_creditDays (wsM yX0_creditDays cX0_creditDays 9 (some .long)) ({ frames := 1, cells := 0, slots := 0, locals := 24 }) (va_Pc [.ref oa, .ref k1, .ref k2, .ref k3] (PG D cy [] L M sz)) (va_Ql (fun (r : Int64) (M9 : Hp) => WOK cy K L M9 ∧ fr K L [66] M M9 ∧ ((∃ (vr : Int64), r = vr ∧ ((vr : Int64).toInt = itS (cL 9 M k3 9).toInt (fun k => RFc (M u0) k = some k3) (wJ (IFc (M u1))) (wJ (IFc (M u2))) u3 w2.toInt w3.toInt.toNat)))) (fun M9 t => PQ D [] L M9 (va_A ([] ++ va_pl L M) sz) t) (va_A ([] ++ va_pl L M) sz)) 0 0 (va_A ([] ++ va_pl L M) sz) := by
  refine Met.ofW (cc := cX0_creditDays) (maxL := 9) (ret := (some .long)) (by decide) rfl ?_
  intro p e s m args below meth c s₁ B hml hv
  obtain ⟨rfl, hsz, hP, hK, hD0, hN⟩ := hv
  have hx := B.exec
  have hb := B.bytes
  have hr := B.returns
  have hts := atoms_spec (ws := (wsM yX0_creditDays cX0_creditDays 9 (some .long))) B.pre
  have hg : ∀ w ∈ lw_good, w.before _ s = true := fun w h => hts w (List.mem_cons_of_mem _ h)
  have hown : s.vm.findClass RX0 = some m.cls := findClass_of_methodNamed B.named
  have hlocks := B.notSynchronized
  subst hsz
  have hD := hD0.self (sz := s.heap.size)
  generalize hAe : va_A ([] ++ va_pl L M) s.heap.size = A at hD ⊢
  have hA : ∀ q : Nat, s.heap.size ≤ q → A q := fun q h => by rw [← hAe]; exact Or.inr h
  have hS : va_S A s.heap s.heap [] := va_S.rf
  have hl := lv_entry ([.ref oa, .ref k1, .ref k2, .ref k3]) (n := 9) (Nat.le_of_ble_eq_true rfl)
  rw [lg_entry_eq]
  generalize (lg_sl ([.ref oa, .ref k1, .ref k2, .ref k3]) ++ List.replicate (9 - (lg_sl ([.ref oa, .ref k1, .ref k2, .ref k3])).length) Slot.unset).toArray = ls at hl ⊢
  refine W.nameQ (fun Q hQ => ?_)
  refine W.nameR (fun R hR => ?_)
  have hRf : 1 ≤ R.frames := by rw [hR]; exact Nat.le_of_ble_eq_true rfl
  have hRl : 24 ≤ R.locals := by rw [hR]; exact Nat.le_of_ble_eq_true rfl
  have hRc : 0 ≤ R.cells := by rw [hR]; exact Nat.le_of_ble_eq_true rfl
  have hRs : 0 ≤ R.slots := by rw [hR]; exact Nat.le_of_ble_eq_true rfl
  have hF : fr K L [66] M M := fr.rf
  have hl : lv_has ls 9 [(0, .ref oa), (1, .ref k1), (2, .ref k2), (3, .ref k3)] := hl
  obtain ⟨v1_0, v1_1, v1_2, v1_3, v1_4, v1_5, v1_6, v1_7, v1_8, v1_9, v1_10, v1_11, v1_12, v1_13, v1_14, v1_15, hM1, h1_0, h1_1, h1_4, h1_8⟩ := hW.open_9 ik3
  refine lv_aload_n hx hb dX0_creditDays_0 rfl (lv_at hl 3 rfl) ?_
  refine pg_get (D := D) (ci := 9) (v := .long v1_9) (C := RX9) (T := TX9) (N := 16) hx hb hg inG9 hown hK hP ik3.1 hM1 rfl 9 (by decide) (hg _ wd_222) (fun _ h9 => h9) rfl dX0_creditDays_1 ?_
  have hc0 : (v1_9 : Int64).toInt = (cL 9 M k3 9).toInt := by rw [cL_of (j := 9) hM1 rfl]
  refine lv_lstore (lv' := [(4, .long v1_9), (0, .ref oa), (1, .ref k1), (2, .ref k2), (3, .ref k3)]) hx hb dX0_creditDays_4 hl (by decide) rfl (fun ls hl => ?_)
  refine lv_aload_n hx hb dX0_creditDays_6 rfl (lv_at hl 1 rfl) ?_
  refine pg_get (D := D) (ci := 0) (v := .ref y1) (C := RX0) (T := TX0) (N := 5) hx hb hg inG0 hown hK hP ia.1 hMy rfl 1 (by decide) (hg _ wd_223) (fun _ h9 => h9) rfl dX0_creditDays_7 ?_
  refine lv_lconst (v := 0) hx hb dX0_creditDays_10 (by decide) ?_
  have hPc : va_P D vwCl ([] ++ va_pl L M) s.heap := hP
  have hDc : va_D A ([] ++ va_pl L M) := hD
  have hFc : ∀ q, va_A ([] ++ va_pl L M) s.heap.size q → A q := pg_free hDc hS hA
  refine va_callv (va_runS (As := [.ref y1, .long 0]) (rest := []) ⟨hx, hb, hml, hown, hg⟩ (e_fill66 l D cy K L M s.heap.size y1 0  hW hy1) (va_cwS 2 hg (gS wd_224 wd_158 wd_159 wd_160) rfl rfl rfl (by decide +kernel) ⟨(Nat.le_trans (Nat.le_of_ble_eq_true rfl) hRf), (Nat.le_trans (Nat.le_of_ble_eq_true rfl) hRl)⟩) ⟨PG.blind, fun U hU hW => ⟨rfl, PG.at hPc hK hDc hN hU hW⟩⟩ rfl rfl hl.1 rfl (lv_room (Nat.le_of_ble_eq_true rfl)) dX0_creditDays_11 ⟨(Nat.le_trans (Nat.le_of_ble_eq_true rfl) hRc), (Nat.le_trans (Nat.le_of_ble_eq_true rfl) hRs)⟩) hS (fun q _ h => hFc q h) hFc (fun M_4 t H_2 locs ht hvm hw hB hz1 hk1 hS => ?_)
  obtain ⟨hW, hF2, hVP, hp_5⟩ := hw
  obtain ⟨hP1, hD1⟩ := hB
  rw [ht] at hP1
  have hP : va_P D vwCl ([] ++ va_pl L M_4) H_2 := hP1
  have hD : va_D A ([] ++ va_pl L M_4) := hD1.mono hFc
  have hM_6 : M_4 oa = .inr (0, [.ref y0, .ref y1, .ref y2, .int (nI y3), .long y4]) := (hF2.at ia (by decide)).trans hMy
  have hM_7 : M_4 k1 = .inr (1, [.ref u0, .ref u1, .ref u2, .int (nI u3)]) := (hF2.at ik1 (by decide)).trans hMu
  have hM_8 : M_4 k2 = .inr (8, [.ref w0, .ref w1, .int w2, .int w3, .long w4, .long w5]) := (hF2.at ik2 (by decide)).trans hMw
  have hM_9 : M_4 k3 = .inr (9, [.int (nI v1_0), .ref v1_1, .int v1_2, .int v1_3, .int v1_4, .int v1_5, .int v1_6, .int v1_7, va_rf v1_8, .long v1_9, .long v1_10, .long v1_11, .long v1_12, .long v1_13, .long v1_14, .long v1_15]) := (hF2.at ik3 (by decide)).trans hM1
  have hF : fr K L [66] M M_4 := hF.tr hF2 (by decide)
  have hfl := hVP
  refine lv_iconst (v := 0) hx hb dX0_creditDays_14 (by decide) ?_
  refine lv_istore (lv' := [(6, .int 0), (4, .long v1_9), (0, .ref oa), (1, .ref k1), (2, .ref k2), (3, .ref k3)]) hx hb dX0_creditDays_15 hl (by decide) rfl (fun ls hl => ?_)
  obtain ⟨f10, hM10⟩ := hW.open_66 hy1
  have key_11 : ∀ (fu_13 : Nat) (v4w14 : Int64) (v6w14 : Nat) (gMw14 : Nat → Int64) (M_19 : Hp) (H_20 : Heap) (locs : List Loc) (ls : Array Slot), 120 - v6w14 < fu_13 → M_19 oa = .inr (0, [.ref y0, .ref y1, .ref y2, .int (nI y3), .long y4]) → M_19 k1 = .inr (1, [.ref u0, .ref u1, .ref u2, .int (nI u3)]) → M_19 k2 = .inr (8, [.ref w0, .ref w1, .int w2, .int w3, .long w4, .long w5]) → M_19 k3 = .inr (9, [.int (nI v1_0), .ref v1_1, .int v1_2, .int v1_3, .int v1_4, .int v1_5, .int v1_6, .int v1_7, va_rf v1_8, .long v1_9, .long v1_10, .long v1_11, .long v1_12, .long v1_13, .long v1_14, .long v1_15]) → M_19 y1 = .inl (cy 15, 100, .inr (.inl (gMw14))) → v6w14 ≤ u3 → v6w14 ≤ 120 → v4w14.toInt = (cL 9 M k3 9).toInt + mvS (fun k => (fun k => RFc (M u0) k = some k3) k ∧ (wJ (IFc (M u1))) k < w2.toInt) (wJ (IFc (M u2))) v6w14 → (∀ o : Nat, o < 100 → (gMw14 o).toInt = mvS (fun k => (fun k => RFc (M u0) k = some k3) k ∧ (wJ (IFc (M u1))) k = w2.toInt + ((o : Nat) : Int)) (wJ (IFc (M u2))) v6w14) → WOK cy K L M_19 → fr K L [66] M M_19 → va_P D vwCl ([] ++ va_pl L M_19) H_20 → va_D A ([] ++ va_pl L M_19) → va_S A s.heap H_20 locs → lv_has ls 9 [(6, .int (nI v6w14)), (4, .long v4w14), (0, .ref oa), (1, .ref k1), (2, .ref k2), (3, .ref k3)] → W p l e R s m ([.ref oa, .ref k1, .ref k2, .ref k3] : List Value).toArray below meth c H_20 locs 0 0 Q (F0 m 17 ls []) := by
    intro fu_13
    induction fu_13 with
    | zero => intro v4w14 v6w14 gMw14 M_19 H_20 locs ls h; exact absurd h (Nat.not_lt_zero _)
    | succ fu_13 ih_12 =>
      intro v4w14 v6w14 gMw14 M_19 H_20 locs ls hfu hM_21 hM_22 hM_23 hM_24 hM_25 hx_15 hx_16 hx_17 hx_18 hW hF hP hD hS hl
      refine lv_iload hx hb dX0_creditDays_17 (lv_at hl 0 rfl) ?_
      refine lv_aload_n hx hb dX0_creditDays_19 rfl (lv_at hl 3 rfl) ?_
      refine pg_get (D := D) (ci := 1) (v := .int (nI u3)) (C := RX1) (T := TX1) (N := 4) hx hb hg inG1 hown hK hP ik1.1 hM_22 rfl 3 (by decide) (hg _ wd_225) (fun _ h9 => h9) rfl dX0_creditDays_20 ?_
      refine lv_icmp_ge (tgt := 109) hx hb dX0_creditDays_23 (by decide) (fun c_26 => ?_) (fun c_26 => ?_)
      · have hz := rfl (a := 0)
        have n_27 : u3 ≤ v6w14 := (iLE (a := u3) (b := v6w14) (by omega) (by omega)).mp c_26
        rw [show v6w14 = u3 by omega] at hx_17 hx_18
        have hC9 := hx_17
        have hM9 := hx_18
        have hcrb : ∀ d : Int, -1000000000000000 - 120000000000 ≤ crD (cL 9 M k3 9).toInt (fun k => RFc (M u0) k = some k3) (wJ (IFc (M u1))) (wJ (IFc (M u2))) u3 d ∧ crD (cL 9 M k3 9).toInt (fun k => RFc (M u0) k = some k3) (wJ (IFc (M u1))) (wJ (IFc (M u2))) u3 d ≤ 1000000000000000 + 120000000000 := fun d => by have h8 := mvS_b (P := fun k => (fun k => RFc (M u0) k = some k3) k ∧ (wJ (IFc (M u1))) k ≤ d) (S := (wJ (IFc (M u2)))) u3 hSB; show _ ≤ (cL 9 M k3 9).toInt + mvS _ _ u3 ∧ (cL 9 M k3 9).toInt + mvS _ _ u3 ≤ _; omega
        refine lv_lconst (v := 0) hx hb dX0_creditDays_109 (by decide) ?_
        refine lv_lstore (lv' := [(6, .long 0), (4, .long v4w14), (0, .ref oa), (1, .ref k1), (2, .ref k2), (3, .ref k3)]) hx hb dX0_creditDays_110 hl (by decide) rfl (fun ls hl => ?_)
        refine lv_iconst (v := 0) hx hb dX0_creditDays_112 (by decide) ?_
        refine lv_istore (lv' := [(8, .int 0), (6, .long 0), (4, .long v4w14), (0, .ref oa), (1, .ref k1), (2, .ref k2), (3, .ref k3)]) hx hb dX0_creditDays_113 hl (by decide) rfl (fun ls hl => ?_)
        have key_28 : ∀ (fu_30 : Nat) (v4w31 : Int64) (v6w31 : Int64) (v8w31 : Nat) (gMw31 : Nat → Int64) (M_37 : Hp) (H_38 : Heap) (locs : List Loc) (ls : Array Slot), 101 - v8w31 < fu_30 → M_37 oa = .inr (0, [.ref y0, .ref y1, .ref y2, .int (nI y3), .long y4]) → M_37 k2 = .inr (8, [.ref w0, .ref w1, .int w2, .int w3, .long w4, .long w5]) → M_37 y1 = .inl (cy 15, 100, .inr (.inl (gMw31))) → v8w31 ≤ 100 → ((v8w31 : Nat) : Int) ≤ w3.toInt → v6w31.toInt = itS (cL 9 M k3 9).toInt (fun k => RFc (M u0) k = some k3) (wJ (IFc (M u1))) (wJ (IFc (M u2))) u3 w2.toInt v8w31 → v4w31.toInt + mvS (fun k => (fun k => RFc (M u0) k = some k3) k ∧ (wJ (IFc (M u1))) k = w2.toInt + ((v8w31 : Nat) : Int)) (wJ (IFc (M u2))) u3 = crD (cL 9 M k3 9).toInt (fun k => RFc (M u0) k = some k3) (wJ (IFc (M u1))) (wJ (IFc (M u2))) u3 (w2.toInt + ((v8w31 : Nat) : Int)) → (∀ o : Nat, o < 100 → (gMw31 o).toInt = mvS (fun k => (fun k => RFc (M u0) k = some k3) k ∧ (wJ (IFc (M u1))) k = w2.toInt + ((o : Nat) : Int)) (wJ (IFc (M u2))) u3) → WOK cy K L M_37 → fr K L [66] M M_37 → va_P D vwCl ([] ++ va_pl L M_37) H_38 → va_D A ([] ++ va_pl L M_37) → va_S A s.heap H_38 locs → lv_has ls 9 [(8, .int (nI v8w31)), (6, .long v6w31), (4, .long v4w31), (0, .ref oa), (1, .ref k1), (2, .ref k2), (3, .ref k3)] → W p l e R s m ([.ref oa, .ref k1, .ref k2, .ref k3] : List Value).toArray below meth c H_38 locs 0 0 Q (F0 m 115 ls []) := by
          intro fu_30
          induction fu_30 with
          | zero => intro v4w31 v6w31 v8w31 gMw31 M_37 H_38 locs ls h; exact absurd h (Nat.not_lt_zero _)
          | succ fu_30 ih_29 =>
            intro v4w31 v6w31 v8w31 gMw31 M_37 H_38 locs ls hfu hM_39 hM_40 hM_41 hx_32 hx_33 hx_34 hx_35 hx_36 hW hF hP hD hS hl
            refine lv_iload hx hb dX0_creditDays_115 (lv_at hl 0 rfl) ?_
            refine lv_aload_n hx hb dX0_creditDays_117 rfl (lv_at hl 5 rfl) ?_
            refine pg_get (D := D) (ci := 8) (v := .int w3) (C := RX8) (T := TX8) (N := 6) hx hb hg inG8 hown hK hP ik2.1 hM_40 rfl 3 (by decide) (hg _ wd_220) (fun _ h9 => h9) rfl dX0_creditDays_118 ?_
            refine lv_icmp_ge (tgt := 163) hx hb dX0_creditDays_121 (by decide) (fun c_42 => ?_) (fun c_42 => ?_)
            · have hz := rfl (a := 0)
              refine lv_lload hx hb dX0_creditDays_163 (lv_at hl 1 rfl) ?_
              have hI_43 : ((u3 : Nat) : Int) ≤ ((v6w14 : Nat) : Int) := ileI (nI_toInt (by omega)) (nI_toInt (by omega)) c_26
              have hI_44 : (w3 : Int32).toInt ≤ ((v8w31 : Nat) : Int) := ileI rfl (nI_toInt (by omega)) c_42
              rw [hQ]
              exact W.lret (v := v6w31) hx hb hr (fun t ht hW9 => ⟨⟨v6w31, M_37, rfl, ⟨hW, hF, ⟨_, rfl, (by have h9 := hx_34; rw [show v8w31 = w3.toInt.toNat by omega] at h9; exact h9)⟩⟩, ⟨by rw [ht]; exact hP, hD⟩⟩, hS.F ht⟩) hS.2.2 dX0_creditDays_165
            · have hz := rfl (a := 0)
              refine lv_iload hx hb dX0_creditDays_124 (lv_at hl 0 rfl) ?_
              refine lv_aload_n hx hb dX0_creditDays_126 rfl (lv_at hl 3 rfl) ?_
              refine pg_get (D := D) (ci := 0) (v := .ref y1) (C := RX0) (T := TX0) (N := 5) hx hb hg inG0 hown hK hP ia.1 hM_39 rfl 1 (by decide) (hg _ wd_223) (fun _ h9 => h9) rfl dX0_creditDays_127 ?_
              refine pg_alen (v := 100) hx hb hK hP hy1.1 1 hM_41 rfl (by rfl) dX0_creditDays_130 ?_
              refine lv_icmp_ge (tgt := 163) hx hb dX0_creditDays_131 (by decide) (fun c_45 => ?_) (fun c_45 => ?_)
              · have hz := rfl (a := 0)
                have n_46 : 100 ≤ v8w31 := (iLE (a := 100) (b := v8w31) (by omega) (by omega)).mp c_45
                refine lv_lload hx hb dX0_creditDays_163 (lv_at hl 1 rfl) ?_
                have hI_47 : ((u3 : Nat) : Int) ≤ ((v6w14 : Nat) : Int) := ileI (nI_toInt (by omega)) (nI_toInt (by omega)) c_26
                have hI_48 : ((v8w31 : Nat) : Int) < (w3 : Int32).toInt := inleI rfl (nI_toInt (by omega)) c_42
                have hI_49 : (100 : Int) ≤ ((v8w31 : Nat) : Int) := ileI rfl (nI_toInt (by omega)) c_45
                rw [hQ]
                exact W.lret (v := v6w31) hx hb hr (fun t ht hW9 => ⟨⟨v6w31, M_37, rfl, ⟨hW, hF, ⟨_, rfl, (by have h9 := hx_34; rw [show v8w31 = w3.toInt.toNat by omega] at h9; exact h9)⟩⟩, ⟨by rw [ht]; exact hP, hD⟩⟩, hS.F ht⟩) hS.2.2 dX0_creditDays_165
              · have hz := rfl (a := 0)
                have n_50 : ¬ (100 ≤ v8w31) := fun q => c_45 ((iLE (a := 100) (b := v8w31) (by omega) (by omega)).mpr q)
                refine lv_lload hx hb dX0_creditDays_134 (lv_at hl 2 rfl) ?_
                refine lv_aload_n hx hb dX0_creditDays_136 rfl (lv_at hl 3 rfl) ?_
                refine pg_get (D := D) (ci := 0) (v := .ref y1) (C := RX0) (T := TX0) (N := 5) hx hb hg inG0 hown hK hP ia.1 hM_39 rfl 1 (by decide) (hg _ wd_223) (fun _ h9 => h9) rfl dX0_creditDays_137 ?_
                refine lv_iload hx hb dX0_creditDays_140 (lv_at hl 0 rfl) ?_
                refine pg_lald hx hb hK hP hy1.1 1 hM_41 rfl (inbN v8w31 100 (by omega) (by omega)) dX0_creditDays_142 ?_
                refine lv_topl (fun f_51 ef_51 => ?_)
                have hI_52 : ((u3 : Nat) : Int) ≤ ((v6w14 : Nat) : Int) := ileI (nI_toInt (by omega)) (nI_toInt (by omega)) c_26
                have hI_53 : ((v8w31 : Nat) : Int) < (w3 : Int32).toInt := inleI rfl (nI_toInt (by omega)) c_42
                have hI_54 : ((v8w31 : Nat) : Int) < (100 : Int) := inleI rfl (nI_toInt (by omega)) c_45
                have hgm : (f_51 : Int64).toInt = mvS (fun k => (fun k => RFc (M u0) k = some k3) k ∧ (wJ (IFc (M u1))) k = w2.toInt + ((v8w31 : Nat) : Int)) (wJ (IFc (M u2))) u3 := by rw [ef_51, nI_cl (by omega)]; exact hx_36 v8w31 (by omega)
                refine lv_ladd hx hb dX0_creditDays_143 ?_
                refine lv_topl (fun f_55 ef_55 => ?_)
                have hcb9 := hcrb (w2.toInt + ((v8w31 : Nat) : Int))
                have hmb := mvS_b (P := fun k => (fun k => RFc (M u0) k = some k3) k ∧ (wJ (IFc (M u1))) k = w2.toInt + ((v8w31 : Nat) : Int)) (S := (wJ (IFc (M u2)))) u3 hSB
                have hcd : (f_55 : Int64).toInt = crD (cL 9 M k3 9).toInt (fun k => RFc (M u0) k = some k3) (wJ (IFc (M u1))) (wJ (IFc (M u2))) u3 (w2.toInt + ((v8w31 : Nat) : Int)) := by have h8 := hx_35; have h9 := lA ef_55 (by rw [hgm]; omega) (by rw [hgm]; omega); rw [h9, hgm]; exact h8
                refine lv_lstore (lv' := [(4, .long f_55), (8, .int (nI v8w31)), (6, .long v6w31), (0, .ref oa), (1, .ref k1), (2, .ref k2), (3, .ref k3)]) hx hb dX0_creditDays_144 hl (by decide) rfl (fun ls hl => ?_)
                refine lv_lload hx hb dX0_creditDays_146 (lv_at hl 2 rfl) ?_
                refine lv_lconst (v := 0) hx hb dX0_creditDays_148 (by decide) ?_
                refine lv_lload hx hb dX0_creditDays_149 (lv_at hl 0 rfl) ?_
                refine va_mmax_long hx hb (by rw [hml]; exact hl.1.symm) hown (hg _ wd_226) (hg _ wd_11) (hg _ wd_12) (hg _ wd_13) (Nat.le_trans (Nat.le_of_ble_eq_true rfl) hRf) (Nat.le_trans (Nat.le_of_ble_eq_true rfl) hRl) (Nat.le_trans (Nat.le_of_ble_eq_true rfl) hRc) (Nat.le_trans (Nat.le_of_ble_eq_true rfl) hRs) dX0_creditDays_151 ?_
                refine lv_topl (fun f_56 ef_56 => ?_)
                have hmx : (f_56 : Int64).toInt = mx0 (crD (cL 9 M k3 9).toInt (fun k => RFc (M u0) k = some k3) (wJ (IFc (M u1))) (wJ (IFc (M u2))) u3 (w2.toInt + ((v8w31 : Nat) : Int))) := by have h9 := lmax ef_56; rw [hcd, show (0 : Int64).toInt = 0 from rfl] at h9; exact h9
                have hmxb : 0 ≤ mx0 (crD (cL 9 M k3 9).toInt (fun k => RFc (M u0) k = some k3) (wJ (IFc (M u1))) (wJ (IFc (M u2))) u3 (w2.toInt + ((v8w31 : Nat) : Int))) ∧ mx0 (crD (cL 9 M k3 9).toInt (fun k => RFc (M u0) k = some k3) (wJ (IFc (M u1))) (wJ (IFc (M u2))) u3 (w2.toInt + ((v8w31 : Nat) : Int))) ≤ 1000000000000000 + 120000000000 := by have h9 := hcrb (w2.toInt + ((v8w31 : Nat) : Int)); unfold mx0; by_cases z9 : crD (cL 9 M k3 9).toInt (fun k => RFc (M u0) k = some k3) (wJ (IFc (M u1))) (wJ (IFc (M u2))) u3 (w2.toInt + ((v8w31 : Nat) : Int)) < 0; rw [if_pos z9]; omega; rw [if_neg z9]; omega
                refine lv_ladd hx hb dX0_creditDays_154 ?_
                refine lv_topl (fun f_57 ef_57 => ?_)
                have hib := itS_b (c0 := (cL 9 M k3 9).toInt) (P := (fun k => RFc (M u0) k = some k3)) (D := (wJ (IFc (M u1)))) (S := (wJ (IFc (M u2)))) (n := u3) (f := w2.toInt) (b := 1000000000000000 + 120000000000) v8w31 (fun d => (hcrb d).2) (by decide)
                have hal : (f_57 : Int64).toInt = itS (cL 9 M k3 9).toInt (fun k => RFc (M u0) k = some k3) (wJ (IFc (M u1))) (wJ (IFc (M u2))) u3 w2.toInt (v8w31 + 1) := by have h9 := lA ef_57 (by rw [hx_34, hmx]; omega) (by rw [hx_34, hmx]; omega); rw [hx_34, hmx] at h9; exact h9
                refine lv_lstore (lv' := [(6, .long f_57), (4, .long f_55), (8, .int (nI v8w31)), (0, .ref oa), (1, .ref k1), (2, .ref k2), (3, .ref k3)]) hx hb dX0_creditDays_155 hl (by decide) rfl (fun ls hl => ?_)
                refine lv_iinc (v := (nI (v8w31 + 1))) (lv' := [(8, .int (nI (v8w31 + 1))), (6, .long f_57), (4, .long f_55), (0, .ref oa), (1, .ref k1), (2, .ref k2), (3, .ref k3)]) hx hb dX0_creditDays_157 hl (k := 2) rfl (nI_1 v8w31) (by decide) rfl (fun ls hl => ?_)
                refine lv_goto (tgt := 115) hx hb dX0_creditDays_160 (by decide) ?_
                exact ih_29 f_55 f_57 (v8w31 + 1) gMw31 M_37 H_38 _ _ (by omega) hM_39 hM_40 hM_41 (by omega) (by omega) hal (by rw [hcd]; exact crD_1) hx_36 hW hF hP hD hS (lv_sub hl [0, 1, 2, 3, 4, 5, 6] rfl)
        exact key_28 (101 - 0 + 1) v4w14 0 0 gMw14 M_19 H_20 _ _ (by omega) hM_21 hM_23 hM_25 (by omega) (by omega) rfl (by rw [hC9]; exact crD_0) hM9 hW hF hP hD hS (lv_sub hl [0, 1, 2, 3, 4, 5, 6] rfl)
      · have hz := rfl (a := 0)
        have n_58 : ¬ (u3 ≤ v6w14) := fun q => c_26 ((iLE (a := u3) (b := v6w14) (by omega) (by omega)).mpr q)
        refine lv_aload_n hx hb dX0_creditDays_26 rfl (lv_at hl 3 rfl) ?_
        refine pg_get (D := D) (ci := 1) (v := .ref u1) (C := RX1) (T := TX1) (N := 4) hx hb hg inG1 hown hK hP ik1.1 hM_22 rfl 1 (by decide) (hg _ wd_227) (fun _ h9 => h9) rfl dX0_creditDays_27 ?_
        refine lv_iload hx hb dX0_creditDays_30 (lv_at hl 0 rfl) ?_
        obtain ⟨f59, hM59⟩ := hW.open_56 hu1
        refine pg_iald hx hb hK hP hu1.1 0 hM59 rfl (inbN v6w14 un (by omega) (by omega)) dX0_creditDays_32 ?_
        refine lv_topi (fun f_60 ef_60 => ?_)
        refine lv_aload_n hx hb dX0_creditDays_33 rfl (lv_at hl 4 rfl) ?_
        refine pg_get (D := D) (ci := 8) (v := .int w2) (C := RX8) (T := TX8) (N := 6) hx hb hg inG8 hown hK hP ik2.1 hM_23 rfl 2 (by decide) (hg _ wd_228) (fun _ h9 => h9) rfl dX0_creditDays_34 ?_
        refine lv_isub hx hb dX0_creditDays_37 ?_
        refine lv_topi (fun f_61 ef_61 => ?_)
        have hdv : (f_60 : Int32).toInt = (wJ (IFc (M u1))) v6w14 := by rw [ef_60, nI_cl (by omega), ← IFc_of hM59, hF.at hu1 (by decide)]; rfl
        have hdb := hDB v6w14 (by omega)
        have hov : (f_61 : Int32).toInt = (wJ (IFc (M u1))) v6w14 - w2.toInt := by rw [← hdv]; exact isubI rfl rfl ef_61 (by omega) (by omega)
        refine lv_istore (lv' := [(7, .int f_61), (6, .int (nI v6w14)), (4, .long v4w14), (0, .ref oa), (1, .ref k1), (2, .ref k2), (3, .ref k3)]) hx hb dX0_creditDays_38 hl (by decide) rfl (fun ls hl => ?_)
        refine lv_aload_n hx hb dX0_creditDays_40 rfl (lv_at hl 4 rfl) ?_
        refine pg_get (D := D) (ci := 1) (v := .ref u0) (C := RX1) (T := TX1) (N := 4) hx hb hg inG1 hown hK hP ik1.1 hM_22 rfl 0 (by decide) (hg _ wd_229) (fun _ h9 => h9) rfl dX0_creditDays_41 ?_
        refine lv_iload hx hb dX0_creditDays_44 (lv_at hl 1 rfl) ?_
        obtain ⟨f62, hM62, hf62⟩ := hW.open_63 hu0
        have hi_63 : vp_in (nI v6w14) un := (inbN v6w14 un (by omega) (by omega))
        refine pg_aldq hx hb hK hP hu0.1 8 hM62 rfl hi_63 dX0_creditDays_46 ?_
        obtain ⟨q_64, ho_65⟩ : ∃ q : Option Nat, q = f62 ((nI v6w14) : Int32).toNatClampNeg := ⟨_, rfl⟩
        rw [← ho_65]
        have hq_66 : iskN K L q_64 9 0 := by rw [ho_65]; exact hf62 _ (vp_lt hi_63)
        rcases q_64 with _ | bq_64
        · have hz := rfl (a := 0)
          have hs9 : RFc (M u0) v6w14 = none := by rw [← hF.at hu0 (by decide), RFc_of hM62]; have h9 := Eq.symm ho_65; rw [nI_cl (by omega)] at h9; exact h9
          refine lv_aload_n hx hb dX0_creditDays_47 rfl (lv_at hl 6 rfl) ?_
          refine lv_acmp_ne (rx := none) (ry := (some k3)) (tgt := 103) hx hb dX0_creditDays_48 (by decide) (fun c_68 => ?_) (fun c_68 => ?_)
          · have hz := rfl (a := 0)
            have hnP : ¬ RFc (M u0) v6w14 = some k3 := fun q9 => c_68 (hs9.symm.trans q9)
            have hI_69 : ((v6w14 : Nat) : Int) < ((u3 : Nat) : Int) := inleI (nI_toInt (by omega)) (nI_toInt (by omega)) c_26
            refine lv_iinc (v := (nI (v6w14 + 1))) (lv' := [(6, .int (nI (v6w14 + 1))), (7, .int f_61), (4, .long v4w14), (0, .ref oa), (1, .ref k1), (2, .ref k2), (3, .ref k3)]) hx hb dX0_creditDays_103 hl (k := 1) rfl (nI_1 v6w14) (by decide) rfl (fun ls hl => ?_)
            refine lv_goto (tgt := 17) hx hb dX0_creditDays_106 (by decide) ?_
            exact ih_12 v4w14 (v6w14 + 1) gMw14 M_19 H_20 _ _ (by omega) hM_21 hM_22 hM_23 hM_24 hM_25 (by omega) (by omega) (by rw [mvS_n (fun q9 => hnP q9.1)]; exact hx_17) (fun o ho => by rw [mvS_n (fun q9 => hnP q9.1)]; exact hx_18 o ho) hW hF hP hD hS (lv_sub hl [0, 2, 3, 4, 5, 6] rfl)
          · have hz := rfl (a := 0)
            refine lv_iload hx hb dX0_creditDays_51 (lv_at hl 0 rfl) ?_
            refine lv_aload_n hx hb dX0_creditDays_53 rfl (lv_at hl 3 rfl) ?_
            refine pg_get (D := D) (ci := 0) (v := .ref y1) (C := RX0) (T := TX0) (N := 5) hx hb hg inG0 hown hK hP ia.1 hM_21 rfl 1 (by decide) (hg _ wd_223) (fun _ h9 => h9) rfl dX0_creditDays_54 ?_
            refine pg_alen (v := 100) hx hb hK hP hy1.1 1 hM_25 rfl (by rfl) dX0_creditDays_57 ?_
            refine lv_icmp_lt (tgt := 64) hx hb dX0_creditDays_58 (by decide) (fun c_70 => ?_) (fun c_70 => ?_)
            · have hz := rfl (a := 0)
              have hP9 : RFc (M u0) v6w14 = some k3 := hs9.trans c_68
              have hI_71 : ((v6w14 : Nat) : Int) < ((u3 : Nat) : Int) := inleI (nI_toInt (by omega)) (nI_toInt (by omega)) c_26
              have hI_72 : (f_61 : Int32).toInt < (100 : Int) := iltI rfl rfl c_70
              refine lv_iload hx hb dX0_creditDays_64 (lv_at hl 0 rfl) ?_
              refine lv_if_ge (tgt := 85) hx hb dX0_creditDays_66 (by decide) (fun c_73 => ?_) (fun c_73 => ?_)
              · have hz := rfl (a := 0)
                have hI_74 : (0 : Int) ≤ (f_61 : Int32).toInt := ileI rfl rfl c_73
                refine lv_aload_n hx hb dX0_creditDays_85 rfl (lv_at hl 3 rfl) ?_
                refine pg_get (D := D) (ci := 0) (v := .ref y1) (C := RX0) (T := TX0) (N := 5) hx hb hg inG0 hown hK hP ia.1 hM_21 rfl 1 (by decide) (hg _ wd_223) (fun _ h9 => h9) rfl dX0_creditDays_86 ?_
                refine lv_iload hx hb dX0_creditDays_89 (lv_at hl 0 rfl) ?_
                refine lv_dup2_11 hx hb dX0_creditDays_91 rfl rfl ?_
                refine pg_lald hx hb hK hP hy1.1 1 hM_25 rfl (inbL f_61 100 (by omega) (Int32.not_lt.mpr c_73) c_70) dX0_creditDays_92 ?_
                refine lv_topl (fun f_75 ef_75 => ?_)
                have hoc : ((f_61 : Int32).toNatClampNeg : Int) = (f_61 : Int32).toInt := clT (by omega)
                have hmv : (f_75 : Int64).toInt = mvS (fun k => (fun k => RFc (M u0) k = some k3) k ∧ (wJ (IFc (M u1))) k = w2.toInt + (((f_61 : Int32).toNatClampNeg : Nat) : Int)) (wJ (IFc (M u2))) v6w14 := by rw [ef_75]; exact hx_18 _ (by omega)
                refine lv_aload_n hx hb dX0_creditDays_93 rfl (lv_at hl 4 rfl) ?_
                refine pg_get (D := D) (ci := 1) (v := .ref u2) (C := RX1) (T := TX1) (N := 4) hx hb hg inG1 hown hK hP ik1.1 hM_22 rfl 2 (by decide) (hg _ wd_230) (fun _ h9 => h9) rfl dX0_creditDays_94 ?_
                refine lv_iload hx hb dX0_creditDays_97 (lv_at hl 1 rfl) ?_
                obtain ⟨f76, hM76⟩ := hW.open_57 hu2
                refine pg_iald hx hb hK hP hu2.1 0 hM76 rfl (inbN v6w14 un (by omega) (by omega)) dX0_creditDays_99 ?_
                refine lv_topi (fun f_77 ef_77 => ?_)
                have hsv : (f_77 : Int32).toInt = (wJ (IFc (M u2))) v6w14 := by rw [ef_77, nI_cl (by omega), ← IFc_of hM76, hF.at hu2 (by decide)]; rfl
                have hsb := hSB v6w14 (by omega)
                refine lv_i2l hx hb dX0_creditDays_100 rfl ?_
                refine lv_topl (fun f_78 ef_78 => ?_)
                have hsl : (f_78 : Int64).toInt = (wJ (IFc (M u2))) v6w14 := by rw [ef_78, Int32.toInt_toInt64]; exact hsv
                refine lv_ladd hx hb dX0_creditDays_101 ?_
                refine lv_topl (fun f_79 ef_79 => ?_)
                have hmb := mvS_b (P := fun k => (fun k => RFc (M u0) k = some k3) k ∧ (wJ (IFc (M u1))) k = w2.toInt + ((f_61 : Int32).toNatClampNeg : Int)) (S := (wJ (IFc (M u2)))) v6w14 (fun k hk => hSB k (by omega))
                have hmn : (f_79 : Int64).toInt = mvS (fun k => (fun k => RFc (M u0) k = some k3) k ∧ (wJ (IFc (M u1))) k = w2.toInt + (((f_61 : Int32).toNatClampNeg : Nat) : Int)) (wJ (IFc (M u2))) v6w14 + (wJ (IFc (M u2))) v6w14 := by have h9 := lA ef_79 (by rw [hmv, hsl]; omega) (by rw [hmv, hsl]; omega); rw [hmv, hsl] at h9; exact h9
                refine pg_last hx hb hK hP hD hS hy1.1 1 hM_25 rfl (inbL f_61 100 (by omega) (Int32.not_lt.mpr c_73) c_70) dX0_creditDays_102 (fun H_80 locs hP hD hS => ?_)
                obtain ⟨M_81, eM_81⟩ : ∃ M1 : Hp, M1 = va_up M_19 y1 (.inl (cy 15, 100, .inr (.inl (vp_updL gMw14 (f_61 : Int32).toNatClampNeg f_79)))) := ⟨_, rfl⟩
                have hP : va_P D vwCl ([] ++ va_pl L M_81) H_80 := by rw [eM_81]; exact hP
                have hD : va_D A ([] ++ va_pl L M_81) := by rw [eM_81]; exact hD
                have hW : WOK cy K L M_81 := by rw [eM_81]; exact hW.up_66 hy1 ⟨_, rfl⟩
                have hF : fr K L [66] M M_81 := by rw [eM_81]; exact hF.up hy1 (by decide)
                have hM_82 : M_81 y1 = .inl (cy 15, 100, .inr (.inl (vp_updL gMw14 (f_61 : Int32).toNatClampNeg f_79))) := by rw [eM_81]; exact va_up_self _ _ _
                have hM_83 : M_81 oa = .inr (0, [.ref y0, .ref y1, .ref y2, .int (nI y3), .long y4]) := by rw [eM_81, va_up_ne _ _ (ia.neT hy1 (by decide))]; exact hM_21
                have hM_84 : M_81 k1 = .inr (1, [.ref u0, .ref u1, .ref u2, .int (nI u3)]) := by rw [eM_81, va_up_ne _ _ (ik1.neT hy1 (by decide))]; exact hM_22
                have hM_85 : M_81 k2 = .inr (8, [.ref w0, .ref w1, .int w2, .int w3, .long w4, .long w5]) := by rw [eM_81, va_up_ne _ _ (ik2.neT hy1 (by decide))]; exact hM_23
                have hM_86 : M_81 k3 = .inr (9, [.int (nI v1_0), .ref v1_1, .int v1_2, .int v1_3, .int v1_4, .int v1_5, .int v1_6, .int v1_7, va_rf v1_8, .long v1_9, .long v1_10, .long v1_11, .long v1_12, .long v1_13, .long v1_14, .long v1_15]) := by rw [eM_81, va_up_ne _ _ (ik3.neT hy1 (by decide))]; exact hM_24
                have hM_87 : M_81 u1 = .inl (cy 14, un, .inl (f59)) := by rw [eM_81, va_up_ne _ _ (hu1.neT hy1 (by decide))]; exact hM59
                have hM_88 : M_81 u0 = .inl (cy 22, un, .inr (.inr (.inr (.inr (f62))))) := by rw [eM_81, va_up_ne _ _ (hu0.neT hy1 (by decide))]; exact hM62
                have hM_89 : M_81 u2 = .inl (cy 14, un, .inl (f76)) := by rw [eM_81, va_up_ne _ _ (hu2.neT hy1 (by decide))]; exact hM76
                obtain ⟨f_90, ef_90⟩ : ∃ f : Nat → Int64, f = vp_updL gMw14 (f_61 : Int32).toNatClampNeg f_79 := ⟨_, rfl⟩
                rw [← ef_90] at hM_82
                refine lv_iinc (v := (nI (v6w14 + 1))) (lv' := [(6, .int (nI (v6w14 + 1))), (7, .int f_61), (4, .long v4w14), (0, .ref oa), (1, .ref k1), (2, .ref k2), (3, .ref k3)]) hx hb dX0_creditDays_103 hl (k := 1) rfl (nI_1 v6w14) (by decide) rfl (fun ls hl => ?_)
                refine lv_goto (tgt := 17) hx hb dX0_creditDays_106 (by decide) ?_
                exact ih_12 v4w14 (v6w14 + 1) f_90 M_81 H_80 _ _ (by omega) hM_83 hM_84 hM_85 hM_86 hM_82 (by omega) (by omega) (by rw [mvS_n (fun q9 => by have h8 := q9.2; omega)]; exact hx_17) (by rw [ef_90]; intro o ho; by_cases z9 : o = (f_61 : Int32).toNatClampNeg; rw [z9, vp_updL_self, mvS_y ⟨hP9, by omega⟩]; exact hmn; rw [vp_updL_ne _ _ z9, mvS_n (fun q9 => by have h8 := q9.2; omega)]; exact hx_18 o ho) hW hF hP hD hS (lv_sub hl [0, 2, 3, 4, 5, 6] rfl)
              · have hz := rfl (a := 0)
                have hI_91 : (f_61 : Int32).toInt < (0 : Int) := inleI rfl rfl c_73
                refine lv_lload hx hb dX0_creditDays_69 (lv_at hl 2 rfl) ?_
                refine lv_aload_n hx hb dX0_creditDays_71 rfl (lv_at hl 4 rfl) ?_
                refine pg_get (D := D) (ci := 1) (v := .ref u2) (C := RX1) (T := TX1) (N := 4) hx hb hg inG1 hown hK hP ik1.1 hM_22 rfl 2 (by decide) (hg _ wd_230) (fun _ h9 => h9) rfl dX0_creditDays_72 ?_
                refine lv_iload hx hb dX0_creditDays_75 (lv_at hl 1 rfl) ?_
                obtain ⟨f92, hM92⟩ := hW.open_57 hu2
                refine pg_iald hx hb hK hP hu2.1 0 hM92 rfl (inbN v6w14 un (by omega) (by omega)) dX0_creditDays_77 ?_
                refine lv_topi (fun f_93 ef_93 => ?_)
                have hsv : (f_93 : Int32).toInt = (wJ (IFc (M u2))) v6w14 := by rw [ef_93, nI_cl (by omega), ← IFc_of hM92, hF.at hu2 (by decide)]; rfl
                have hsb := hSB v6w14 (by omega)
                refine lv_i2l hx hb dX0_creditDays_78 rfl ?_
                refine lv_topl (fun f_94 ef_94 => ?_)
                have hsl : (f_94 : Int64).toInt = (wJ (IFc (M u2))) v6w14 := by rw [ef_94, Int32.toInt_toInt64]; exact hsv
                refine lv_ladd hx hb dX0_creditDays_79 ?_
                refine lv_topl (fun f_95 ef_95 => ?_)
                have hmb := mvS_b (P := fun k => (fun k => RFc (M u0) k = some k3) k ∧ (wJ (IFc (M u1))) k < w2.toInt) (S := (wJ (IFc (M u2)))) v6w14 (fun k hk => hSB k (by omega))
                have hcn : (f_95 : Int64).toInt = (cL 9 M k3 9).toInt + mvS (fun k => (fun k => RFc (M u0) k = some k3) k ∧ (wJ (IFc (M u1))) k < w2.toInt) (wJ (IFc (M u2))) (v6w14 + 1) := by have h9 := lA ef_95 (by rw [hx_17, hsl]; omega) (by rw [hx_17, hsl]; omega); rw [hx_17, hsl] at h9; rw [h9, mvS_y ⟨hP9, by omega⟩]; omega
                refine lv_lstore (lv' := [(4, .long f_95), (7, .int f_61), (6, .int (nI v6w14)), (0, .ref oa), (1, .ref k1), (2, .ref k2), (3, .ref k3)]) hx hb dX0_creditDays_80 hl (by decide) rfl (fun ls hl => ?_)
                refine lv_goto (tgt := 103) hx hb dX0_creditDays_82 (by decide) ?_
                refine lv_iinc (v := (nI (v6w14 + 1))) (lv' := [(6, .int (nI (v6w14 + 1))), (4, .long f_95), (7, .int f_61), (0, .ref oa), (1, .ref k1), (2, .ref k2), (3, .ref k3)]) hx hb dX0_creditDays_103 hl (k := 2) rfl (nI_1 v6w14) (by decide) rfl (fun ls hl => ?_)
                refine lv_goto (tgt := 17) hx hb dX0_creditDays_106 (by decide) ?_
                exact ih_12 f_95 (v6w14 + 1) gMw14 M_19 H_20 _ _ (by omega) hM_21 hM_22 hM_23 hM_24 hM_25 (by omega) (by omega) hcn (fun o ho => by rw [mvS_n (fun q9 => by have h8 := q9.2; omega)]; exact hx_18 o ho) hW hF hP hD hS (lv_sub hl [0, 1, 3, 4, 5, 6] rfl)
            · have hz := rfl (a := 0)
              have hP9 : RFc (M u0) v6w14 = some k3 := hs9.trans c_68
              have hI_96 : ((v6w14 : Nat) : Int) < ((u3 : Nat) : Int) := inleI (nI_toInt (by omega)) (nI_toInt (by omega)) c_26
              have hI_97 : (100 : Int) ≤ (f_61 : Int32).toInt := inltI rfl rfl c_70
              refine lv_goto (tgt := 103) hx hb dX0_creditDays_61 (by decide) ?_
              refine lv_iinc (v := (nI (v6w14 + 1))) (lv' := [(6, .int (nI (v6w14 + 1))), (7, .int f_61), (4, .long v4w14), (0, .ref oa), (1, .ref k1), (2, .ref k2), (3, .ref k3)]) hx hb dX0_creditDays_103 hl (k := 1) rfl (nI_1 v6w14) (by decide) rfl (fun ls hl => ?_)
              refine lv_goto (tgt := 17) hx hb dX0_creditDays_106 (by decide) ?_
              exact ih_12 v4w14 (v6w14 + 1) gMw14 M_19 H_20 _ _ (by omega) hM_21 hM_22 hM_23 hM_24 hM_25 (by omega) (by omega) (by rw [mvS_n (fun q9 => by have h8 := q9.2; omega)]; exact hx_17) (fun o ho => by rw [mvS_n (fun q9 => by have h8 := q9.2; omega)]; exact hx_18 o ho) hW hF hP hD hS (lv_sub hl [0, 2, 3, 4, 5, 6] rfl)
        · have hb_67 := hq_66 bq_64 rfl
          have hs9 : RFc (M u0) v6w14 = some bq_64 := by rw [← hF.at hu0 (by decide), RFc_of hM62]; have h9 := (Eq.symm ho_65); rw [nI_cl (by omega)] at h9; exact h9
          refine lv_aload_n hx hb dX0_creditDays_47 rfl (lv_at hl 6 rfl) ?_
          refine lv_acmp_ne (rx := (some bq_64)) (ry := (some k3)) (tgt := 103) hx hb dX0_creditDays_48 (by decide) (fun c_98 => ?_) (fun c_98 => ?_)
          · have hz := rfl (a := 0)
            have hnP : ¬ RFc (M u0) v6w14 = some k3 := fun q9 => c_98 (hs9.symm.trans q9)
            have hI_99 : ((v6w14 : Nat) : Int) < ((u3 : Nat) : Int) := inleI (nI_toInt (by omega)) (nI_toInt (by omega)) c_26
            refine lv_iinc (v := (nI (v6w14 + 1))) (lv' := [(6, .int (nI (v6w14 + 1))), (7, .int f_61), (4, .long v4w14), (0, .ref oa), (1, .ref k1), (2, .ref k2), (3, .ref k3)]) hx hb dX0_creditDays_103 hl (k := 1) rfl (nI_1 v6w14) (by decide) rfl (fun ls hl => ?_)
            refine lv_goto (tgt := 17) hx hb dX0_creditDays_106 (by decide) ?_
            exact ih_12 v4w14 (v6w14 + 1) gMw14 M_19 H_20 _ _ (by omega) hM_21 hM_22 hM_23 hM_24 hM_25 (by omega) (by omega) (by rw [mvS_n (fun q9 => hnP q9.1)]; exact hx_17) (fun o ho => by rw [mvS_n (fun q9 => hnP q9.1)]; exact hx_18 o ho) hW hF hP hD hS (lv_sub hl [0, 2, 3, 4, 5, 6] rfl)
          · have hz := rfl (a := 0)
            refine lv_iload hx hb dX0_creditDays_51 (lv_at hl 0 rfl) ?_
            refine lv_aload_n hx hb dX0_creditDays_53 rfl (lv_at hl 3 rfl) ?_
            refine pg_get (D := D) (ci := 0) (v := .ref y1) (C := RX0) (T := TX0) (N := 5) hx hb hg inG0 hown hK hP ia.1 hM_21 rfl 1 (by decide) (hg _ wd_223) (fun _ h9 => h9) rfl dX0_creditDays_54 ?_
            refine pg_alen (v := 100) hx hb hK hP hy1.1 1 hM_25 rfl (by rfl) dX0_creditDays_57 ?_
            refine lv_icmp_lt (tgt := 64) hx hb dX0_creditDays_58 (by decide) (fun c_100 => ?_) (fun c_100 => ?_)
            · have hz := rfl (a := 0)
              have hP9 : RFc (M u0) v6w14 = some k3 := hs9.trans c_98
              have hI_101 : ((v6w14 : Nat) : Int) < ((u3 : Nat) : Int) := inleI (nI_toInt (by omega)) (nI_toInt (by omega)) c_26
              have hI_102 : (f_61 : Int32).toInt < (100 : Int) := iltI rfl rfl c_100
              refine lv_iload hx hb dX0_creditDays_64 (lv_at hl 0 rfl) ?_
              refine lv_if_ge (tgt := 85) hx hb dX0_creditDays_66 (by decide) (fun c_103 => ?_) (fun c_103 => ?_)
              · have hz := rfl (a := 0)
                have hI_104 : (0 : Int) ≤ (f_61 : Int32).toInt := ileI rfl rfl c_103
                refine lv_aload_n hx hb dX0_creditDays_85 rfl (lv_at hl 3 rfl) ?_
                refine pg_get (D := D) (ci := 0) (v := .ref y1) (C := RX0) (T := TX0) (N := 5) hx hb hg inG0 hown hK hP ia.1 hM_21 rfl 1 (by decide) (hg _ wd_223) (fun _ h9 => h9) rfl dX0_creditDays_86 ?_
                refine lv_iload hx hb dX0_creditDays_89 (lv_at hl 0 rfl) ?_
                refine lv_dup2_11 hx hb dX0_creditDays_91 rfl rfl ?_
                refine pg_lald hx hb hK hP hy1.1 1 hM_25 rfl (inbL f_61 100 (by omega) (Int32.not_lt.mpr c_103) c_100) dX0_creditDays_92 ?_
                refine lv_topl (fun f_105 ef_105 => ?_)
                have hoc : ((f_61 : Int32).toNatClampNeg : Int) = (f_61 : Int32).toInt := clT (by omega)
                have hmv : (f_105 : Int64).toInt = mvS (fun k => (fun k => RFc (M u0) k = some k3) k ∧ (wJ (IFc (M u1))) k = w2.toInt + (((f_61 : Int32).toNatClampNeg : Nat) : Int)) (wJ (IFc (M u2))) v6w14 := by rw [ef_105]; exact hx_18 _ (by omega)
                refine lv_aload_n hx hb dX0_creditDays_93 rfl (lv_at hl 4 rfl) ?_
                refine pg_get (D := D) (ci := 1) (v := .ref u2) (C := RX1) (T := TX1) (N := 4) hx hb hg inG1 hown hK hP ik1.1 hM_22 rfl 2 (by decide) (hg _ wd_230) (fun _ h9 => h9) rfl dX0_creditDays_94 ?_
                refine lv_iload hx hb dX0_creditDays_97 (lv_at hl 1 rfl) ?_
                obtain ⟨f106, hM106⟩ := hW.open_57 hu2
                refine pg_iald hx hb hK hP hu2.1 0 hM106 rfl (inbN v6w14 un (by omega) (by omega)) dX0_creditDays_99 ?_
                refine lv_topi (fun f_107 ef_107 => ?_)
                have hsv : (f_107 : Int32).toInt = (wJ (IFc (M u2))) v6w14 := by rw [ef_107, nI_cl (by omega), ← IFc_of hM106, hF.at hu2 (by decide)]; rfl
                have hsb := hSB v6w14 (by omega)
                refine lv_i2l hx hb dX0_creditDays_100 rfl ?_
                refine lv_topl (fun f_108 ef_108 => ?_)
                have hsl : (f_108 : Int64).toInt = (wJ (IFc (M u2))) v6w14 := by rw [ef_108, Int32.toInt_toInt64]; exact hsv
                refine lv_ladd hx hb dX0_creditDays_101 ?_
                refine lv_topl (fun f_109 ef_109 => ?_)
                have hmb := mvS_b (P := fun k => (fun k => RFc (M u0) k = some k3) k ∧ (wJ (IFc (M u1))) k = w2.toInt + ((f_61 : Int32).toNatClampNeg : Int)) (S := (wJ (IFc (M u2)))) v6w14 (fun k hk => hSB k (by omega))
                have hmn : (f_109 : Int64).toInt = mvS (fun k => (fun k => RFc (M u0) k = some k3) k ∧ (wJ (IFc (M u1))) k = w2.toInt + (((f_61 : Int32).toNatClampNeg : Nat) : Int)) (wJ (IFc (M u2))) v6w14 + (wJ (IFc (M u2))) v6w14 := by have h9 := lA ef_109 (by rw [hmv, hsl]; omega) (by rw [hmv, hsl]; omega); rw [hmv, hsl] at h9; exact h9
                refine pg_last hx hb hK hP hD hS hy1.1 1 hM_25 rfl (inbL f_61 100 (by omega) (Int32.not_lt.mpr c_103) c_100) dX0_creditDays_102 (fun H_110 locs hP hD hS => ?_)
                obtain ⟨M_111, eM_111⟩ : ∃ M1 : Hp, M1 = va_up M_19 y1 (.inl (cy 15, 100, .inr (.inl (vp_updL gMw14 (f_61 : Int32).toNatClampNeg f_109)))) := ⟨_, rfl⟩
                have hP : va_P D vwCl ([] ++ va_pl L M_111) H_110 := by rw [eM_111]; exact hP
                have hD : va_D A ([] ++ va_pl L M_111) := by rw [eM_111]; exact hD
                have hW : WOK cy K L M_111 := by rw [eM_111]; exact hW.up_66 hy1 ⟨_, rfl⟩
                have hF : fr K L [66] M M_111 := by rw [eM_111]; exact hF.up hy1 (by decide)
                have hM_112 : M_111 y1 = .inl (cy 15, 100, .inr (.inl (vp_updL gMw14 (f_61 : Int32).toNatClampNeg f_109))) := by rw [eM_111]; exact va_up_self _ _ _
                have hM_113 : M_111 oa = .inr (0, [.ref y0, .ref y1, .ref y2, .int (nI y3), .long y4]) := by rw [eM_111, va_up_ne _ _ (ia.neT hy1 (by decide))]; exact hM_21
                have hM_114 : M_111 k1 = .inr (1, [.ref u0, .ref u1, .ref u2, .int (nI u3)]) := by rw [eM_111, va_up_ne _ _ (ik1.neT hy1 (by decide))]; exact hM_22
                have hM_115 : M_111 k2 = .inr (8, [.ref w0, .ref w1, .int w2, .int w3, .long w4, .long w5]) := by rw [eM_111, va_up_ne _ _ (ik2.neT hy1 (by decide))]; exact hM_23
                have hM_116 : M_111 k3 = .inr (9, [.int (nI v1_0), .ref v1_1, .int v1_2, .int v1_3, .int v1_4, .int v1_5, .int v1_6, .int v1_7, va_rf v1_8, .long v1_9, .long v1_10, .long v1_11, .long v1_12, .long v1_13, .long v1_14, .long v1_15]) := by rw [eM_111, va_up_ne _ _ (ik3.neT hy1 (by decide))]; exact hM_24
                have hM_117 : M_111 u1 = .inl (cy 14, un, .inl (f59)) := by rw [eM_111, va_up_ne _ _ (hu1.neT hy1 (by decide))]; exact hM59
                have hM_118 : M_111 u0 = .inl (cy 22, un, .inr (.inr (.inr (.inr (f62))))) := by rw [eM_111, va_up_ne _ _ (hu0.neT hy1 (by decide))]; exact hM62
                have hM_119 : M_111 u2 = .inl (cy 14, un, .inl (f106)) := by rw [eM_111, va_up_ne _ _ (hu2.neT hy1 (by decide))]; exact hM106
                obtain ⟨f_120, ef_120⟩ : ∃ f : Nat → Int64, f = vp_updL gMw14 (f_61 : Int32).toNatClampNeg f_109 := ⟨_, rfl⟩
                rw [← ef_120] at hM_112
                refine lv_iinc (v := (nI (v6w14 + 1))) (lv' := [(6, .int (nI (v6w14 + 1))), (7, .int f_61), (4, .long v4w14), (0, .ref oa), (1, .ref k1), (2, .ref k2), (3, .ref k3)]) hx hb dX0_creditDays_103 hl (k := 1) rfl (nI_1 v6w14) (by decide) rfl (fun ls hl => ?_)
                refine lv_goto (tgt := 17) hx hb dX0_creditDays_106 (by decide) ?_
                exact ih_12 v4w14 (v6w14 + 1) f_120 M_111 H_110 _ _ (by omega) hM_113 hM_114 hM_115 hM_116 hM_112 (by omega) (by omega) (by rw [mvS_n (fun q9 => by have h8 := q9.2; omega)]; exact hx_17) (by rw [ef_120]; intro o ho; by_cases z9 : o = (f_61 : Int32).toNatClampNeg; rw [z9, vp_updL_self, mvS_y ⟨hP9, by omega⟩]; exact hmn; rw [vp_updL_ne _ _ z9, mvS_n (fun q9 => by have h8 := q9.2; omega)]; exact hx_18 o ho) hW hF hP hD hS (lv_sub hl [0, 2, 3, 4, 5, 6] rfl)
              · have hz := rfl (a := 0)
                have hI_121 : (f_61 : Int32).toInt < (0 : Int) := inleI rfl rfl c_103
                refine lv_lload hx hb dX0_creditDays_69 (lv_at hl 2 rfl) ?_
                refine lv_aload_n hx hb dX0_creditDays_71 rfl (lv_at hl 4 rfl) ?_
                refine pg_get (D := D) (ci := 1) (v := .ref u2) (C := RX1) (T := TX1) (N := 4) hx hb hg inG1 hown hK hP ik1.1 hM_22 rfl 2 (by decide) (hg _ wd_230) (fun _ h9 => h9) rfl dX0_creditDays_72 ?_
                refine lv_iload hx hb dX0_creditDays_75 (lv_at hl 1 rfl) ?_
                obtain ⟨f122, hM122⟩ := hW.open_57 hu2
                refine pg_iald hx hb hK hP hu2.1 0 hM122 rfl (inbN v6w14 un (by omega) (by omega)) dX0_creditDays_77 ?_
                refine lv_topi (fun f_123 ef_123 => ?_)
                have hsv : (f_123 : Int32).toInt = (wJ (IFc (M u2))) v6w14 := by rw [ef_123, nI_cl (by omega), ← IFc_of hM122, hF.at hu2 (by decide)]; rfl
                have hsb := hSB v6w14 (by omega)
                refine lv_i2l hx hb dX0_creditDays_78 rfl ?_
                refine lv_topl (fun f_124 ef_124 => ?_)
                have hsl : (f_124 : Int64).toInt = (wJ (IFc (M u2))) v6w14 := by rw [ef_124, Int32.toInt_toInt64]; exact hsv
                refine lv_ladd hx hb dX0_creditDays_79 ?_
                refine lv_topl (fun f_125 ef_125 => ?_)
                have hmb := mvS_b (P := fun k => (fun k => RFc (M u0) k = some k3) k ∧ (wJ (IFc (M u1))) k < w2.toInt) (S := (wJ (IFc (M u2)))) v6w14 (fun k hk => hSB k (by omega))
                have hcn : (f_125 : Int64).toInt = (cL 9 M k3 9).toInt + mvS (fun k => (fun k => RFc (M u0) k = some k3) k ∧ (wJ (IFc (M u1))) k < w2.toInt) (wJ (IFc (M u2))) (v6w14 + 1) := by have h9 := lA ef_125 (by rw [hx_17, hsl]; omega) (by rw [hx_17, hsl]; omega); rw [hx_17, hsl] at h9; rw [h9, mvS_y ⟨hP9, by omega⟩]; omega
                refine lv_lstore (lv' := [(4, .long f_125), (7, .int f_61), (6, .int (nI v6w14)), (0, .ref oa), (1, .ref k1), (2, .ref k2), (3, .ref k3)]) hx hb dX0_creditDays_80 hl (by decide) rfl (fun ls hl => ?_)
                refine lv_goto (tgt := 103) hx hb dX0_creditDays_82 (by decide) ?_
                refine lv_iinc (v := (nI (v6w14 + 1))) (lv' := [(6, .int (nI (v6w14 + 1))), (4, .long f_125), (7, .int f_61), (0, .ref oa), (1, .ref k1), (2, .ref k2), (3, .ref k3)]) hx hb dX0_creditDays_103 hl (k := 2) rfl (nI_1 v6w14) (by decide) rfl (fun ls hl => ?_)
                refine lv_goto (tgt := 17) hx hb dX0_creditDays_106 (by decide) ?_
                exact ih_12 f_125 (v6w14 + 1) gMw14 M_19 H_20 _ _ (by omega) hM_21 hM_22 hM_23 hM_24 hM_25 (by omega) (by omega) hcn (fun o ho => by rw [mvS_n (fun q9 => by have h8 := q9.2; omega)]; exact hx_18 o ho) hW hF hP hD hS (lv_sub hl [0, 1, 3, 4, 5, 6] rfl)
            · have hz := rfl (a := 0)
              have hP9 : RFc (M u0) v6w14 = some k3 := hs9.trans c_98
              have hI_126 : ((v6w14 : Nat) : Int) < ((u3 : Nat) : Int) := inleI (nI_toInt (by omega)) (nI_toInt (by omega)) c_26
              have hI_127 : (100 : Int) ≤ (f_61 : Int32).toInt := inltI rfl rfl c_100
              refine lv_goto (tgt := 103) hx hb dX0_creditDays_61 (by decide) ?_
              refine lv_iinc (v := (nI (v6w14 + 1))) (lv' := [(6, .int (nI (v6w14 + 1))), (7, .int f_61), (4, .long v4w14), (0, .ref oa), (1, .ref k1), (2, .ref k2), (3, .ref k3)]) hx hb dX0_creditDays_103 hl (k := 1) rfl (nI_1 v6w14) (by decide) rfl (fun ls hl => ?_)
              refine lv_goto (tgt := 17) hx hb dX0_creditDays_106 (by decide) ?_
              exact ih_12 v4w14 (v6w14 + 1) gMw14 M_19 H_20 _ _ (by omega) hM_21 hM_22 hM_23 hM_24 hM_25 (by omega) (by omega) (by rw [mvS_n (fun q9 => by have h8 := q9.2; omega)]; exact hx_17) (fun o ho => by rw [mvS_n (fun q9 => by have h8 := q9.2; omega)]; exact hx_18 o ho) hW hF hP hD hS (lv_sub hl [0, 2, 3, 4, 5, 6] rfl)
  exact key_11 (120 - 0 + 1) v1_9 0 f10 M_4 H_2 _ _ (by omega) hM_6 hM_7 hM_8 hM_9 hM10 (by omega) (by omega) (by rw [hc0]; exact (Int.add_zero _).symm) (fun o ho => by rw [← LFc_of hM10, hfl o ho]; rfl) hW hF hP hD hS (lv_sub hl [0, 1, 2, 3, 4, 5] rfl)
