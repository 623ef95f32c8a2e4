theorem RCH.cg {ow ow' : Nat → Nat → Prop} {N t a : Nat} (h : ∀ x y, x < N → y < N → (ow x y ↔ ow' x y)) : RCH ow N t a ↔ RCH ow' N t a := by
  have g : ∀ (o1 o2 : Nat → Nat → Prop), (∀ x y, x < N → y < N → (o1 x y → o2 x y)) → ∀ d x, RC o1 N t d x → RC o2 N t d x := by
    intro o1 o2 hh d
    induction d with
    | zero => intro x q; exact q
    | succ d ih =>
      intro x q
      obtain ⟨h1, b, h2, h3, h4⟩ := q
      exact ⟨h1, b, h2, hh x b h1 h2 h3, ih b h4⟩
  exact ⟨fun ⟨d, q⟩ => ⟨d, g _ _ (fun x y hx hy => (h x y hx hy).mp) d a q⟩, fun ⟨d, q⟩ => ⟨d, g _ _ (fun x y hx hy => (h x y hx hy).mpr) d a q⟩⟩
/-- BG, and the goal's own distance -/
def BGz (ow : Nat → Nat → Prop) (N : Nat) (T : Int32) (D : Nat → Nat) : Prop := BG ow N T D ∧ ∀ k, k < 8 → nI k = T → D k = 0
theorem BGz.fst (ow : Nat → Nat → Prop) (N : Nat) (T : Int32) : BGz ow N T (D0 T) := ⟨BG.fst ow N T, fun k _ e => by
  unfold D0
  rw [if_pos e]⟩
theorem BFrz {ow : Nat → Nat → Prop} {N r a b : Nat} {T : Int32} {D : Nat → Nat} (hN : N ≤ 8) (hG : BGz ow N T D) (h3 : B3 ow N D r) (hJ : BJ ow N D r a b) (ha : a < N) (hb : b < N) (ho : ow a b) (hd : D b + 1 < D a) : BGz ow N T (va_up D a (D b + 1)) ∧ B3 ow N (va_up D a (D b + 1)) r ∧ BJ ow N (va_up D a (D b + 1)) r a (b + 1) := by
  obtain ⟨g1, g2, g3⟩ := BFr hN hG.1 h3 hJ ha hb ho hd
  refine ⟨⟨g1, fun k hk e => ?_⟩, g2, g3⟩
  have h0 := hG.2 k hk e
  by_cases z : k = a
  · rw [z] at h0
    omega
  · rw [va_up_ne _ _ z]
    exact h0
theorem nIt {T : Int32} {k : Nat} (h : 0 ≤ T.toInt ∧ T.toInt < 8) (hk : k < 8) : nI k = T ↔ k = T.toNatClampNeg := by
  have hc : (T.toNatClampNeg : Int) = T.toInt := clT h.1
  refine ⟨fun e => ?_, fun e => ?_⟩
  · rw [← e, nI_cl (by omega)]
  · rw [e]
    exact (i32_of (by omega) (by omega)).symm
theorem BFs {ow : Nat → Nat → Prop} {N : Nat} {T : Int32} {D : Nat → Nat} (hN : N ≤ 8) (hT : 0 ≤ T.toInt ∧ T.toInt < 8) (hG : BGz ow N T D) : ∀ v a, a < 8 → D a = v → v < 100 → RCH ow N T.toNatClampNeg a := by
  intro v
  induction v using Nat.strongRecOn with
  | ind v ih =>
    intro a ha e hv
    by_cases z : v = 0
    · exact ⟨0, (nIt hT ha).mp (hG.1.1 a ha (by omega))⟩
    · obtain ⟨g1, b, g2, g3, g4⟩ := hG.1.2 a ha (by omega) (by omega)
      obtain ⟨d, hd⟩ := ih (D b) (by omega) b (by omega) rfl (by omega)
      exact ⟨d + 1, g1, b, g2, g3, hd⟩
theorem BFc {ow : Nat → Nat → Prop} {N : Nat} {T : Int32} {D : Nat → Nat} (hN : N ≤ 8) (hT : 0 ≤ T.toInt ∧ T.toInt < 8) (hG : BGz ow N T D) (h3 : B3 ow N D 8) : ∀ d a, a < 8 → RC ow N T.toNatClampNeg d a → D a < 100 := by
  intro d
  induction d with
  | zero =>
    intro a ha q
    have q : a = T.toNatClampNeg := q
    have := hG.2 a ha ((nIt hT ha).mpr q)
    omega
  | succ d ih =>
    intro a ha q
    obtain ⟨h1, b, h2, h4, h5⟩ := q
    have hb := ih b (by omega) h5
    have hb7 : D b ≤ 7 := by
      rcases Nat.eq_zero_or_pos (D b) with w | w
      · omega
      · exact (BFw hN hG.1 h3 b (by omega) w hb).1
    have := h3 a b h1 h2 h4 (by omega)
    omega
theorem owW_S {cy : Nat → ClassId} {K : Kp} {L : List Nat} {M : Hp} {z1 z6 z7 n a b : Nat} {SX : Nat → Nat → Int} {SY : Nat → Nat → Nat → Int32} {PK PT : Nat → Int32} (hW : WOM cy K L M) (i1 : isk K L z1 23 8) (hn : n ≤ 8) (hZ : ZSx z1 n SX SY M) (hP : ZP z6 z7 PK PT M) (ha : a < 8) (hb : b < n) : owW M z1 z6 z7 a b ↔ ownS PK PT SX SY a b := by
  obtain ⟨f, h1, h2⟩ := hW.open_23 i1
  obtain ⟨h, h3, h4⟩ := h2 b (by omega)
  have e1 : RFc (M z1) b = some h := by
    rw [h1]
    exact h3
  have e2 : hOf M z1 b = h := by
    unfold hOf
    rw [e1]
    rfl
  have g := hZ b h hb e1
  have ew : wOf M h = SY b 19 := by
    rw [← g.2]
    show vA M (hF12 (M h))[19]? = (if tg 19 = 0 then fun _ => 0 else vA M (hF12 (M h))[19]?)
    rw [if_neg (by decide)]
  unfold owW owS
  rw [e2, hP.1, hP.2, ew, g.1]
  refine ⟨fun ⟨t, q1, q2, q3⟩ => ⟨t, by omega, by rw [own5 q2, q3]; exact nI_toInt (by omega)⟩, fun ⟨t, q1, q2⟩ => ?_⟩
  by_cases z : PK (SY b 19 t).toNatClampNeg = 5
  · rw [own5 z] at q2
    exact ⟨t, by omega, z, i32_of q2 (by omega)⟩
  · rw [ownN z, show (-1 : Int32).toInt = -1 from rfl] at q2
    omega
/-- a seat's being taken, of the first n tenures -/
def TKL (Y : Nat → Nat → Int32) (s d : Int32) (n : Nat) : Prop := (Y 9 s.toNatClampNeg).toInt < 0 ∨ ∃ i : Nat, i < n ∧ Y 20 i = s ∧ ((Y 22 i).toInt = -1 ∨ d.toInt < (Y 22 i).toInt)
theorem TKL.y0 {Y : Nat → Nat → Int32} {s d : Int32} (h : (Y 9 s.toNatClampNeg).toInt < 0) : ((1 : Int32) = 1 ↔ TKL Y s d 0) := ⟨fun _ => Or.inl h, fun _ => rfl⟩
theorem TKL.n0 {Y : Nat → Nat → Int32} {s d : Int32} (h : 0 ≤ (Y 9 s.toNatClampNeg).toInt) : ((0 : Int32) = 1 ↔ TKL Y s d 0) := ⟨fun q => absurd q (by decide), fun q => by
  rcases q with q | ⟨i, q, _⟩
  · omega
  · omega⟩
theorem TKL.y {Y : Nat → Nat → Int32} {s d : Int32} {n : Nat} (h : (1 : Int32) = 1 ↔ TKL Y s d n) : ((1 : Int32) = 1 ↔ TKL Y s d (n + 1)) := ⟨fun _ => by
  rcases h.mp rfl with q | ⟨i, q, q2⟩
  · exact Or.inl q
  · exact Or.inr ⟨i, by omega, q2⟩, fun _ => rfl⟩
theorem TKL.hit {Y : Nat → Nat → Int32} {s d : Int32} {n : Nat} (h1 : Y 20 n = s) (h2 : (Y 22 n).toInt = -1 ∨ d.toInt < (Y 22 n).toInt) : ((1 : Int32) = 1 ↔ TKL Y s d (n + 1)) := ⟨fun _ => Or.inr ⟨n, by omega, h1, h2⟩, fun _ => rfl⟩
theorem TKL.mis {Y : Nat → Nat → Int32} {s d : Int32} {n : Nat} (h : (0 : Int32) = 1 ↔ TKL Y s d n) (h1 : ¬ (Y 20 n = s ∧ ((Y 22 n).toInt = -1 ∨ d.toInt < (Y 22 n).toInt))) : ((0 : Int32) = 1 ↔ TKL Y s d (n + 1)) := ⟨fun q => absurd q (by decide), fun q => by
  rcases q with q | ⟨i, q, q2⟩
  · exact h.mpr (Or.inl q)
  · by_cases z : i = n
    · rw [z] at q2
      exact absurd q2 h1
    · exact h.mpr (Or.inr ⟨i, by omega, q2⟩)⟩
theorem TKL.tkn {X : Nat → Int} {Y : Nat → Nat → Int32} {s d : Int32} {n : Nat} (hn : (n : Int) = X 10) : TKL Y s d n ↔ ((Y 9 s.toNatClampNeg).toInt < 0 ∨ TKN X Y s d) := ⟨fun q => q.imp id (fun ⟨i, h1, h2⟩ => ⟨i, by omega, h2⟩), fun q => q.imp id (fun ⟨i, h1, h2⟩ => ⟨i, by omega, h2⟩)⟩
theorem BFr2 {ow : Nat → Nat → Prop} {N : Nat} {T : Int32} {D : Nat → Nat} (hN : N ≤ 8) (hT : 0 ≤ T.toInt ∧ T.toInt < 8) (hG : BGz ow N T D) (h3 : B3 ow N D 8) : ∀ v a, a < 8 → D a = v → v < 100 → RC ow N T.toNatClampNeg v a := by
  intro v
  induction v with
  | zero => intro a ha e _; exact (nIt hT ha).mp (hG.1.1 a ha e)
  | succ v ih =>
    intro a ha e hv
    obtain ⟨g1, _⟩ := hG.1.2 a ha (by omega) (by omega)
    obtain ⟨_, b, g2, g3, g4⟩ := BFw hN hG.1 h3 a ha (by omega) (by omega)
    exact ⟨g1, b, g2, g3, ih b (by omega) (by omega) (by omega)⟩
theorem BFu {ow : Nat → Nat → Prop} {N : Nat} {T : Int32} {D : Nat → Nat} (hN : N ≤ 8) (hT : 0 ≤ T.toInt ∧ T.toInt < 8) (hG : BGz ow N T D) (h3 : B3 ow N D 8) : ∀ e a, a < 8 → RC ow N T.toNatClampNeg e a → D a ≤ e := by
  intro e
  induction e with
  | zero =>
    intro a ha q
    have q : a = T.toNatClampNeg := q
    have := hG.2 a ha ((nIt hT ha).mpr q)
    omega
  | succ e ih =>
    intro a ha q
    obtain ⟨h1, b, h2, h4, h5⟩ := q
    have hb := ih b (by omega) h5
    have hc := BFc hN hT hG h3 e b (by omega) h5
    have hb7 : D b ≤ 7 := by
      rcases Nat.eq_zero_or_pos (D b) with w | w
      · omega
      · exact (BFw hN hG.1 h3 b (by omega) w hc).1
    have := h3 a b h1 h2 h4 (by omega)
    omega
theorem BFi {ow : Nat → Nat → Prop} {N : Nat} {T : Int32} {D : Nat → Nat} (hN : N ≤ 8) (hT : 0 ≤ T.toInt ∧ T.toInt < 8) (hG : BGz ow N T D) (h3 : B3 ow N D 8) {d a : Nat} (ha : a < 8) : DI ow N T.toNatClampNeg d a ↔ (D a = d ∧ D a < 100) := by
  refine ⟨fun q => ?_, fun q => ⟨BFr2 hN hT hG h3 d a ha q.1 ?_, fun e he g => ?_⟩⟩
  · have u := BFu hN hT hG h3 d a ha q.1
    have c := BFc hN hT hG h3 d a ha q.1
    rcases Nat.lt_or_ge (D a) d with w | w
    · exact absurd (BFr2 hN hT hG h3 (D a) a ha rfl c) (q.2 (D a) w)
    · exact ⟨by omega, c⟩
  · have := q.2
    have := q.1
    omega
  · have := BFu hN hT hG h3 e a ha g
    have := q.1
    omega
theorem BFn {ow : Nat → Nat → Prop} {N : Nat} {T : Int32} {D : Nat → Nat} (hN : N ≤ 8) (hT : 0 ≤ T.toInt ∧ T.toInt < 8) (hG : BGz ow N T D) (h3 : B3 ow N D 8) {a n : Nat} (ha : a < 8) (hn : n < 8) : NX ow N T.toNatClampNeg a n ↔ (ow a n ∧ D n + 1 = D a ∧ D a < 100) := by
  refine ⟨fun q => ?_, fun q => ⟨q.1, D n, (BFi hN hT hG h3 ha).mpr ⟨?_, ?_⟩, (BFi hN hT hG h3 hn).mpr ⟨rfl, ?_⟩⟩⟩
  · obtain ⟨g1, d, g2, g3⟩ := q
    have e1 := (BFi hN hT hG h3 ha).mp g2
    have e2 := (BFi hN hT hG h3 hn).mp g3
    exact ⟨g1, by omega, by omega⟩
  · exact q.2.1.symm
  · exact q.2.2
  · have := q.2.1
    have := q.2.2
    omega
theorem BFd9 {ow : Nat → Nat → Prop} {N : Nat} {T : Int32} {D : Nat → Nat} (hN : N ≤ 8) (hT : 0 ≤ T.toInt ∧ T.toInt < 8) (hG : BGz ow N T D) (h3 : B3 ow N D 8) {a : Nat} (ha : a < 8) (hd : D a < 100) : dst ow N T.toNatClampNeg a = D a := by
  have h7 : D a ≤ 7 := by
    rcases Nat.eq_zero_or_pos (D a) with w | w
    · omega
    · exact (BFw hN hG.1 h3 a ha w hd).1
  exact lstN_eq (P := fun d => RC ow N T.toNatClampNeg d a) (n := D a) (BFr2 hN hT hG h3 (D a) a ha rfl hd) 9 0 (Nat.zero_le _) (by omega) (fun e _ he q => by
    have := BFu hN hT hG h3 e a ha q
    omega)
/-- way(): the next house -/
theorem BFx {ow : Nat → Nat → Prop} {N : Nat} {T : Int32} {D : Nat → Nat} (hN : N ≤ 8) (hT : 0 ≤ T.toInt ∧ T.toInt < 8) (hG : BGz ow N T D) (h3 : B3 ow N D 8) {a n : Nat} (ha : a < 8) (hn : n < N) (e : D n + 1 = D a) (hd : D a < 100) (ho : ow a n) (hf : ∀ k, k < n → ¬ (ow a k ∧ D k + 1 = D a)) : lstN (NX ow N T.toNatClampNeg a) N 0 = n :=
  lstN_eq (P := NX ow N T.toNatClampNeg a) (n := n) ((BFn hN hT hG h3 ha (by omega)).mpr ⟨ho, e, hd⟩) N 0 (Nat.zero_le _) (by omega) (fun k _ hk q => by
    have w := (BFn hN hT hG h3 ha (by omega)).mp q
    exact hf k hk ⟨w.1, w.2.1⟩)
theorem upr9 {P : Nat → Prop} {n : Nat} (h : ∀ k, k < n → ¬ P k) (hn : ¬ P n) : ∀ k, k < n + 1 → ¬ P k := fun k hk => by
  by_cases z : k = n
  · rw [z]
    exact hn
  · exact h k (by omega)

set_option maxHeartbeats 4000000 in
set_option maxRecDepth 100000 in
theorem z_way (l : Launch) (D : va_G) (cy : Nat → ClassId) (K : Kp) (L : List Nat) (M : Hp) (sz : Nat) (za : Nat) (z0 : Int32) (z1 : Nat) (z2 : Nat) (z3 : Nat) (z4 : Int32) (z5 : Int32) (z6 : Nat) (z7 : Nat) (z8 : Nat) (z9 : Nat) (z10 : Nat) (z11 : Nat) (z12 : Nat) (z13 : Nat) (z14 : Nat) (z15 : Nat) (z16 : Nat) (z17 : Nat) (z18 : Int32) (z19 : Nat) (k1 : Nat) (k2 : Int32) (hW : WOM cy K L M) (i1 : isk K L z1 23 8) (b2 : z2 ≤ 8) (b3 : z3 ≤ 40) (i6 : isk K L z6 47 40) (i7 : isk K L z7 48 40) (i8 : isk K L z8 49 8) (i9 : isk K L z9 50 8) (b10 : z10 ≤ 8) (i11 : isk K L z11 32 24) (i12 : isk K L z12 14 24) (i13 : isk K L z13 97 24) (i14 : isk K L z14 98 24) (i15 : isk K L z15 99 24) (b16 : z16 ≤ 24) (i17 : isk K L z17 14 24) (i19 : isk K L z19 15 25) (nk1 : k1 < 8) (hk2 : (0 ≤ k2.toInt ∧ k2.toInt < 8)) : Met l yX13_way (wsM yX13_way cX13_way 6 (some .int)) ({ frames := 1, cells := 0, slots := 0, locals := 25 }) (va_Pc [.ref za, .int (nI k1), .int k2] (PG D cy [(za, (b13_0 z0 z1 (nI z2) (nI z3) z4 z5 z6 z7 z8 z9 (nI z10) z11 z12 z13 z14 z15 (nI z16) z17 z18 z19))] L M sz)) (va_Qi (fun (r : Int32) (M9 : Hp) => WOM cy K L M9 ∧ fr K L [49, 50] M M9 ∧ (RCH (owW M z1 z6 z7) z2 k2.toNatClampNeg k1 → ∀ i : Nat, i ≤ dst (owW M z1 z6 z7) z2 k2.toNatClampNeg k1 → IFc (M9 z8) i = nI (wy (owW M z1 z6 z7) z2 k2.toNatClampNeg k1 i)) ∧ ((∃ (j : Nat), r = (nI j) ∧ j ≤ 8 ∧ (1 ≤ j ↔ RCH (owW M z1 z6 z7) z2 k2.toNatClampNeg k1) ∧ (1 ≤ j → j = dst (owW M z1 z6 z7) z2 k2.toNatClampNeg k1 + 1)))) (fun M9 t => PQ D [(za, (b13_0 z0 z1 (nI z2) (nI z3) z4 z5 z6 z7 z8 z9 (nI z10) z11 z12 z13 z14 z15 (nI z16) z17 z18 z19))] L M9 (va_A ([(za, (b13_0 z0 z1 (nI z2) (nI z3) z4 z5 z6 z7 z8 z9 (nI z10) z11 z12 z13 z14 z15 (nI z16) z17 z18 z19))] ++ va_pl L M) sz) t) (va_A ([(za, (b13_0 z0 z1 (nI z2) (nI z3) z4 z5 z6 z7 z8 z9 (nI z10) z11 z12 z13 z14 z15 (nI z16) z17 z18 z19))] ++ va_pl L M) sz)) 0 0 (va_A ([(za, (b13_0 z0 z1 (nI z2) (nI z3) z4 z5 z6 z7 z8 z9 (nI z10) z11 z12 z13 z14 z15 (nI z16) z17 z18 z19))] ++ va_pl L M) sz) := by
  refine Met.ofW (cc := cX13_way) (maxL := 6) (ret := (some .int)) (by decide) rfl ?_
  intro p e s m args below meth c s₁ B hml hv
  obtain ⟨rfl, hsz, hP, hK, hD0, hN⟩ := hv
  have hx := B.exec
  have hb := B.bytes
  have hr := B.returns
  have hts := atoms_spec (ws := (wsM yX13_way cX13_way 6 (some .int))) B.pre
  have hg : ∀ w ∈ lw_good, w.before _ s = true := fun w h => hts w (List.mem_cons_of_mem _ h)
  have hown : s.vm.findClass RX13 = some m.cls := findClass_of_methodNamed B.named
  have hlocks := B.notSynchronized
  subst hsz
  have hD := hD0.self (sz := s.heap.size)
  generalize hAe : va_A ([(za, (b13_0 z0 z1 (nI z2) (nI z3) z4 z5 z6 z7 z8 z9 (nI z10) z11 z12 z13 z14 z15 (nI z16) z17 z18 z19))] ++ va_pl L M) s.heap.size = A at hD ⊢
  have hA : ∀ q : Nat, s.heap.size ≤ q → A q := fun q h => by rw [← hAe]; exact Or.inr h
  have hS : va_S A s.heap s.heap [] := va_S.rf
  have hl := lv_entry ([.ref za, .int (nI k1), .int k2]) (n := 6) (Nat.le_of_ble_eq_true rfl)
  rw [lg_entry_eq]
  generalize (lg_sl ([.ref za, .int (nI k1), .int k2]) ++ List.replicate (6 - (lg_sl ([.ref za, .int (nI k1), .int k2])).length) Slot.unset).toArray = ls at hl ⊢
  refine W.nameQ (fun Q hQ => ?_)
  refine W.nameR (fun R hR => ?_)
  have hRf : 1 ≤ R.frames := by rw [hR]; exact Nat.le_of_ble_eq_true rfl
  have hRl : 25 ≤ R.locals := by rw [hR]; exact Nat.le_of_ble_eq_true rfl
  have hRc : 0 ≤ R.cells := by rw [hR]; exact Nat.le_of_ble_eq_true rfl
  have hRs : 0 ≤ R.slots := by rw [hR]; exact Nat.le_of_ble_eq_true rfl
  have hF : fr K L [49, 50] M M := fr.rf
  have hl : lv_has ls 6 [(0, .ref za), (1, .int (nI k1)), (2, .int k2)] := hl
  have hW0 := hW
  refine lv_iconst (v := 0) hx hb dX13_way_0 (by decide) ?_
  refine lv_istore_n (lv' := [(3, .int 0), (0, .ref za), (1, .int (nI k1)), (2, .int k2)]) hx hb dX13_way_1 rfl hl (by decide) rfl (fun ls hl => ?_)
  obtain ⟨f1, hM1⟩ := hW.open_50 i9
  have key_2 : ∀ (fu_4 : Nat) (v3w5 : Nat) (gFw5 : Nat → Int32) (M_8 : Hp) (H_9 : Heap) (locs : List Loc) (ls : Array Slot), 8 - v3w5 < fu_4 → M_8 z9 = .inl (cy 14, 8, .inl (gFw5)) → v3w5 ≤ 8 → (∀ k : Nat, k < v3w5 → gFw5 k = nI (D0 k2 k)) → WOM cy K L M_8 → fr K L [49, 50] M M_8 → va_P D vwCl ([(za, (b13_0 z0 z1 (nI z2) (nI z3) z4 z5 z6 z7 z8 z9 (nI z10) z11 z12 z13 z14 z15 (nI z16) z17 z18 z19))] ++ va_pl L M_8) H_9 → va_D A ([(za, (b13_0 z0 z1 (nI z2) (nI z3) z4 z5 z6 z7 z8 z9 (nI z10) z11 z12 z13 z14 z15 (nI z16) z17 z18 z19))] ++ va_pl L M_8) → va_S A s.heap H_9 locs → lv_has ls 6 [(3, .int (nI v3w5)), (0, .ref za), (1, .int (nI k1)), (2, .int k2)] → W p l e R s m ([.ref za, .int (nI k1), .int k2] : List Value).toArray below meth c H_9 locs 0 0 Q (F0 m 2 ls []) := by
    intro fu_4
    induction fu_4 with
    | zero => intro v3w5 gFw5 M_8 H_9 locs ls h; exact absurd h (Nat.not_lt_zero _)
    | succ fu_4 ih_3 =>
      intro v3w5 gFw5 M_8 H_9 locs ls hfu hM_10 hx_6 hx_7 hW hF hP hD hS hl
      refine lv_iload_n hx hb dX13_way_2 rfl (lv_at hl 0 rfl) ?_
      refine lv_bipush (v := 8) hx hb dX13_way_3 (by decide) ?_
      refine lv_icmp_ge (tgt := 31) hx hb dX13_way_5 (by decide) (fun c_11 => ?_) (fun c_11 => ?_)
      · have hz := rfl (a := 0)
        have n_12 : 8 ≤ v3w5 := (iLE (a := 8) (b := v3w5) (by omega) (by omega)).mp c_11
        have hLK0 : LK gFw5 (D0 k2) := LK.fill (fun k hk => hx_7 k (by omega))
        refine lv_iconst (v := 0) hx hb dX13_way_31 (by decide) ?_
        refine lv_istore_n (lv' := [(3, .int 0), (0, .ref za), (1, .int (nI k1)), (2, .int k2)]) hx hb dX13_way_32 rfl hl (by decide) rfl (fun ls hl => ?_)
        have hl : lv_has ls 6 [(3, .int 0), (0, .ref za), (1, .int (nI k1)), (2, .int k2)] := lv_sub hl [0, 1, 2, 3] rfl
        have key_13 : ∀ (fu_15 : Nat) (v3w16 : Nat) (gFw16 : Nat → Int32) (gDw16 : Nat → Nat) (M_21 : Hp) (H_22 : Heap) (locs : List Loc) (ls : Array Slot), 8 - v3w16 < fu_15 → M_21 z9 = .inl (cy 14, 8, .inl (gFw16)) → v3w16 ≤ 8 → LK gFw16 gDw16 → BGz (owW M z1 z6 z7) z2 k2 gDw16 → B3 (owW M z1 z6 z7) z2 gDw16 v3w16 → WOM cy K L M_21 → fr K L [49, 50] M M_21 → va_P D vwCl ([(za, (b13_0 z0 z1 (nI z2) (nI z3) z4 z5 z6 z7 z8 z9 (nI z10) z11 z12 z13 z14 z15 (nI z16) z17 z18 z19))] ++ va_pl L M_21) H_22 → va_D A ([(za, (b13_0 z0 z1 (nI z2) (nI z3) z4 z5 z6 z7 z8 z9 (nI z10) z11 z12 z13 z14 z15 (nI z16) z17 z18 z19))] ++ va_pl L M_21) → va_S A s.heap H_22 locs → lv_has ls 6 [(3, .int (nI v3w16)), (0, .ref za), (1, .int (nI k1)), (2, .int k2)] → W p l e R s m ([.ref za, .int (nI k1), .int k2] : List Value).toArray below meth c H_22 locs 0 0 Q (F0 m 33 ls []) := by
          intro fu_15
          induction fu_15 with
          | zero => intro v3w16 gFw16 gDw16 M_21 H_22 locs ls h; exact absurd h (Nat.not_lt_zero _)
          | succ fu_15 ih_14 =>
            intro v3w16 gFw16 gDw16 M_21 H_22 locs ls hfu hM_23 hx_17 hx_18 hx_19 hx_20 hW hF hP hD hS hl
            refine lv_iload_n hx hb dX13_way_33 rfl (lv_at hl 0 rfl) ?_
            refine lv_bipush (v := 8) hx hb dX13_way_34 (by decide) ?_
            refine lv_icmp_ge (tgt := 127) hx hb dX13_way_36 (by decide) (fun c_24 => ?_) (fun c_24 => ?_)
            · have hz := rfl (a := 0)
              have n_25 : 8 ≤ v3w16 := (iLE (a := 8) (b := v3w16) (by omega) (by omega)).mp c_24
              have hBGe := hx_19
              have hB3e : B3 (owW M z1 z6 z7) z2 gDw16 8 := by rw [show 8 = v3w16 from by omega]; exact hx_20
              have hW7 := BFw b2 hBGe.1 hB3e
              refine lv_aload_n hx hb dX13_way_127 rfl (lv_at hl 1 rfl) ?_
              refine va_get (D := D) (ci := 13) (v := .ref z9) (C := RX13) (T := TX13) (N := 20) hx hb hg inG13 hown hK hP 0 rfl rfl 9 (by decide) (hg _ wd_886) (fun _ h9 => h9) rfl dX13_way_128 ?_
              refine lv_iload_n hx hb dX13_way_131 rfl (lv_at hl 2 rfl) ?_
              refine pg_iald hx hb hK hP i9.1 0 hM_23 rfl (inbN k1 8 (by omega) (by omega)) dX13_way_132 ?_
              refine lv_topi (fun f_26 ef_26 => ?_)
              have hLk := hx_18 k1 (by omega)
              have hd100 : gDw16 k1 ≤ 100 := hLk.2
              obtain rfl : f_26 = nI (gDw16 k1) := by rw [ef_26, nI_cl (by omega)]; exact hLk.1
              refine lv_bipush (v := 100) hx hb dX13_way_133 (by decide) ?_
              refine lv_icmp_lt (tgt := 140) hx hb dX13_way_135 (by decide) (fun c_27 => ?_) (fun c_27 => ?_)
              · have hz := rfl (a := 0)
                have n_28 : (gDw16 k1) < 100 := (iLT (a := (gDw16 k1)) (b := 100) (by omega) (by omega)).mp c_27
                have hk17 : gDw16 k1 ≤ 7 := by
                  rcases Nat.eq_zero_or_pos (gDw16 k1) with q | q
                  · omega
                  · exact (hW7 k1 (by omega) q (by omega)).1
                have hRCy : RCH (owW M z1 z6 z7) z2 k2.toNatClampNeg k1 := BFs b2 hk2 hBGe _ k1 (by omega) rfl (by omega)
                refine lv_iconst (v := 0) hx hb dX13_way_140 (by decide) ?_
                refine lv_istore_n (lv' := [(3, .int 0), (0, .ref za), (1, .int (nI k1)), (2, .int k2)]) hx hb dX13_way_141 rfl hl (by decide) rfl (fun ls hl => ?_)
                refine lv_iload_n hx hb dX13_way_142 rfl (lv_at hl 2 rfl) ?_
                refine lv_istore (lv' := [(4, .int (nI k1)), (3, .int 0), (0, .ref za), (1, .int (nI k1)), (2, .int k2)]) hx hb dX13_way_143 hl (by decide) rfl (fun ls hl => ?_)
                refine lv_aload_n hx hb dX13_way_145 rfl (lv_at hl 2 rfl) ?_
                refine va_get (D := D) (ci := 13) (v := .ref z8) (C := RX13) (T := TX13) (N := 20) hx hb hg inG13 hown hK hP 0 rfl rfl 8 (by decide) (hg _ wd_724) (fun _ h9 => h9) rfl dX13_way_146 ?_
                refine lv_iconst (v := 0) hx hb dX13_way_149 (by decide) ?_
                refine lv_iload hx hb dX13_way_150 (lv_at hl 0 rfl) ?_
                obtain ⟨f29, hM29⟩ := hW.open_49 i8
                refine pg_iast hx hb hK hP hD hS i8.1 0 hM29 rfl (inbN 0 8 (by omega) (by omega)) dX13_way_152 (fun H_30 locs hP hD hS => ?_)
                obtain ⟨M_31, eM_31⟩ : ∃ M1 : Hp, M1 = va_up M_21 z8 (.inl (cy 14, 8, .inl (upd f29 (0 : Int32).toNatClampNeg (nI k1)))) := ⟨_, rfl⟩
                have hP : va_P D vwCl ([(za, (b13_0 z0 z1 (nI z2) (nI z3) z4 z5 z6 z7 z8 z9 (nI z10) z11 z12 z13 z14 z15 (nI z16) z17 z18 z19))] ++ va_pl L M_31) H_30 := by rw [eM_31]; exact hP
                have hD : va_D A ([(za, (b13_0 z0 z1 (nI z2) (nI z3) z4 z5 z6 z7 z8 z9 (nI z10) z11 z12 z13 z14 z15 (nI z16) z17 z18 z19))] ++ va_pl L M_31) := by rw [eM_31]; exact hD
                have hW : WOM cy K L M_31 := by rw [eM_31]; exact hW.up_49 i8 ⟨_, rfl⟩
                have hF : fr K L [49, 50] M M_31 := by rw [eM_31]; exact hF.up i8 (by decide)
                have hM_32 : M_31 z8 = .inl (cy 14, 8, .inl (upd f29 (0 : Int32).toNatClampNeg (nI k1))) := by rw [eM_31]; exact va_up_self _ _ _
                have hM_33 : M_31 z9 = .inl (cy 14, 8, .inl (gFw16)) := by rw [eM_31, va_up_ne _ _ (i9.neT i8 (by decide))]; exact hM_23
                obtain ⟨f_34, ef_34⟩ : ∃ f : Nat → Int32, f = upd f29 (0 : Int32).toNatClampNeg (nI k1) := ⟨_, rfl⟩
                rw [← ef_34] at hM_32
                have hl : lv_has ls 6 [(4, .int (nI k1)), (3, .int 0), (0, .ref za), (1, .int (nI k1)), (2, .int k2)] := lv_sub hl [0, 1, 2, 3, 4] rfl
                have key_35 : ∀ (fu_37 : Nat) (v3w38 : Nat) (v4w38 : Nat) (gEw38 : Nat → Int32) (M_43 : Hp) (H_44 : Heap) (locs : List Loc) (ls : Array Slot), gDw16 v4w38 < fu_37 → M_43 z9 = .inl (cy 14, 8, .inl (gFw16)) → M_43 z8 = .inl (cy 14, 8, .inl (gEw38)) → v4w38 < 8 → v3w38 + gDw16 v4w38 = gDw16 k1 → v4w38 = wy (owW M z1 z6 z7) z2 k2.toNatClampNeg k1 v3w38 → (∀ j : Nat, j ≤ v3w38 → gEw38 j = nI (wy (owW M z1 z6 z7) z2 k2.toNatClampNeg k1 j)) → WOM cy K L M_43 → fr K L [49, 50] M M_43 → va_P D vwCl ([(za, (b13_0 z0 z1 (nI z2) (nI z3) z4 z5 z6 z7 z8 z9 (nI z10) z11 z12 z13 z14 z15 (nI z16) z17 z18 z19))] ++ va_pl L M_43) H_44 → va_D A ([(za, (b13_0 z0 z1 (nI z2) (nI z3) z4 z5 z6 z7 z8 z9 (nI z10) z11 z12 z13 z14 z15 (nI z16) z17 z18 z19))] ++ va_pl L M_43) → va_S A s.heap H_44 locs → lv_has ls 6 [(4, .int (nI v4w38)), (3, .int (nI v3w38)), (0, .ref za), (1, .int (nI k1)), (2, .int k2)] → W p l e R s m ([.ref za, .int (nI k1), .int k2] : List Value).toArray below meth c H_44 locs 0 0 Q (F0 m 153 ls []) := by
                  intro fu_37
                  induction fu_37 with
                  | zero => intro v3w38 v4w38 gEw38 M_43 H_44 locs ls h; exact absurd h (Nat.not_lt_zero _)
                  | succ fu_37 ih_36 =>
                    intro v3w38 v4w38 gEw38 M_43 H_44 locs ls hfu hM_45 hM_46 hx_39 hx_40 hx_41 hx_42 hW hF hP hD hS hl
                    refine lv_iload hx hb dX13_way_153 (lv_at hl 0 rfl) ?_
                    refine lv_iload_n hx hb dX13_way_155 rfl (lv_at hl 4 rfl) ?_
                    refine lv_icmp_eq (tgt := 216) hx hb dX13_way_156 (by decide) (fun c_47 => ?_) (fun c_47 => ?_)
                    · have hz := rfl (a := 0)
                      refine lv_iload_n hx hb dX13_way_216 rfl (lv_at hl 1 rfl) ?_
                      refine lv_iconst (v := 1) hx hb dX13_way_217 (by decide) ?_
                      refine lv_iadd hx hb dX13_way_218 ?_
                      refine lv_topi (fun f_48 ef_48 => ?_)
                      obtain rfl : f_48 = (nI (v3w38 + 1)) := ef_48.trans (nI_add v3w38 1)
                      have hDe0 : gDw16 v4w38 = 0 := hBGe.2 v4w38 (by omega) c_47
                      have hds : dst (owW M z1 z6 z7) z2 k2.toNatClampNeg k1 = gDw16 k1 := BFd9 b2 hk2 hBGe hB3e (by omega) (by omega)
                      rw [hQ]
                      exact W.iret (v := (nI (v3w38 + 1))) hx hb hr (fun t ht hW9 => ⟨⟨(nI (v3w38 + 1)), M_43, rfl, ⟨hW, hF, (fun _ i hi => by rw [IFc_of hM_46]; rw [hds] at hi; exact hx_42 i (by omega)), ⟨(v3w38 + 1), rfl, by omega, ⟨fun _ => hRCy, fun _ => by omega⟩, fun _ => by rw [hds]; omega⟩⟩, ⟨by rw [ht]; exact hP, hD⟩⟩, hS.F ht⟩) hS.2.2 dX13_way_219
                    · have hz := rfl (a := 0)
                      have hpos : 0 < gDw16 v4w38 := by
                        rcases Nat.eq_zero_or_pos (gDw16 v4w38) with q | q
                        · exact absurd (hBGe.1.1 v4w38 (by omega) q) c_47
                        · exact q
                      obtain ⟨hle7, hxb⟩ := hW7 v4w38 (by omega) hpos (by omega)
                      refine lv_iconst (v := 0) hx hb dX13_way_159 (by decide) ?_
                      refine lv_istore (lv' := [(5, .int 0), (4, .int (nI v4w38)), (3, .int (nI v3w38)), (0, .ref za), (1, .int (nI k1)), (2, .int k2)]) hx hb dX13_way_160 hl (by decide) rfl (fun ls hl => ?_)
                      have key_49 : ∀ (fu_51 : Nat) (v5w52 : Nat) (M_55 : Hp) (H_56 : Heap) (locs : List Loc) (ls : Array Slot), 8 - v5w52 < fu_51 → M_55 z9 = .inl (cy 14, 8, .inl (gFw16)) → M_55 z8 = .inl (cy 14, 8, .inl (gEw38)) → (∃ b : Nat, v5w52 ≤ b ∧ b < z2 ∧ (owW M z1 z6 z7) v4w38 b ∧ gDw16 b + 1 = gDw16 v4w38) → (∀ k : Nat, k < v5w52 → ¬ ((owW M z1 z6 z7) v4w38 k ∧ gDw16 k + 1 = gDw16 v4w38)) → WOM cy K L M_55 → fr K L [49, 50] M M_55 → va_P D vwCl ([(za, (b13_0 z0 z1 (nI z2) (nI z3) z4 z5 z6 z7 z8 z9 (nI z10) z11 z12 z13 z14 z15 (nI z16) z17 z18 z19))] ++ va_pl L M_55) H_56 → va_D A ([(za, (b13_0 z0 z1 (nI z2) (nI z3) z4 z5 z6 z7 z8 z9 (nI z10) z11 z12 z13 z14 z15 (nI z16) z17 z18 z19))] ++ va_pl L M_55) → va_S A s.heap H_56 locs → lv_has ls 6 [(5, .int (nI v5w52)), (4, .int (nI v4w38)), (3, .int (nI v3w38)), (0, .ref za), (1, .int (nI k1)), (2, .int k2)] → W p l e R s m ([.ref za, .int (nI k1), .int k2] : List Value).toArray below meth c H_56 locs 0 0 Q (F0 m 162 ls []) := by
                        intro fu_51
                        induction fu_51 with
                        | zero => intro v5w52 M_55 H_56 locs ls h; exact absurd h (Nat.not_lt_zero _)
                        | succ fu_51 ih_50 =>
                          intro v5w52 M_55 H_56 locs ls hfu hM_57 hM_58 hx_53 hx_54 hW hF hP hD hS hl
                          obtain ⟨b0, hb1, hb2, hob, hdb⟩ := hx_53
                          refine lv_aload_n hx hb dX13_way_162 rfl (lv_at hl 3 rfl) ?_
                          refine va_get (D := D) (ci := 13) (v := .ref z9) (C := RX13) (T := TX13) (N := 20) hx hb hg inG13 hown hK hP 0 rfl rfl 9 (by decide) (hg _ wd_886) (fun _ h9 => h9) rfl dX13_way_163 ?_
                          refine lv_iload hx hb dX13_way_166 (lv_at hl 0 rfl) ?_
                          refine pg_iald hx hb hK hP i9.1 0 hM_57 rfl (inbN v5w52 8 (by omega) (by omega)) dX13_way_168 ?_
                          refine lv_topi (fun f_59 ef_59 => ?_)
                          have hLk := hx_18 v5w52 (by omega)
                          have hd100 : gDw16 v5w52 ≤ 100 := hLk.2
                          obtain rfl : f_59 = nI (gDw16 v5w52) := by rw [ef_59, nI_cl (by omega)]; exact hLk.1
                          refine lv_aload_n hx hb dX13_way_169 rfl (lv_at hl 3 rfl) ?_
                          refine va_get (D := D) (ci := 13) (v := .ref z9) (C := RX13) (T := TX13) (N := 20) hx hb hg inG13 hown hK hP 0 rfl rfl 9 (by decide) (hg _ wd_886) (fun _ h9 => h9) rfl dX13_way_170 ?_
                          refine lv_iload hx hb dX13_way_173 (lv_at hl 1 rfl) ?_
                          refine pg_iald hx hb hK hP i9.1 0 hM_57 rfl (inbN v4w38 8 (by omega) (by omega)) dX13_way_175 ?_
                          refine lv_topi (fun f_60 ef_60 => ?_)
                          have hLk := hx_18 v4w38 (by omega)
                          have hd100 : gDw16 v4w38 ≤ 100 := hLk.2
                          obtain rfl : f_60 = nI (gDw16 v4w38) := by rw [ef_60, nI_cl (by omega)]; exact hLk.1
                          refine lv_iconst (v := 1) hx hb dX13_way_176 (by decide) ?_
                          refine lv_isub hx hb dX13_way_177 ?_
                          refine lv_topi (fun f_61 ef_61 => ?_)
                          obtain rfl : f_61 = (nI ((gDw16 v4w38) - 1)) := ef_61.trans (nI_prd (by omega))
                          refine lv_icmp_ne (tgt := 192) hx hb dX13_way_178 (by decide) (fun c_62 => ?_) (fun c_62 => ?_)
                          · have hz := rfl (a := 0)
                            have n_63 : ¬ ((gDw16 v5w52) = ((gDw16 v4w38) - 1)) := fun q => c_62 ((iEQ (a := (gDw16 v5w52)) (b := ((gDw16 v4w38) - 1)) (by omega) (by omega)).mpr q)
                            refine lv_iinc (v := (nI (v5w52 + 1))) (lv' := [(5, .int (nI (v5w52 + 1))), (4, .int (nI v4w38)), (3, .int (nI v3w38)), (0, .ref za), (1, .int (nI k1)), (2, .int k2)]) hx hb dX13_way_192 hl (k := 0) rfl (nI_1 v5w52) (by decide) rfl (fun ls hl => ?_)
                            refine lv_goto (tgt := 162) hx hb dX13_way_195 (by decide) ?_
                            exact ih_50 (v5w52 + 1) M_55 H_56 _ _ (by omega) hM_57 hM_58 (exNext (P := fun b => (owW M z1 z6 z7) v4w38 b ∧ gDw16 b + 1 = gDw16 v4w38) hb1 hb2 ⟨hob, hdb⟩ (fun q => by have q2 := q.2; omega)) (upr9 (P := fun k => (owW M z1 z6 z7) v4w38 k ∧ gDw16 k + 1 = gDw16 v4w38) hx_54 (fun q => by have q2 := q.2; omega)) hW hF hP hD hS (lv_sub hl [0, 1, 2, 3, 4, 5] rfl)
                          · have hz := rfl (a := 0)
                            have n_64 : (gDw16 v5w52) = ((gDw16 v4w38) - 1) := (iEQ (a := (gDw16 v5w52)) (b := ((gDw16 v4w38) - 1)) (by omega) (by omega)).mp c_62
                            refine lv_aload_n hx hb dX13_way_181 rfl (lv_at hl 3 rfl) ?_
                            refine lv_iload hx hb dX13_way_182 (lv_at hl 1 rfl) ?_
                            refine lv_iload hx hb dX13_way_184 (lv_at hl 0 rfl) ?_
                            have hPc : va_P D vwCl ([(za, (b13_0 z0 z1 (nI z2) (nI z3) z4 z5 z6 z7 z8 z9 (nI z10) z11 z12 z13 z14 z15 (nI z16) z17 z18 z19))] ++ va_pl L M_55) H_56 := hP
                            have hDc : va_D A ([(za, (b13_0 z0 z1 (nI z2) (nI z3) z4 z5 z6 z7 z8 z9 (nI z10) z11 z12 z13 z14 z15 (nI z16) z17 z18 z19))] ++ va_pl L M_55) := hD
                            have hFc : ∀ q, va_A ([(za, (b13_0 z0 z1 (nI z2) (nI z3) z4 z5 z6 z7 z8 z9 (nI z10) z11 z12 z13 z14 z15 (nI z16) z17 z18 z19))] ++ va_pl L M_55) H_56.size q → A q := pg_free hDc hS hA
                            refine va_calli (va_runV (As := [.int (nI v4w38), .int (nI v5w52)]) (rest := []) ⟨hx, hb, hml, hown, hg⟩ (r_ownsS l D cy K L M_55 H_56.size za z0 z1 z2 z3 z4 z5 z6 z7 z8 z9 z10 z11 z12 z13 z14 z15 z16 z17 z18 z19 (nI v4w38) v5w52  hW i1 b2 b3 i6 i7 i8 i9 b10 i11 i12 i13 i14 i15 b16 i17 i19 (by omega)) (cwV 2 hg (gV wd_887 wd_888 wd_889 wd_717 wd_890) rfl rfl rfl (by decide +kernel) ⟨(Nat.le_trans (Nat.le_of_ble_eq_true rfl) hRf), (Nat.le_trans (Nat.le_of_ble_eq_true rfl) hRl)⟩) ⟨PG.blind, va_recv hK hP (ci := 13) (q0 := 0) rfl rfl, fun U hU hW => ⟨rfl, PG.at hPc hK hDc hN hU hW⟩⟩ rfl rfl hl.1 rfl (lv_room (Nat.le_of_ble_eq_true rfl)) dX13_way_186 ⟨(Nat.le_trans (Nat.le_of_ble_eq_true rfl) hRc), (Nat.le_trans (Nat.le_of_ble_eq_true rfl) hRs)⟩) hS (fun q _ h => hFc q h) hFc (fun r_66 M_67 t H_65 locs ht hvm hw hB hz1 hk1 hS => ?_)
                            have hp_68 := hw
                            obtain ⟨hP1, hD1⟩ := hB
                            rw [ht] at hP1
                            have hP : va_P D vwCl ([(za, (b13_0 z0 z1 (nI z2) (nI z3) z4 z5 z6 z7 z8 z9 (nI z10) z11 z12 z13 z14 z15 (nI z16) z17 z18 z19))] ++ va_pl L M_55) H_65 := hP1
                            have hD : va_D A ([(za, (b13_0 z0 z1 (nI z2) (nI z3) z4 z5 z6 z7 z8 z9 (nI z10) z11 z12 z13 z14 z15 (nI z16) z17 z18 z19))] ++ va_pl L M_55) := hD1.mono hFc
                            rcases hp_68 with ⟨rfl, c_69⟩ | ⟨rfl, c_70⟩
                            · have hz := rfl (a := 0)
                              have hwo0 : (owW M z1 z6 z7) v4w38 v5w52 := (owS.mv hW0 i1 i6 i7 hF (by decide) (by omega)).mp c_69
                              refine lv_if_ne (tgt := 198) hx hb dX13_way_189 (by decide) (fun _ => ?_) (fun c_71 => absurd c_71 (by decide))
                              refine lv_iload hx hb dX13_way_198 (lv_at hl 0 rfl) ?_
                              refine lv_istore (lv' := [(4, .int (nI v5w52)), (5, .int (nI v5w52)), (3, .int (nI v3w38)), (0, .ref za), (1, .int (nI k1)), (2, .int k2)]) hx hb dX13_way_200 hl (by decide) rfl (fun ls hl => ?_)
                              refine lv_iinc (v := (nI (v3w38 + 1))) (lv' := [(3, .int (nI (v3w38 + 1))), (4, .int (nI v5w52)), (5, .int (nI v5w52)), (0, .ref za), (1, .int (nI k1)), (2, .int k2)]) hx hb dX13_way_202 hl (k := 2) rfl (nI_1 v3w38) (by decide) rfl (fun ls hl => ?_)
                              refine lv_aload_n hx hb dX13_way_205 rfl (lv_at hl 3 rfl) ?_
                              refine va_get (D := D) (ci := 13) (v := .ref z8) (C := RX13) (T := TX13) (N := 20) hx hb hg inG13 hown hK hP 0 rfl rfl 8 (by decide) (hg _ wd_724) (fun _ h9 => h9) rfl dX13_way_206 ?_
                              refine lv_iload_n hx hb dX13_way_209 rfl (lv_at hl 0 rfl) ?_
                              refine lv_iload hx hb dX13_way_210 (lv_at hl 1 rfl) ?_
                              refine pg_iast hx hb hK hP hD hS i8.1 0 hM_58 rfl (inbN (v3w38 + 1) 8 (by omega) (by omega)) dX13_way_212 (fun H_72 locs hP hD hS => ?_)
                              obtain ⟨M_73, eM_73⟩ : ∃ M1 : Hp, M1 = va_up M_55 z8 (.inl (cy 14, 8, .inl (upd gEw38 ((nI (v3w38 + 1)) : Int32).toNatClampNeg (nI v5w52)))) := ⟨_, rfl⟩
                              have hP : va_P D vwCl ([(za, (b13_0 z0 z1 (nI z2) (nI z3) z4 z5 z6 z7 z8 z9 (nI z10) z11 z12 z13 z14 z15 (nI z16) z17 z18 z19))] ++ va_pl L M_73) H_72 := by rw [eM_73]; exact hP
                              have hD : va_D A ([(za, (b13_0 z0 z1 (nI z2) (nI z3) z4 z5 z6 z7 z8 z9 (nI z10) z11 z12 z13 z14 z15 (nI z16) z17 z18 z19))] ++ va_pl L M_73) := by rw [eM_73]; exact hD
                              have hW : WOM cy K L M_73 := by rw [eM_73]; exact hW.up_49 i8 ⟨_, rfl⟩
                              have hF : fr K L [49, 50] M M_73 := by rw [eM_73]; exact hF.up i8 (by decide)
                              have hM_74 : M_73 z8 = .inl (cy 14, 8, .inl (upd gEw38 ((nI (v3w38 + 1)) : Int32).toNatClampNeg (nI v5w52))) := by rw [eM_73]; exact va_up_self _ _ _
                              have hM_75 : M_73 z9 = .inl (cy 14, 8, .inl (gFw16)) := by rw [eM_73, va_up_ne _ _ (i9.neT i8 (by decide))]; exact hM_57
                              obtain ⟨f_76, ef_76⟩ : ∃ f : Nat → Int32, f = upd gEw38 ((nI (v3w38 + 1)) : Int32).toNatClampNeg (nI v5w52) := ⟨_, rfl⟩
                              rw [← ef_76] at hM_74
                              refine lv_goto (tgt := 153) hx hb dX13_way_213 (by decide) ?_
                              have hwn : v5w52 = wy (owW M z1 z6 z7) z2 k2.toNatClampNeg k1 (v3w38 + 1) := by show v5w52 = lstN (NX (owW M z1 z6 z7) z2 k2.toNatClampNeg (wy (owW M z1 z6 z7) z2 k2.toNatClampNeg k1 v3w38)) z2 0; rw [← hx_41]; exact (BFx b2 hk2 hBGe hB3e (by omega) (by omega) (by omega) (by omega) hwo0 hx_54).symm
                              exact ih_36 (v3w38 + 1) v5w52 f_76 M_73 H_72 _ _ (by omega) hM_75 hM_74 (by omega) (by omega) hwn (by rw [ef_76]; intro j hj; by_cases z9 : j = v3w38 + 1; rw [z9, upd_at (nI_cl (by omega)), hwn]; rw [upd_ne _ _ (by rw [nI_cl (by omega)]; exact z9)]; exact hx_42 j (by omega)) hW hF hP hD hS (lv_sub hl [1, 0, 3, 4, 5] rfl)
                            · have hz := rfl (a := 0)
                              have hwn0 : ¬ (owW M z1 z6 z7) v4w38 v5w52 := fun q => c_70 ((owS.mv hW0 i1 i6 i7 hF (by decide) (by omega)).mpr q)
                              refine lv_if_ne (tgt := 198) hx hb dX13_way_189 (by decide) (fun c_77 => absurd c_77 (by decide)) (fun _ => ?_)
                              refine lv_iinc (v := (nI (v5w52 + 1))) (lv' := [(5, .int (nI (v5w52 + 1))), (4, .int (nI v4w38)), (3, .int (nI v3w38)), (0, .ref za), (1, .int (nI k1)), (2, .int k2)]) hx hb dX13_way_192 hl (k := 0) rfl (nI_1 v5w52) (by decide) rfl (fun ls hl => ?_)
                              refine lv_goto (tgt := 162) hx hb dX13_way_195 (by decide) ?_
                              exact ih_50 (v5w52 + 1) M_55 H_65 _ _ (by omega) hM_57 hM_58 (exNext (P := fun b => (owW M z1 z6 z7) v4w38 b ∧ gDw16 b + 1 = gDw16 v4w38) hb1 hb2 ⟨hob, hdb⟩ (fun q => hwn0 q.1)) (upr9 (P := fun k => (owW M z1 z6 z7) v4w38 k ∧ gDw16 k + 1 = gDw16 v4w38) hx_54 (fun q => hwn0 q.1)) hW hF hP hD hS (lv_sub hl [0, 1, 2, 3, 4, 5] rfl)
                      exact key_49 (8 - 0 + 1) 0 M_43 H_44 _ _ (by omega) hM_45 hM_46 (by obtain ⟨b, g1, g2, g3⟩ := hxb; exact ⟨b, Nat.zero_le _, g1, g2, g3⟩) (fun k hk => absurd hk (Nat.not_lt_zero _)) hW hF hP hD hS (lv_sub hl [0, 1, 2, 3, 4, 5] rfl)
                exact key_35 (gDw16 k1 + 1) 0 k1 f_34 M_31 H_30 _ _ (by omega) hM_33 hM_32 (by omega) (by omega) rfl (by rw [ef_34]; intro j hj; rw [show j = 0 from by omega]; exact upd_at rfl) hW hF hP hD hS (lv_sub hl [0, 1, 2, 3, 4] rfl)
              · have hz := rfl (a := 0)
                have n_78 : ¬ ((gDw16 k1) < 100) := fun q => c_27 ((iLT (a := (gDw16 k1)) (b := 100) (by omega) (by omega)).mpr q)
                refine lv_iconst (v := 0) hx hb dX13_way_138 (by decide) ?_
                rw [hQ]
                exact W.iret (v := 0) hx hb hr (fun t ht hW9 => ⟨⟨0, M_21, rfl, ⟨hW, hF, (fun ⟨d9, q9⟩ => by have h9 := BFc b2 hk2 hBGe hB3e d9 k1 (by omega) q9; exfalso; omega), ⟨0, rfl, by omega, ⟨fun q9 => by omega, fun ⟨d9, q9⟩ => by have h9 := BFc b2 hk2 hBGe hB3e d9 k1 (by omega) q9; omega⟩, fun q9 => by omega⟩⟩, ⟨by rw [ht]; exact hP, hD⟩⟩, hS.F ht⟩) hS.2.2 dX13_way_139
            · have hz := rfl (a := 0)
              have n_79 : ¬ (8 ≤ v3w16) := fun q => c_24 ((iLE (a := 8) (b := v3w16) (by omega) (by omega)).mpr q)
              refine lv_iconst (v := 0) hx hb dX13_way_39 (by decide) ?_
              refine lv_istore (lv' := [(4, .int 0), (3, .int (nI v3w16)), (0, .ref za), (1, .int (nI k1)), (2, .int k2)]) hx hb dX13_way_40 hl (by decide) rfl (fun ls hl => ?_)
              have hl : lv_has ls 6 [(4, .int 0), (3, .int (nI v3w16)), (0, .ref za), (1, .int (nI k1)), (2, .int k2)] := lv_sub hl [0, 1, 2, 3, 4] rfl
              have key_80 : ∀ (fu_82 : Nat) (v4w83 : Nat) (gFw83 : Nat → Int32) (gDw83 : Nat → Nat) (M_89 : Hp) (H_90 : Heap) (locs : List Loc) (ls : Array Slot), 8 - v4w83 < fu_82 → M_89 z9 = .inl (cy 14, 8, .inl (gFw83)) → v4w83 ≤ z2 → LK gFw83 gDw83 → BGz (owW M z1 z6 z7) z2 k2 gDw83 → B3 (owW M z1 z6 z7) z2 gDw83 v3w16 → BJ (owW M z1 z6 z7) z2 gDw83 v3w16 v4w83 0 → WOM cy K L M_89 → fr K L [49, 50] M M_89 → va_P D vwCl ([(za, (b13_0 z0 z1 (nI z2) (nI z3) z4 z5 z6 z7 z8 z9 (nI z10) z11 z12 z13 z14 z15 (nI z16) z17 z18 z19))] ++ va_pl L M_89) H_90 → va_D A ([(za, (b13_0 z0 z1 (nI z2) (nI z3) z4 z5 z6 z7 z8 z9 (nI z10) z11 z12 z13 z14 z15 (nI z16) z17 z18 z19))] ++ va_pl L M_89) → va_S A s.heap H_90 locs → lv_has ls 6 [(4, .int (nI v4w83)), (3, .int (nI v3w16)), (0, .ref za), (1, .int (nI k1)), (2, .int k2)] → W p l e R s m ([.ref za, .int (nI k1), .int k2] : List Value).toArray below meth c H_90 locs 0 0 Q (F0 m 42 ls []) := by
                intro fu_82
                induction fu_82 with
                | zero => intro v4w83 gFw83 gDw83 M_89 H_90 locs ls h; exact absurd h (Nat.not_lt_zero _)
                | succ fu_82 ih_81 =>
                  intro v4w83 gFw83 gDw83 M_89 H_90 locs ls hfu hM_91 hx_84 hx_85 hx_86 hx_87 hx_88 hW hF hP hD hS hl
                  refine lv_iload hx hb dX13_way_42 (lv_at hl 0 rfl) ?_
                  refine lv_aload_n hx hb dX13_way_44 rfl (lv_at hl 2 rfl) ?_
                  refine va_get (D := D) (ci := 13) (v := .int (nI z2)) (C := RX13) (T := TX13) (N := 20) hx hb hg inG13 hown hK hP 0 rfl rfl 2 (by decide) (hg _ wd_713) (fun _ h9 => h9) rfl dX13_way_45 ?_
                  refine lv_icmp_ge (tgt := 121) hx hb dX13_way_48 (by decide) (fun c_92 => ?_) (fun c_92 => ?_)
                  · have hz := rfl (a := 0)
                    have n_93 : z2 ≤ v4w83 := (iLE (a := z2) (b := v4w83) (by omega) (by omega)).mp c_92
                    refine lv_iinc (v := (nI (v3w16 + 1))) (lv' := [(3, .int (nI (v3w16 + 1))), (4, .int (nI v4w83)), (0, .ref za), (1, .int (nI k1)), (2, .int k2)]) hx hb dX13_way_121 hl (k := 1) rfl (nI_1 v3w16) (by decide) rfl (fun ls hl => ?_)
                    refine lv_goto (tgt := 33) hx hb dX13_way_124 (by decide) ?_
                    exact ih_14 (v3w16 + 1) gFw83 gDw83 M_89 H_90 _ _ (by omega) hM_91 (by omega) hx_85 hx_86 (B3.nxt hx_88 (by omega)) hW hF hP hD hS (lv_sub hl [0, 2, 3, 4] rfl)
                  · have hz := rfl (a := 0)
                    have n_94 : ¬ (z2 ≤ v4w83) := fun q => c_92 ((iLE (a := z2) (b := v4w83) (by omega) (by omega)).mpr q)
                    refine lv_iconst (v := 0) hx hb dX13_way_51 (by decide) ?_
                    refine lv_istore (lv' := [(5, .int 0), (4, .int (nI v4w83)), (3, .int (nI v3w16)), (0, .ref za), (1, .int (nI k1)), (2, .int k2)]) hx hb dX13_way_52 hl (by decide) rfl (fun ls hl => ?_)
                    have key_95 : ∀ (fu_97 : Nat) (v5w98 : Nat) (gFw98 : Nat → Int32) (gDw98 : Nat → Nat) (M_104 : Hp) (H_105 : Heap) (locs : List Loc) (ls : Array Slot), 8 - v5w98 < fu_97 → M_104 z9 = .inl (cy 14, 8, .inl (gFw98)) → v5w98 ≤ z2 → LK gFw98 gDw98 → BGz (owW M z1 z6 z7) z2 k2 gDw98 → B3 (owW M z1 z6 z7) z2 gDw98 v3w16 → BJ (owW M z1 z6 z7) z2 gDw98 v3w16 v4w83 v5w98 → WOM cy K L M_104 → fr K L [49, 50] M M_104 → va_P D vwCl ([(za, (b13_0 z0 z1 (nI z2) (nI z3) z4 z5 z6 z7 z8 z9 (nI z10) z11 z12 z13 z14 z15 (nI z16) z17 z18 z19))] ++ va_pl L M_104) H_105 → va_D A ([(za, (b13_0 z0 z1 (nI z2) (nI z3) z4 z5 z6 z7 z8 z9 (nI z10) z11 z12 z13 z14 z15 (nI z16) z17 z18 z19))] ++ va_pl L M_104) → va_S A s.heap H_105 locs → lv_has ls 6 [(5, .int (nI v5w98)), (4, .int (nI v4w83)), (3, .int (nI v3w16)), (0, .ref za), (1, .int (nI k1)), (2, .int k2)] → W p l e R s m ([.ref za, .int (nI k1), .int k2] : List Value).toArray below meth c H_105 locs 0 0 Q (F0 m 54 ls []) := by
                      intro fu_97
                      induction fu_97 with
                      | zero => intro v5w98 gFw98 gDw98 M_104 H_105 locs ls h; exact absurd h (Nat.not_lt_zero _)
                      | succ fu_97 ih_96 =>
                        intro v5w98 gFw98 gDw98 M_104 H_105 locs ls hfu hM_106 hx_99 hx_100 hx_101 hx_102 hx_103 hW hF hP hD hS hl
                        refine lv_iload hx hb dX13_way_54 (lv_at hl 0 rfl) ?_
                        refine lv_aload_n hx hb dX13_way_56 rfl (lv_at hl 3 rfl) ?_
                        refine va_get (D := D) (ci := 13) (v := .int (nI z2)) (C := RX13) (T := TX13) (N := 20) hx hb hg inG13 hown hK hP 0 rfl rfl 2 (by decide) (hg _ wd_713) (fun _ h9 => h9) rfl dX13_way_57 ?_
                        refine lv_icmp_ge (tgt := 115) hx hb dX13_way_60 (by decide) (fun c_107 => ?_) (fun c_107 => ?_)
                        · have hz := rfl (a := 0)
                          have n_108 : z2 ≤ v5w98 := (iLE (a := z2) (b := v5w98) (by omega) (by omega)).mp c_107
                          refine lv_iinc (v := (nI (v4w83 + 1))) (lv' := [(4, .int (nI (v4w83 + 1))), (5, .int (nI v5w98)), (3, .int (nI v3w16)), (0, .ref za), (1, .int (nI k1)), (2, .int k2)]) hx hb dX13_way_115 hl (k := 1) rfl (nI_1 v4w83) (by decide) rfl (fun ls hl => ?_)
                          refine lv_goto (tgt := 42) hx hb dX13_way_118 (by decide) ?_
                          exact ih_81 (v4w83 + 1) gFw98 gDw98 M_104 H_105 _ _ (by omega) hM_106 (by omega) hx_100 hx_101 hx_102 (BJ.row hx_103 (by omega)) hW hF hP hD hS (lv_sub hl [0, 2, 3, 4, 5] rfl)
                        · have hz := rfl (a := 0)
                          have n_109 : ¬ (z2 ≤ v5w98) := fun q => c_107 ((iLE (a := z2) (b := v5w98) (by omega) (by omega)).mpr q)
                          refine lv_aload_n hx hb dX13_way_63 rfl (lv_at hl 3 rfl) ?_
                          refine va_get (D := D) (ci := 13) (v := .ref z9) (C := RX13) (T := TX13) (N := 20) hx hb hg inG13 hown hK hP 0 rfl rfl 9 (by decide) (hg _ wd_886) (fun _ h9 => h9) rfl dX13_way_64 ?_
                          refine lv_iload hx hb dX13_way_67 (lv_at hl 0 rfl) ?_
                          refine pg_iald hx hb hK hP i9.1 0 hM_106 rfl (inbN v5w98 8 (by omega) (by omega)) dX13_way_69 ?_
                          refine lv_topi (fun f_110 ef_110 => ?_)
                          have hLk := hx_100 v5w98 (by omega)
                          have hd100 : gDw98 v5w98 ≤ 100 := hLk.2
                          obtain rfl : f_110 = nI (gDw98 v5w98) := by rw [ef_110, nI_cl (by omega)]; exact hLk.1
                          refine lv_iconst (v := 1) hx hb dX13_way_70 (by decide) ?_
                          refine lv_iadd hx hb dX13_way_71 ?_
                          refine lv_topi (fun f_111 ef_111 => ?_)
                          obtain rfl : f_111 = (nI ((gDw98 v5w98) + 1)) := ef_111.trans (nI_add (gDw98 v5w98) 1)
                          refine lv_aload_n hx hb dX13_way_72 rfl (lv_at hl 3 rfl) ?_
                          refine va_get (D := D) (ci := 13) (v := .ref z9) (C := RX13) (T := TX13) (N := 20) hx hb hg inG13 hown hK hP 0 rfl rfl 9 (by decide) (hg _ wd_886) (fun _ h9 => h9) rfl dX13_way_73 ?_
                          refine lv_iload hx hb dX13_way_76 (lv_at hl 1 rfl) ?_
                          refine pg_iald hx hb hK hP i9.1 0 hM_106 rfl (inbN v4w83 8 (by omega) (by omega)) dX13_way_78 ?_
                          refine lv_topi (fun f_112 ef_112 => ?_)
                          have hLk := hx_100 v4w83 (by omega)
                          have hd100 : gDw98 v4w83 ≤ 100 := hLk.2
                          obtain rfl : f_112 = nI (gDw98 v4w83) := by rw [ef_112, nI_cl (by omega)]; exact hLk.1
                          refine lv_icmp_ge (tgt := 109) hx hb dX13_way_79 (by decide) (fun c_113 => ?_) (fun c_113 => ?_)
                          · have hz := rfl (a := 0)
                            have n_114 : (gDw98 v4w83) ≤ ((gDw98 v5w98) + 1) := (iLE (a := (gDw98 v4w83)) (b := ((gDw98 v5w98) + 1)) (by omega) (by omega)).mp c_113
                            refine lv_iinc (v := (nI (v5w98 + 1))) (lv' := [(5, .int (nI (v5w98 + 1))), (4, .int (nI v4w83)), (3, .int (nI v3w16)), (0, .ref za), (1, .int (nI k1)), (2, .int k2)]) hx hb dX13_way_109 hl (k := 0) rfl (nI_1 v5w98) (by decide) rfl (fun ls hl => ?_)
                            refine lv_goto (tgt := 54) hx hb dX13_way_112 (by decide) ?_
                            exact ih_96 (v5w98 + 1) gFw98 gDw98 M_104 H_105 _ _ (by omega) hM_106 (by omega) hx_100 hx_101 hx_102 (BJ.no hx_103 (fun _ => by omega)) hW hF hP hD hS (lv_sub hl [0, 1, 2, 3, 4, 5] rfl)
                          · have hz := rfl (a := 0)
                            have n_115 : ¬ ((gDw98 v4w83) ≤ ((gDw98 v5w98) + 1)) := fun q => c_113 ((iLE (a := (gDw98 v4w83)) (b := ((gDw98 v5w98) + 1)) (by omega) (by omega)).mpr q)
                            refine lv_aload_n hx hb dX13_way_82 rfl (lv_at hl 3 rfl) ?_
                            refine lv_iload hx hb dX13_way_83 (lv_at hl 1 rfl) ?_
                            refine lv_iload hx hb dX13_way_85 (lv_at hl 0 rfl) ?_
                            have hPc : va_P D vwCl ([(za, (b13_0 z0 z1 (nI z2) (nI z3) z4 z5 z6 z7 z8 z9 (nI z10) z11 z12 z13 z14 z15 (nI z16) z17 z18 z19))] ++ va_pl L M_104) H_105 := hP
                            have hDc : va_D A ([(za, (b13_0 z0 z1 (nI z2) (nI z3) z4 z5 z6 z7 z8 z9 (nI z10) z11 z12 z13 z14 z15 (nI z16) z17 z18 z19))] ++ va_pl L M_104) := hD
                            have hFc : ∀ q, va_A ([(za, (b13_0 z0 z1 (nI z2) (nI z3) z4 z5 z6 z7 z8 z9 (nI z10) z11 z12 z13 z14 z15 (nI z16) z17 z18 z19))] ++ va_pl L M_104) H_105.size q → A q := pg_free hDc hS hA
                            refine va_calli (va_runV (As := [.int (nI v4w83), .int (nI v5w98)]) (rest := []) ⟨hx, hb, hml, hown, hg⟩ (r_ownsS l D cy K L M_104 H_105.size za z0 z1 z2 z3 z4 z5 z6 z7 z8 z9 z10 z11 z12 z13 z14 z15 z16 z17 z18 z19 (nI v4w83) v5w98  hW i1 b2 b3 i6 i7 i8 i9 b10 i11 i12 i13 i14 i15 b16 i17 i19 (by omega)) (cwV 2 hg (gV wd_887 wd_888 wd_889 wd_717 wd_890) rfl rfl rfl (by decide +kernel) ⟨(Nat.le_trans (Nat.le_of_ble_eq_true rfl) hRf), (Nat.le_trans (Nat.le_of_ble_eq_true rfl) hRl)⟩) ⟨PG.blind, va_recv hK hP (ci := 13) (q0 := 0) rfl rfl, fun U hU hW => ⟨rfl, PG.at hPc hK hDc hN hU hW⟩⟩ rfl rfl hl.1 rfl (lv_room (Nat.le_of_ble_eq_true rfl)) dX13_way_87 ⟨(Nat.le_trans (Nat.le_of_ble_eq_true rfl) hRc), (Nat.le_trans (Nat.le_of_ble_eq_true rfl) hRs)⟩) hS (fun q _ h => hFc q h) hFc (fun r_117 M_118 t H_116 locs ht hvm hw hB hz1 hk1 hS => ?_)
                            have hp_119 := hw
                            obtain ⟨hP1, hD1⟩ := hB
                            rw [ht] at hP1
                            have hP : va_P D vwCl ([(za, (b13_0 z0 z1 (nI z2) (nI z3) z4 z5 z6 z7 z8 z9 (nI z10) z11 z12 z13 z14 z15 (nI z16) z17 z18 z19))] ++ va_pl L M_104) H_116 := hP1
                            have hD : va_D A ([(za, (b13_0 z0 z1 (nI z2) (nI z3) z4 z5 z6 z7 z8 z9 (nI z10) z11 z12 z13 z14 z15 (nI z16) z17 z18 z19))] ++ va_pl L M_104) := hD1.mono hFc
                            rcases hp_119 with ⟨rfl, c_120⟩ | ⟨rfl, c_121⟩
                            · have hz := rfl (a := 0)
                              have hwo0 : (owW M z1 z6 z7) v4w83 v5w98 := (owS.mv hW0 i1 i6 i7 hF (by decide) (by omega)).mp c_120
                              refine lv_if_eq (tgt := 109) hx hb dX13_way_90 (by decide) (fun c_122 => absurd c_122 (by decide)) (fun _ => ?_)
                              refine lv_aload_n hx hb dX13_way_93 rfl (lv_at hl 3 rfl) ?_
                              refine va_get (D := D) (ci := 13) (v := .ref z9) (C := RX13) (T := TX13) (N := 20) hx hb hg inG13 hown hK hP 0 rfl rfl 9 (by decide) (hg _ wd_886) (fun _ h9 => h9) rfl dX13_way_94 ?_
                              refine lv_iload hx hb dX13_way_97 (lv_at hl 1 rfl) ?_
                              refine lv_aload_n hx hb dX13_way_99 rfl (lv_at hl 3 rfl) ?_
                              refine va_get (D := D) (ci := 13) (v := .ref z9) (C := RX13) (T := TX13) (N := 20) hx hb hg inG13 hown hK hP 0 rfl rfl 9 (by decide) (hg _ wd_886) (fun _ h9 => h9) rfl dX13_way_100 ?_
                              refine lv_iload hx hb dX13_way_103 (lv_at hl 0 rfl) ?_
                              refine pg_iald hx hb hK hP i9.1 0 hM_106 rfl (inbN v5w98 8 (by omega) (by omega)) dX13_way_105 ?_
                              refine lv_topi (fun f_123 ef_123 => ?_)
                              have hLk := hx_100 v5w98 (by omega)
                              have hd100 : gDw98 v5w98 ≤ 100 := hLk.2
                              obtain rfl : f_123 = nI (gDw98 v5w98) := by rw [ef_123, nI_cl (by omega)]; exact hLk.1
                              refine lv_iconst (v := 1) hx hb dX13_way_106 (by decide) ?_
                              refine lv_iadd hx hb dX13_way_107 ?_
                              refine lv_topi (fun f_124 ef_124 => ?_)
                              obtain rfl : f_124 = (nI ((gDw98 v5w98) + 1)) := ef_124.trans (nI_add (gDw98 v5w98) 1)
                              refine pg_iast hx hb hK hP hD hS i9.1 0 hM_106 rfl (inbN v4w83 8 (by omega) (by omega)) dX13_way_108 (fun H_125 locs hP hD hS => ?_)
                              obtain ⟨M_126, eM_126⟩ : ∃ M1 : Hp, M1 = va_up M_104 z9 (.inl (cy 14, 8, .inl (upd gFw98 ((nI v4w83) : Int32).toNatClampNeg (nI ((gDw98 v5w98) + 1))))) := ⟨_, rfl⟩
                              have hP : va_P D vwCl ([(za, (b13_0 z0 z1 (nI z2) (nI z3) z4 z5 z6 z7 z8 z9 (nI z10) z11 z12 z13 z14 z15 (nI z16) z17 z18 z19))] ++ va_pl L M_126) H_125 := by rw [eM_126]; exact hP
                              have hD : va_D A ([(za, (b13_0 z0 z1 (nI z2) (nI z3) z4 z5 z6 z7 z8 z9 (nI z10) z11 z12 z13 z14 z15 (nI z16) z17 z18 z19))] ++ va_pl L M_126) := by rw [eM_126]; exact hD
                              have hW : WOM cy K L M_126 := by rw [eM_126]; exact hW.up_50 i9 ⟨_, rfl⟩
                              have hF : fr K L [49, 50] M M_126 := by rw [eM_126]; exact hF.up i9 (by decide)
                              have hM_127 : M_126 z9 = .inl (cy 14, 8, .inl (upd gFw98 ((nI v4w83) : Int32).toNatClampNeg (nI ((gDw98 v5w98) + 1)))) := by rw [eM_126]; exact va_up_self _ _ _
                              obtain ⟨f_128, ef_128⟩ : ∃ f : Nat → Int32, f = upd gFw98 ((nI v4w83) : Int32).toNatClampNeg (nI ((gDw98 v5w98) + 1)) := ⟨_, rfl⟩
                              rw [← ef_128] at hM_127
                              have hwo : (owW M z1 z6 z7) v4w83 v5w98 := hwo0
                              have hLK9 : LK f_128 (va_up gDw98 v4w83 (gDw98 v5w98 + 1)) := by rw [ef_128]; exact LK.up hx_100 (nI_cl (by omega)) (by omega)
                              obtain ⟨hBG9, hB39, hBJ9⟩ := BFrz b2 hx_101 hx_102 hx_103 (by omega) (by omega) hwo (by omega)
                              refine lv_iinc (v := (nI (v5w98 + 1))) (lv' := [(5, .int (nI (v5w98 + 1))), (4, .int (nI v4w83)), (3, .int (nI v3w16)), (0, .ref za), (1, .int (nI k1)), (2, .int k2)]) hx hb dX13_way_109 hl (k := 0) rfl (nI_1 v5w98) (by decide) rfl (fun ls hl => ?_)
                              refine lv_goto (tgt := 54) hx hb dX13_way_112 (by decide) ?_
                              exact ih_96 (v5w98 + 1) f_128 (va_up gDw98 v4w83 (gDw98 v5w98 + 1)) M_126 H_125 _ _ (by omega) hM_127 (by omega) hLK9 hBG9 hB39 hBJ9 hW hF hP hD hS (lv_sub hl [0, 1, 2, 3, 4, 5] rfl)
                            · have hz := rfl (a := 0)
                              have hwn0 : ¬ (owW M z1 z6 z7) v4w83 v5w98 := fun q => c_121 ((owS.mv hW0 i1 i6 i7 hF (by decide) (by omega)).mpr q)
                              refine lv_if_eq (tgt := 109) hx hb dX13_way_90 (by decide) (fun _ => ?_) (fun c_129 => absurd c_129 (by decide))
                              refine lv_iinc (v := (nI (v5w98 + 1))) (lv' := [(5, .int (nI (v5w98 + 1))), (4, .int (nI v4w83)), (3, .int (nI v3w16)), (0, .ref za), (1, .int (nI k1)), (2, .int k2)]) hx hb dX13_way_109 hl (k := 0) rfl (nI_1 v5w98) (by decide) rfl (fun ls hl => ?_)
                              refine lv_goto (tgt := 54) hx hb dX13_way_112 (by decide) ?_
                              exact ih_96 (v5w98 + 1) gFw98 gDw98 M_104 H_116 _ _ (by omega) hM_106 (by omega) hx_100 hx_101 hx_102 (BJ.no hx_103 (fun q => absurd q hwn0)) hW hF hP hD hS (lv_sub hl [0, 1, 2, 3, 4, 5] rfl)
                    exact key_95 (8 - 0 + 1) 0 gFw83 gDw83 M_89 H_90 _ _ (by omega) hM_91 (by omega) hx_85 hx_86 hx_87 hx_88 hW hF hP hD hS (lv_sub hl [0, 1, 2, 3, 4, 5] rfl)
              exact key_80 (8 - 0 + 1) 0 gFw16 gDw16 M_21 H_22 _ _ (by omega) hM_23 (by omega) hx_18 hx_19 hx_20 (BJ.fst _ _ _ _) hW hF hP hD hS (lv_sub hl [0, 1, 2, 3, 4] rfl)
        exact key_13 (8 - 0 + 1) 0 gFw5 (D0 k2) M_8 H_9 _ _ (by omega) hM_10 (by omega) hLK0 (BGz.fst _ _ _) (B3.fst _ _ _) hW hF hP hD hS (lv_sub hl [0, 1, 2, 3] rfl)
      · have hz := rfl (a := 0)
        have n_130 : ¬ (8 ≤ v3w5) := fun q => c_11 ((iLE (a := 8) (b := v3w5) (by omega) (by omega)).mpr q)
        refine lv_aload_n hx hb dX13_way_8 rfl (lv_at hl 1 rfl) ?_
        refine va_get (D := D) (ci := 13) (v := .ref z9) (C := RX13) (T := TX13) (N := 20) hx hb hg inG13 hown hK hP 0 rfl rfl 9 (by decide) (hg _ wd_886) (fun _ h9 => h9) rfl dX13_way_9 ?_
        refine lv_iload_n hx hb dX13_way_12 rfl (lv_at hl 0 rfl) ?_
        refine lv_iload_n hx hb dX13_way_13 rfl (lv_at hl 0 rfl) ?_
        refine lv_iload_n hx hb dX13_way_14 rfl (lv_at hl 3 rfl) ?_
        refine lv_icmp_ne (tgt := 22) hx hb dX13_way_15 (by decide) (fun c_131 => ?_) (fun c_131 => ?_)
        · have hz := rfl (a := 0)
          refine lv_bipush (v := 100) hx hb dX13_way_22 (by decide) ?_
          refine pg_iast hx hb hK hP hD hS i9.1 0 hM_10 rfl (inbN v3w5 8 (by omega) (by omega)) dX13_way_24 (fun H_132 locs hP hD hS => ?_)
          obtain ⟨M_133, eM_133⟩ : ∃ M1 : Hp, M1 = va_up M_8 z9 (.inl (cy 14, 8, .inl (upd gFw5 ((nI v3w5) : Int32).toNatClampNeg 100))) := ⟨_, rfl⟩
          have hP : va_P D vwCl ([(za, (b13_0 z0 z1 (nI z2) (nI z3) z4 z5 z6 z7 z8 z9 (nI z10) z11 z12 z13 z14 z15 (nI z16) z17 z18 z19))] ++ va_pl L M_133) H_132 := by rw [eM_133]; exact hP
          have hD : va_D A ([(za, (b13_0 z0 z1 (nI z2) (nI z3) z4 z5 z6 z7 z8 z9 (nI z10) z11 z12 z13 z14 z15 (nI z16) z17 z18 z19))] ++ va_pl L M_133) := by rw [eM_133]; exact hD
          have hW : WOM cy K L M_133 := by rw [eM_133]; exact hW.up_50 i9 ⟨_, rfl⟩
          have hF : fr K L [49, 50] M M_133 := by rw [eM_133]; exact hF.up i9 (by decide)
          have hM_134 : M_133 z9 = .inl (cy 14, 8, .inl (upd gFw5 ((nI v3w5) : Int32).toNatClampNeg 100)) := by rw [eM_133]; exact va_up_self _ _ _
          obtain ⟨f_135, ef_135⟩ : ∃ f : Nat → Int32, f = upd gFw5 ((nI v3w5) : Int32).toNatClampNeg 100 := ⟨_, rfl⟩
          rw [← ef_135] at hM_134
          refine lv_iinc (v := (nI (v3w5 + 1))) (lv' := [(3, .int (nI (v3w5 + 1))), (0, .ref za), (1, .int (nI k1)), (2, .int k2)]) hx hb dX13_way_25 hl (k := 0) rfl (nI_1 v3w5) (by decide) rfl (fun ls hl => ?_)
          refine lv_goto (tgt := 2) hx hb dX13_way_28 (by decide) ?_
          exact ih_3 (v3w5 + 1) f_135 M_133 H_132 _ _ (by omega) hM_134 (by omega) (by rw [ef_135]; exact filD hx_7 (nI_cl (by omega)) (D0n c_131)) hW hF hP hD hS (lv_sub hl [0, 1, 2, 3] rfl)
        · have hz := rfl (a := 0)
          refine lv_iconst (v := 0) hx hb dX13_way_18 (by decide) ?_
          refine lv_goto (tgt := 24) hx hb dX13_way_19 (by decide) ?_
          refine pg_iast hx hb hK hP hD hS i9.1 0 hM_10 rfl (inbN v3w5 8 (by omega) (by omega)) dX13_way_24 (fun H_136 locs hP hD hS => ?_)
          obtain ⟨M_137, eM_137⟩ : ∃ M1 : Hp, M1 = va_up M_8 z9 (.inl (cy 14, 8, .inl (upd gFw5 ((nI v3w5) : Int32).toNatClampNeg 0))) := ⟨_, rfl⟩
          have hP : va_P D vwCl ([(za, (b13_0 z0 z1 (nI z2) (nI z3) z4 z5 z6 z7 z8 z9 (nI z10) z11 z12 z13 z14 z15 (nI z16) z17 z18 z19))] ++ va_pl L M_137) H_136 := by rw [eM_137]; exact hP
          have hD : va_D A ([(za, (b13_0 z0 z1 (nI z2) (nI z3) z4 z5 z6 z7 z8 z9 (nI z10) z11 z12 z13 z14 z15 (nI z16) z17 z18 z19))] ++ va_pl L M_137) := by rw [eM_137]; exact hD
          have hW : WOM cy K L M_137 := by rw [eM_137]; exact hW.up_50 i9 ⟨_, rfl⟩
          have hF : fr K L [49, 50] M M_137 := by rw [eM_137]; exact hF.up i9 (by decide)
          have hM_138 : M_137 z9 = .inl (cy 14, 8, .inl (upd gFw5 ((nI v3w5) : Int32).toNatClampNeg 0)) := by rw [eM_137]; exact va_up_self _ _ _
          obtain ⟨f_139, ef_139⟩ : ∃ f : Nat → Int32, f = upd gFw5 ((nI v3w5) : Int32).toNatClampNeg 0 := ⟨_, rfl⟩
          rw [← ef_139] at hM_138
          refine lv_iinc (v := (nI (v3w5 + 1))) (lv' := [(3, .int (nI (v3w5 + 1))), (0, .ref za), (1, .int (nI k1)), (2, .int k2)]) hx hb dX13_way_25 hl (k := 0) rfl (nI_1 v3w5) (by decide) rfl (fun ls hl => ?_)
          refine lv_goto (tgt := 2) hx hb dX13_way_28 (by decide) ?_
          exact ih_3 (v3w5 + 1) f_139 M_137 H_136 _ _ (by omega) hM_138 (by omega) (by rw [ef_139]; exact filD hx_7 (nI_cl (by omega)) (D0y c_131)) hW hF hP hD hS (lv_sub hl [0, 1, 2, 3] rfl)
  exact key_2 (8 - 0 + 1) 0 f1 M s.heap _ _ (by omega) hM1 (by omega) (fun k h => absurd h (Nat.not_lt_zero _)) hW hF hP hD hS (lv_sub hl [0, 1, 2, 3] rfl)
