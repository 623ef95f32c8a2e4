

/-! THE CLAIM OUT OF ONE WALK OF THE LAW'S BODY. Your part is whole_start (and what it stands on); all else here is the same for every law, but numbers. -/
def R_law : String := "PartnersBookLaw"
def lw_P (b : Addr) (xs : List Int32) (args : Array Value) (s : State) : Prop := args = #[.ref b] ∧ s.IntsAt b xs ∧ xs.length ≤ 3072 ∧ (Jvm.Cond.and given_1 narrow_1).before args s = true
def lw_Q (_ : Array Value) (s : State) (o : Outcome) (t : State) : Prop := o = .returned (some (.int 1)) ∧ Framed s o t [] 600000 7302250
def lw_Z (below : List Frame) (a : Array Value) (s : State) : State → Prop := fun t => ∃ o, t.status = .running ∧ Ended t below o ∧ lw_Q a s o t
/-- the law's own end, with 1 on the stack, nothing written that was there before, its room as the claim has it -/
theorem lw_ret {p : Program} {l : Launch} {e : Env} {s : State} {m : MethodId} {below : List Frame} {meth : Method} {c : Code} {b : Nat} (hx : p.tables.exec = Jvm.exec) (hb : c.code = code) (hr : meth.sig.returnType = ret) (hlocks : meth.locks = false) {pc : Nat} {H : Heap} {ls : Array Slot} (hdg : decode code pc = .ok (.ireturn, 1)) : W p l e room_1 s m #[Value.ref b] below meth c H [] 600000 7302250 (lw_Z below #[Value.ref b] s) (F0 m pc ls [.int 1]) := by
  intro T hT X
  obtain ⟨fs, hret, hrun, hended, hW, hframe⟩ := X.leave (v := some (.int 1)) (hlocks := hlocks) (fun h => by rw [hr] at h; cases h)
  have hmeth' : T.vm.method? m = some meth := X.method'
  refine ⟨T.setFrames fs, ?_, .returned (some (.int 1)), hrun, hended, rfl, ⟨_, rfl⟩, hW, hframe⟩
  jvm_step X.here [X.here.top, hx, hb, hdg, hmeth', hr, ret, narrow_b1]
  (try refine ⟨rfl, ?_⟩); (try refine ⟨rfl, ?_⟩)
  first | (intro acts; rw [hret _ acts rfl rfl rfl]) | rw [hret _ _ rfl rfl rfl]
  exact Steps.refl _
/-- what holds at the law's entry: the machine, the code, the tables' words (any of lw_tbl by 'hts w (by decide +kernel)'), the script of L ints xs at the cell b, what the Statement gives of the start (any of its parts by flat_of_before) -/
def lw_At (p : Program) (s : State) (m : MethodId) (meth : Method) (c : Code) (b L : Nat) (xs : Nat → Int32) : Prop :=
  p.tables.exec = Jvm.exec ∧ c.code = code ∧ meth.sig.returnType = ret ∧ c.maxLocals = 4 ∧ s.vm.findClass R_law = some m.cls ∧ (∀ w ∈ lw_tbl, w.before #[Value.ref b] s = true) ∧ va_X b L xs s s.heap ∧ b < s.heap.size ∧ meth.locks = false ∧ (Jvm.Cond.and given_1 narrow_1).before #[Value.ref b] s = true
def APT (W1 W2 : va_W) : Prop := ∀ (i j : Nat) (p q : Nat × va_E), W1[i]? = some p → W2[j]? = some q → p.1 ≠ q.1
theorem APT.sy {W1 W2 : va_W} (h : APT W1 W2) : APT W2 W1 := fun i j p q h1 h2 e => h j i q p h2 h1 e.symm
theorem APT.step {D : va_G} {cl : List vw_C} {W1 W1' W2 : va_W} {H H1 : Heap} (hap : APT W1 W2) (hP2 : va_P D cl W2 H) (hk : ∀ q : Nat, q < H.size → ¬ va_A W1 H.size q → H1[q]? = H[q]?) (hD1 : va_D (va_A W1 H.size) W1') : va_P D cl W2 H1 ∧ APT W1' W2 := by
  refine ⟨hP2.kept (fun k q hq => hk q.1 ((hP2 k q hq).lt) (fun z => ?_)), fun i j p q h1 h2 e => ?_⟩
  · rcases z with ⟨i, e, hi⟩ | z
    · exact hap i k _ q hi hq rfl
    · exact absurd ((hP2 k q hq).lt) (Nat.not_lt.mpr z)
  · rcases hD1.2 i p h1 with ⟨i2, e2, hi⟩ | z
    · exact hap i2 j _ q hi h2 e
    · rw [e] at z
      exact absurd ((hP2 j q h2).lt) (Nat.not_lt.mpr z)
/-- the class's side: its book, with x1 houses and x3 partners, and its pool, of which P holds -/
def XSg (cy : Nat → ClassId) (xa x1 x3 : Nat) (P : Nat → Nat → Nat → Nat → Nat → Int32 → Int32 → Int32 → Kp → List Nat → Hp → Prop) (W : va_W) : Prop := ∃ (x0 : Nat) (x2 : Nat) (x4 : Nat) (x5 : Nat) (x6 : Nat) (x7 : Int32) (x8 : Nat) (x9 : Int32) (x10 : Int32) (K : Kp) (L : List Nat) (M : Hp), W = [(xa, (b11_1 x0 (nI x1) x2 (nI x3) x4 x5 x6 x7 x8 x9 x10))] ++ va_pl L M ∧ isk K L x0 17 8 ∧ x1 ≤ 8 ∧ isk K L x2 19 40 ∧ x3 ≤ 40 ∧ isk K L x4 7 0 ∧ isk K L x5 5 0 ∧ isk K L x6 60 24 ∧ isk K L x8 73 25 ∧ WOK cy K L M ∧ P x0 x2 x5 x6 x8 x7 x9 x10 K L M
theorem XSg.imp {cy : Nat → ClassId} {xa x1 x3 : Nat} {P Q : Nat → Nat → Nat → Nat → Nat → Int32 → Int32 → Int32 → Kp → List Nat → Hp → Prop} {W : va_W} (h : XSg cy xa x1 x3 P W) (hq : ∀ x0 x2 x5 x6 x8 x7 x9 x10 K L M, P x0 x2 x5 x6 x8 x7 x9 x10 K L M → Q x0 x2 x5 x6 x8 x7 x9 x10 K L M) : XSg cy xa x1 x3 Q W := by
  obtain ⟨x0, x2, x4, x5, x6, x7, x8, x9, x10, K, L, M, e, i0, b1, i2, b3, i4, i5, i6, i8, hW, h9⟩ := h
  exact ⟨x0, x2, x4, x5, x6, x7, x8, x9, x10, K, L, M, e, i0, b1, i2, b3, i4, i5, i6, i8, hW, hq _ _ _ _ _ _ _ _ _ _ _ h9⟩
/-- the class's houses and partners are as S -/
def PS (n n3 : Nat) (T : Int) (PK PT : Nat → Int32) (SX : Nat → Nat → Int) (SY : Nat → Nat → Nat → Int32) (WH : Int32) (CA : Nat → Int32) : Nat → Nat → Nat → Nat → Nat → Int32 → Int32 → Int32 → Kp → List Nat → Hp → Prop := fun x0 x2 x5 x6 x8 x7 x9 x10 K L M => (∃ Bo, CX Bo K L x0 n T n3 PK PT SX SY M) ∧ PX x0 n x2 n3 PK PT M ∧ x10 = WH ∧ RGC M x5 CA ∧ SCX x0 n SX M
/-- the reference's side -/
def ZS (cy : Nat → ClassId) (za z2 z3 : Nat) (PK PT : Nat → Int32) (SX : Nat → Nat → Int) (SY : Nat → Nat → Nat → Int32) (WH : Int32) (CA : Nat → Int32) (W : va_W) : Prop := ∃ (z0 : Int32) (z1 : Nat) (z4 : Int32) (z5 : Int32) (z6 : Nat) (z7 : Nat) (z8 : Nat) (z9 : Nat) (z10 : Nat) (z11 : Nat) (z12 : Nat) (z13 : Nat) (z14 : Nat) (z15 : Nat) (z16 : Nat) (z17 : Nat) (z18 : Int32) (z19 : Nat) (K : Kp) (L : List Nat) (M : Hp), W = [(za, (b13_0 z0 z1 (nI z2) (nI z3) z4 z5 z6 z7 z8 z9 (nI z10) z11 z12 z13 z14 z15 (nI z16) z17 z18 z19))] ++ va_pl L M ∧ isk K L z1 23 8 ∧ z2 ≤ 8 ∧ z3 ≤ 40 ∧ isk K L z6 47 40 ∧ isk K L z7 48 40 ∧ isk K L z8 49 8 ∧ isk K L z9 50 8 ∧ z10 ≤ 8 ∧ isk K L z11 32 24 ∧ isk K L z12 14 24 ∧ isk K L z13 97 24 ∧ isk K L z14 98 24 ∧ isk K L z15 99 24 ∧ z16 ≤ 24 ∧ isk K L z17 14 24 ∧ isk K L z19 15 25 ∧ WOM cy K L M ∧ GI K L z1 z2 M ∧ R5 z6 z7 M ∧ ZP z6 z7 PK PT M ∧ ZSx z1 z2 SX SY M ∧ z5 = WH ∧ ZGC M z8 z10 CA ∧ TNN z2 SX SY
theorem ZS.svhi {cy : Nat → ClassId} {za z2 z3 : Nat} {PK PT : Nat → Int32} {SX : Nat → Nat → Int} {SY : Nat → Nat → Nat → Int32} {WH : Int32} {CA : Nat → Int32} {W : va_W} (h : ZS cy za z2 z3 PK PT SX SY WH CA W) : (∀ k, k < z2 → SV (SX k) (SY k)) ∧ (∀ k, k < z2 → HI (SX k) (SY k)) ∧ TNN z2 SX SY := by
  obtain ⟨z0, z1, z4, z5, z6, z7, z8, z9, z10, z11, z12, z13, z14, z15, z16, z17, z18, z19, K, L, M, e, i1, b2, b3, i6, i7, i8, i9, b10, i11, i12, i13, i14, i15, b16, i17, i19, hW, hGI, hR5, hZP, hZS, hWH, hZG, hTN⟩ := h
  obtain ⟨f, h1, h2⟩ := hW.open_23 i1
  have g : ∀ k, k < z2 → ∃ a, RFc (M z1) k = some a ∧ isk K L a 12 0 := fun k hk => by
    obtain ⟨a, e1, e2⟩ := h2 k (by omega)
    exact ⟨a, by rw [h1]; exact e1, e2⟩
  refine ⟨fun k hk => ?_, fun k hk => ?_, hTN⟩
  · obtain ⟨a, e1, e2⟩ := g k hk
    have q := hZS k a hk e1
    have w := SVof hW e2
    rw [q.1, q.2] at w
    exact w
  · obtain ⟨a, e1, e2⟩ := g k hk
    have q := hZS k a hk e1
    have w := hGI.2.1 k a hk e1
    rw [q.1, q.2] at w
    exact w
def LSt (D : va_G) (cy : Nat → ClassId) (A : Nat → Prop) (xa za j : Nat) (H : Heap) : Prop := ∃ (n n3 : Nat) (T : Int) (PK PT : Nat → Int32) (SX : Nat → Nat → Int) (SY : Nat → Nat → Nat → Int32) (WH : Int32) (CA : Nat → Int32) (W1 W2 : va_W), (0 ≤ T ∧ T ≤ (j : Int)) ∧ XSg cy xa n n3 (PS n n3 T PK PT SX SY WH CA) W1 ∧ ZS cy za n n3 PK PT SX SY WH CA W2 ∧ va_P D vwCl W1 H ∧ va_P D vwCl W2 H ∧ va_D A W1 ∧ va_D A W2 ∧ APT W1 W2
theorem LSt.nxt {D : va_G} {cy : Nat → ClassId} {A : Nat → Prop} {xa za j : Nat} {H : Heap} (h : LSt D cy A xa za j H) : LSt D cy A xa za (j + 1) H := by
  obtain ⟨n, n3, T, PK, PT, SX, SY, WH, CA, W1, W2, hT, h⟩ := h
  exact ⟨n, n3, T, PK, PT, SX, SY, WH, CA, W1, W2, ⟨hT.1, by omega⟩, h⟩
theorem cntH_le {k : Int32} {n : Nat} (h : n ≤ 8) : cntH k n ≤ 8 := by
  unfold cntH
  split
  · exact h
  · split
    · split
      · exact h
      · omega
    · exact h
