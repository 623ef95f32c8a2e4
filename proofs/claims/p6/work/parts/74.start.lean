theorem dL_law_0 : decode cL_law 0 = .ok (.new 7, 3) := by decide +kernel
theorem dL_law_3 : decode cL_law 3 = .ok (.dup, 1) := by decide +kernel
theorem dL_law_4 : decode cL_law 4 = .ok (.invokespecial 9, 3) := by decide +kernel
theorem dL_law_7 : decode cL_law 7 = .ok (.astore_n 1, 1) := by decide +kernel
theorem dL_law_8 : decode cL_law 8 = .ok (.new 10, 3) := by decide +kernel
theorem dL_law_11 : decode cL_law 11 = .ok (.dup, 1) := by decide +kernel
theorem dL_law_12 : decode cL_law 12 = .ok (.invokespecial 12, 3) := by decide +kernel
theorem dL_law_15 : decode cL_law 15 = .ok (.astore_n 2, 1) := by decide +kernel
theorem dL_law_16 : decode cL_law 16 = .ok (.iconst 0, 1) := by decide +kernel
theorem dL_law_17 : decode cL_law 17 = .ok (.istore_n 3, 1) := by decide +kernel
theorem wd_1228 : Cond.instantiable RX11 11 ∈ lw_good := mem_t1 19 (by decide +kernel) rfl
theorem wd_1229 : Cond.instantiable RX13 20 ∈ lw_good := mem_t5 93 (by decide +kernel) rfl
theorem wd_1230 : Cond.classLink RL 7 RX11 ∈ lw_good := mem_t1 18 (by decide +kernel) rfl
theorem wd_1231 : Cond.code yX11_init cX11_init 1 none ∈ lw_good := mem_t1 22 rfl rfl
theorem wd_1232 : Cond.methodLink RL 9 yX11_init ∈ lw_good := mem_t1 20 (by decide +kernel) rfl
theorem wd_1233 : Cond.instanceMethod yX11_init ∈ lw_good := mem_t1 21 (by decide +kernel) rfl
theorem wd_1234 : Cond.classLink RL 10 RX13 ∈ lw_good := mem_t5 92 (by decide +kernel) rfl
theorem wd_1235 : Cond.code yX13_init cX13_init 1 none ∈ lw_good := mem_t5 96 rfl rfl
theorem wd_1236 : Cond.methodLink RL 12 yX13_init ∈ lw_good := mem_t5 94 (by decide +kernel) rfl
theorem wd_1237 : Cond.instanceMethod yX13_init ∈ lw_good := mem_t5 95 (by decide +kernel) rfl
theorem OC.none {B : Nat → Nat × Nat} {K : Kp} {L : List Nat} {M : Hp} (h : ∀ a, ¬ isk K L a 2 0) : OC B K L M := ⟨fun a ha => absurd ha (h a), fun a ha => absurd ha (h a), fun a ha => absurd ha (h a), fun a ha => absurd ha (h a), fun a ha => absurd ha (h a), fun a ha => absurd ha (h a), fun a ha => absurd ha (h a), fun a ha => absurd ha (h a), fun a ha => absurd ha (h a), fun a ha => absurd ha (h a), fun a ha => absurd ha (h a), fun a ha => absurd ha (h a)⟩
theorem noK {K : Kp} {L : List Nat} {M : Hp} {B : List ((Nat × va_E) × (Nat × Nat))} (hB : ∀ x, x ∈ B → isk K L x.1.1 x.2.1 x.2.2 ∧ M x.1.1 = x.1.2 ∧ x.1.1 ∉ ([] : List Nat)) (hn : ∀ a, a ∈ L → a ∈ ([] : List Nat) ∨ ∃ x, x ∈ B ∧ a = x.1.1) {t : Nat} (ht : ∀ x, x ∈ B → x.2.1 ≠ t) (a : Nat) : ¬ isk K L a t 0 := fun ha => by
  rcases hn a ha.1 with q | ⟨x, g1, g2⟩
  · cases q
  · have g3 := (hB x g1).1
    rw [← g2] at g3
    exact ht x g1 (g3.un ha)
theorem vaP_l {D : va_G} {cl : List vw_C} {w1 w2 : va_W} {H : Heap} (h : va_P D cl (w1 ++ w2) H) : va_P D cl w1 H := fun k q hq => h k q (by rw [List.getElem?_append_left (List.getElem?_eq_some_iff.mp hq).1]; exact hq)
theorem vaP_r {D : va_G} {cl : List vw_C} {w1 w2 : va_W} {H : Heap} (h : va_P D cl (w1 ++ w2) H) : va_P D cl w2 H := fun k q hq => h (w1.length + k) q (by rw [List.getElem?_append_right (by omega), show w1.length + k - w1.length = k from by omega]; exact hq)
theorem vaD_l {A : Nat → Prop} {w1 w2 : va_W} (h : va_D A (w1 ++ w2)) : va_D A w1 := by
  have e : ∀ (k : Nat) (q : Nat × va_E), w1[k]? = some q → (w1 ++ w2)[k]? = some q := fun k q hq => by rw [List.getElem?_append_left (List.getElem?_eq_some_iff.mp hq).1]; exact hq
  exact ⟨fun i j p q h1 h2 z => h.1 i j p q (e i p h1) (e j q h2) z, fun k q hq => h.2 k q (e k q hq)⟩
theorem vaD_r {A : Nat → Prop} {w1 w2 : va_W} (h : va_D A (w1 ++ w2)) : va_D A w2 := by
  have e : ∀ (k : Nat) (q : Nat × va_E), w2[k]? = some q → (w1 ++ w2)[w1.length + k]? = some q := fun k q hq => by rw [List.getElem?_append_right (by omega), show w1.length + k - w1.length = k from by omega]; exact hq
  exact ⟨fun i j p q h1 h2 z => by have := h.1 _ _ p q (e i p h1) (e j q h2) z; omega, fun k q hq => h.2 _ q (e k q hq)⟩
theorem APT.of {A : Nat → Prop} {w1 w2 : va_W} (h : va_D A (w1 ++ w2)) : APT w1 w2 := fun i j p q h1 h2 z => by
  have l1 := (List.getElem?_eq_some_iff.mp h1).1
  have e1 : (w1 ++ w2)[i]? = some p := by rw [List.getElem?_append_left l1]; exact h1
  have e2 : (w1 ++ w2)[w1.length + j]? = some q := by rw [List.getElem?_append_right (by omega), show w1.length + j - w1.length = j from by omega]; exact h2
  have := h.1 _ _ p q e1 e2 z
  omega
theorem WOK.ofB {cy : Nat → ClassId} {K' : Kp} {L' : List Nat} {M' : Hp} {B : List ((Nat × va_E) × (Nat × Nat))} (h1 : ∀ x, x ∈ B → isk K' L' x.1.1 x.2.1 x.2.2 ∧ M' x.1.1 = x.1.2 ∧ x.1.1 ∉ ([] : List Nat)) (h3 : ∀ a, a ∈ L' → a ∈ ([] : List Nat) ∨ ∃ x, x ∈ B ∧ a = x.1.1) (hg : ∀ x, x ∈ B → gd cy K' L' x.2 x.1.2) : WOK cy K' L' M' := fun a ha => by
  rcases h3 a ha with q | ⟨x, g1, g2⟩
  · cases q
  · have g := h1 x g1
    rw [g2, g.2.1, g.1.2]
    exact hg x g1
def M00 : Hp := fun _ => .inr (0, [])
def K00 : Kp := fun _ => (0, 0)
theorem arrR {C : String} {s : State} (h : va_AO C s) : ∃ cA : ClassId, ArrOfT s cA (.object C) ∧ va_RA s cA (.object C) := by
  obtain ⟨comp, c, k, h1, h2, h3, h4, h5⟩ := Cond.arrayOver_spec h
  exact ⟨c, fun N z => ⟨(fun k h => by cases h), k, h3, comp, h4⟩, k, comp, h3, h4, h1, h5⟩
theorem stat_of {args : Array Value} {s : State} {A : Nat → Prop} (hgv : (Jvm.Cond.and given_1 narrow_1).before args s = true) (hl : (Cond.laysStatic RX11 "MAX_TERM" "[I").before args s = true) (hi : (Cond.initialized RX11).before args s = true) (hA : ∀ a : Nat, a < s.heap.size → ¬ A a) : STAT A s := by
  have hs := flat_of_before _ hgv
  obtain ⟨t, ht, hT⟩ := va_Tof (tm := Term.static RX11 "MAX_TERM" "[I") (ty := .int) (N := 5) (f := fun j => .int (mtI j)) (A := A) (by decide) (hs _ (by decide +kernel)) (va_eqt (hs _ (by decide +kernel))) (fun j hj => match j, hj with
    | 0, _ => va_eqt (hs _ (by decide +kernel))
    | 1, _ => va_eqt (hs _ (by decide +kernel))
    | 2, _ => va_eqt (hs _ (by decide +kernel))
    | 3, _ => va_eqt (hs _ (by decide +kernel))
    | 4, _ => va_eqt (hs _ (by decide +kernel))
    | n + 5, hj => absurd hj (by omega)) hA
  exact ⟨t, va_Zof hl hi ht hA, hT⟩
theorem arrP_int {args : Array Value} {s : State} (h : (Cond.arrayClass .int).before args s = true) : ∃ cA : ClassId, ArrOfT s cA .int ∧ va_RA s cA .int := by
  obtain ⟨cA, kA, comp, h1, h2, h3⟩ := Cond.arrayClass_spec h
  exact ⟨cA, fun n z => ⟨fun k h => (by cases h), kA, h2, comp, h3⟩, h1⟩
theorem arrP_long {args : Array Value} {s : State} (h : (Cond.arrayClass .long).before args s = true) : ∃ cA : ClassId, ArrOfT s cA .long ∧ va_RA s cA .long := by
  obtain ⟨cA, kA, comp, h1, h2, h3⟩ := Cond.arrayClass_spec h
  exact ⟨cA, fun n z => ⟨fun k h => (by cases h), kA, h2, comp, h3⟩, h1⟩
theorem arrP_boolean {args : Array Value} {s : State} (h : (Cond.arrayClass .boolean).before args s = true) : ∃ cA : ClassId, ArrOfT s cA .boolean ∧ va_RA s cA .boolean := by
  obtain ⟨cA, kA, comp, h1, h2, h3⟩ := Cond.arrayClass_spec h
  exact ⟨cA, fun n z => ⟨fun k h => (by cases h), kA, h2, comp, h3⟩, h1⟩
theorem nw_of {s : State} {args : Array Value} : ∀ w : Cond, nwOk w = true → w.before args s = true → va_Nw w s := fun w h hz => match w, h, hz with
  | .fieldLinkNest _ _ _ _ _ _, _, hz => va_Nw.of rfl hz
  | .methodLinkNest _ _ _ _, _, hz => va_Nw.of rfl hz
  | .arrayOver (.object _), _, hz => va_AO.of hz
theorem mem_n1 {w : Cond} (i : Nat) (h : tables_1_1[i]? = some w) : w ∈ lw_tbl := List.mem_append_right _ (show w ∈ tables_1 from List.mem_append_left _ (List.mem_of_getElem? h))
theorem mem_n2 {w : Cond} (i : Nat) (h : tables_1_2[i]? = some w) : w ∈ lw_tbl := List.mem_append_right _ (show w ∈ tables_1 from List.mem_append_right _ (List.mem_append_left _ (List.mem_of_getElem? h)))
theorem mem_n3 {w : Cond} (i : Nat) (h : tables_1_3[i]? = some w) : w ∈ lw_tbl := List.mem_append_right _ (show w ∈ tables_1 from List.mem_append_right _ (List.mem_append_right _ (List.mem_append_left _ (List.mem_of_getElem? h))))
theorem mem_n4 {w : Cond} (i : Nat) (h : tables_1_4[i]? = some w) : w ∈ lw_tbl := List.mem_append_right _ (show w ∈ tables_1 from List.mem_append_right _ (List.mem_append_right _ (List.mem_append_right _ (List.mem_append_left _ (List.mem_of_getElem? h)))))
theorem mem_n5 {w : Cond} (i : Nat) (h : tables_1_5[i]? = some w) : w ∈ lw_tbl := List.mem_append_right _ (show w ∈ tables_1 from List.mem_append_right _ (List.mem_append_right _ (List.mem_append_right _ (List.mem_append_right _ (List.mem_append_left _ (List.mem_of_getElem? h))))))
set_option maxRecDepth 20000 in
theorem nest_in : ∀ w ∈ nestWs, w ∈ lw_tbl := List.forall_mem_cons.mpr ⟨mem_n1 32 (by decide +kernel), List.forall_mem_cons.mpr ⟨mem_n1 65 (by decide +kernel), List.forall_mem_cons.mpr ⟨mem_n1 167 (by decide +kernel), List.forall_mem_cons.mpr ⟨mem_n2 109 (by decide +kernel), List.forall_mem_cons.mpr ⟨mem_n2 139 (by decide +kernel), List.forall_mem_cons.mpr ⟨mem_n4 18 (by decide +kernel), List.forall_mem_cons.mpr ⟨mem_n4 160 (by decide +kernel), List.forall_mem_cons.mpr ⟨mem_n4 180 (by decide +kernel), List.forall_mem_cons.mpr ⟨mem_n5 101 (by decide +kernel), List.forall_mem_cons.mpr ⟨mem_n5 105 (by decide +kernel), List.forall_mem_cons.mpr ⟨mem_n5 107 (by decide +kernel), List.forall_mem_cons.mpr ⟨mem_n5 109 (by decide +kernel), List.forall_mem_cons.mpr ⟨mem_n5 111 (by decide +kernel), List.forall_mem_cons.mpr ⟨mem_n5 113 (by decide +kernel), List.forall_mem_cons.mpr ⟨mem_n5 115 (by decide +kernel), List.forall_mem_cons.mpr ⟨mem_n5 117 (by decide +kernel), List.forall_mem_cons.mpr ⟨mem_n5 118 (by decide +kernel), List.forall_mem_cons.mpr ⟨mem_n5 119 (by decide +kernel), List.forall_mem_cons.mpr ⟨mem_n5 121 (by decide +kernel), List.forall_mem_cons.mpr ⟨mem_n5 122 (by decide +kernel), List.forall_mem_cons.mpr ⟨mem_n5 124 (by decide +kernel), List.forall_mem_cons.mpr ⟨mem_n5 125 (by decide +kernel), List.forall_mem_cons.mpr ⟨mem_n5 126 (by decide +kernel), List.forall_mem_cons.mpr ⟨mem_n5 127 (by decide +kernel), List.forall_mem_cons.mpr ⟨mem_n5 128 (by decide +kernel), List.forall_mem_cons.mpr ⟨mem_n5 130 (by decide +kernel), List.forall_mem_cons.mpr ⟨mem_n5 131 (by decide +kernel), List.forall_mem_cons.mpr ⟨mem_n5 132 (by decide +kernel), List.forall_mem_cons.mpr ⟨mem_n5 134 (by decide +kernel), List.forall_mem_cons.mpr ⟨mem_n5 136 (by decide +kernel), List.forall_mem_cons.mpr ⟨mem_n5 138 (by decide +kernel), List.forall_mem_cons.mpr ⟨mem_n5 140 (by decide +kernel), List.forall_mem_cons.mpr ⟨mem_n5 142 (by decide +kernel), List.forall_mem_cons.mpr ⟨mem_n5 144 (by decide +kernel), List.forall_mem_cons.mpr ⟨mem_n5 146 (by decide +kernel), List.forall_mem_cons.mpr ⟨mem_n5 148 (by decide +kernel), List.forall_mem_cons.mpr ⟨mem_n5 150 (by decide +kernel), List.forall_mem_cons.mpr ⟨mem_n5 152 (by decide +kernel), List.forall_mem_cons.mpr ⟨mem_n5 154 (by decide +kernel), List.forall_mem_cons.mpr ⟨mem_n5 156 (by decide +kernel), List.forall_mem_cons.mpr ⟨mem_n5 158 (by decide +kernel), List.forall_mem_cons.mpr ⟨mem_n5 160 (by decide +kernel), List.forall_mem_cons.mpr ⟨mem_n5 162 (by decide +kernel), List.forall_mem_cons.mpr ⟨mem_n5 164 (by decide +kernel), List.forall_mem_cons.mpr ⟨mem_n5 166 (by decide +kernel), List.forall_mem_cons.mpr ⟨mem_n5 168 (by decide +kernel), List.forall_mem_cons.mpr ⟨mem_n5 170 (by decide +kernel), List.forall_mem_cons.mpr ⟨mem_n5 172 (by decide +kernel), List.forall_mem_cons.mpr ⟨mem_n5 174 (by decide +kernel), List.forall_mem_cons.mpr ⟨mem_n5 176 (by decide +kernel), List.forall_mem_cons.mpr ⟨mem_n5 178 (by decide +kernel), List.forall_mem_cons.mpr ⟨mem_n5 180 (by decide +kernel), List.forall_mem_cons.mpr ⟨mem_n5 182 (by decide +kernel), List.forall_mem_cons.mpr ⟨mem_n5 184 (by decide +kernel), List.forall_mem_cons.mpr ⟨mem_n5 186 (by decide +kernel), List.forall_mem_cons.mpr ⟨mem_n5 188 (by decide +kernel), List.forall_mem_cons.mpr ⟨mem_n5 190 (by decide +kernel), List.forall_mem_cons.mpr ⟨mem_n5 192 (by decide +kernel), List.forall_mem_cons.mpr ⟨mem_n5 194 (by decide +kernel), List.forall_mem_cons.mpr ⟨mem_n5 196 (by decide +kernel), List.forall_mem_cons.mpr ⟨mem_n1 27 (by decide +kernel), List.forall_mem_cons.mpr ⟨mem_n1 29 (by decide +kernel), List.forall_mem_cons.mpr ⟨mem_n1 37 (by decide +kernel), List.forall_mem_cons.mpr ⟨mem_n1 133 (by decide +kernel), List.forall_mem_cons.mpr ⟨mem_n1 135 (by decide +kernel), List.forall_mem_cons.mpr ⟨mem_n1 189 (by decide +kernel), List.forall_mem_cons.mpr ⟨mem_n5 99 (by decide +kernel), fun _ h => absurd h List.not_mem_nil⟩⟩⟩⟩⟩⟩⟩⟩⟩⟩⟩⟩⟩⟩⟩⟩⟩⟩⟩⟩⟩⟩⟩⟩⟩⟩⟩⟩⟩⟩⟩⟩⟩⟩⟩⟩⟩⟩⟩⟩⟩⟩⟩⟩⟩⟩⟩⟩⟩⟩⟩⟩⟩⟩⟩⟩⟩⟩⟩⟩⟩⟩⟩⟩⟩⟩⟩
set_option maxHeartbeats 4000000 in
set_option maxRecDepth 100000 in
/-- the law, from its entry, for every script of at most 3072 ints -/
theorem whole_start {p : Program} {e : Env} {s : State} {m : MethodId} {below : List Frame} {meth : Method} {c : Code} (l : Launch) (hflags : l.flags = flags0) {b L : Nat} {xs : Nat → Int32} (hL : L ≤ 3072) (C0 : lw_At p s m meth c b L xs) : W p l e room_1 s m #[Value.ref b] below meth c s.heap [] 0 0 (lw_Z below #[Value.ref b] s) (entryFrame m ([Value.ref b] : List Value).toArray 4) := by
  obtain ⟨hx, hb, hr, hml, hown, hts, hX, hbl, hlocks, hgv⟩ := id C0
  have hg : ∀ w ∈ lw_good, w.before #[Value.ref b] s = true := fun w h => hts w (List.mem_filter.mp h).1
  have hown : s.vm.findClass RL = some m.cls := hown
  obtain ⟨cc0, iS0, hKn0⟩ := u_known (C := RX0) (T := TX0) (N := 5) (n := 5) hg inG0 (hg _ wd_612)
  obtain ⟨cc1, iS1, hKn1⟩ := u_known (C := RX1) (T := TX1) (N := 4) (n := 4) hg inG1 (hg _ wd_602)
  obtain ⟨cc2, iS2, hKn2⟩ := u_known (C := RX2) (T := TX2) (N := 20) (n := 20) hg inG2 (hg _ wd_617)
  obtain ⟨cc3, iS3, hKn3⟩ := u_known (C := RX3) (T := TX3) (N := 3) (n := 3) hg inG3 (hg _ wd_593)
  obtain ⟨cc4, iS4, hKn4⟩ := u_known (C := RX4) (T := TX4) (N := 4) (n := 4) hg inG4 (hg _ wd_588)
  obtain ⟨cc5, iS5, hKn5⟩ := u_known (C := RX5) (T := TX5) (N := 3) (n := 3) hg inG5 (hg _ wd_697)
  obtain ⟨cc6, iS6, hKn6⟩ := u_known (C := RX6) (T := TX6) (N := 3) (n := 3) hg inG6 (hg _ wd_581)
  obtain ⟨cc7, iS7, hKn7⟩ := u_known (C := RX7) (T := TX7) (N := 6) (n := 6) hg inG7 (hg _ wd_693)
  obtain ⟨cc8, iS8, hKn8⟩ := u_known (C := RX8) (T := TX8) (N := 6) (n := 6) hg inG8 (hg _ wd_621)
  obtain ⟨cc9, iS9, hKn9⟩ := u_known (C := RX9) (T := TX9) (N := 16) (n := 16) hg inG9 (hg _ wd_543)
  obtain ⟨cc10, iS10, hKn10⟩ := u_known (C := RX10) (T := TX10) (N := 3) (n := 3) hg inG10 (hg _ wd_607)
  obtain ⟨cc11, iS11, hKn11⟩ := u_known (C := RX11) (T := TX11) (N := 11) (n := 11) hg inG11 (hg _ wd_1228)
  obtain ⟨cc12, iS12, hKn12⟩ := u_known (C := RX12) (T := TX12) (N := 51) (n := 51) hg inG12 (hg _ wd_928)
  obtain ⟨cc13, iS13, hKn13⟩ := u_known (C := RX13) (T := TX13) (N := 20) (n := 20) hg inG13 (hg _ wd_1229)
  obtain ⟨D, hKc⟩ : ∃ D : va_G, ∀ (k : Nat) (q : vw_C), vwCl[k]? = some q → u_Kn s q.1 q.2.1 q.2.2 (D.1 k) (D.2 k) := by
    refine ⟨(fun k => match k with | 0 => cc0 | 1 => cc1 | 2 => cc2 | 3 => cc3 | 4 => cc4 | 5 => cc5 | 6 => cc6 | 7 => cc7 | 8 => cc8 | 9 => cc9 | 10 => cc10 | 11 => cc11 | 12 => cc12 | 13 => cc13 | _ => cc0, fun k => match k with | 0 => iS0 | 1 => iS1 | 2 => iS2 | 3 => iS3 | 4 => iS4 | 5 => iS5 | 6 => iS6 | 7 => iS7 | 8 => iS8 | 9 => iS9 | 10 => iS10 | 11 => iS11 | 12 => iS12 | 13 => iS13 | _ => iS0), ?_⟩
    intro k q hq
    match k, hq with
    | 0, hq => cases hq; exact hKn0
    | 1, hq => cases hq; exact hKn1
    | 2, hq => cases hq; exact hKn2
    | 3, hq => cases hq; exact hKn3
    | 4, hq => cases hq; exact hKn4
    | 5, hq => cases hq; exact hKn5
    | 6, hq => cases hq; exact hKn6
    | 7, hq => cases hq; exact hKn7
    | 8, hq => cases hq; exact hKn8
    | 9, hq => cases hq; exact hKn9
    | 10, hq => cases hq; exact hKn10
    | 11, hq => cases hq; exact hKn11
    | 12, hq => cases hq; exact hKn12
    | 13, hq => cases hq; exact hKn13
    | k + 14, hq => simp [vwCl] at hq
  have hN : NW s := fun w hw => nw_of w (List.all_eq_true.mp nestWs_ok w hw) (hts w (nest_in w hw))
  obtain ⟨A, hAd⟩ : ∃ A : Nat → Prop, A = fun q => s.heap.size ≤ q := ⟨_, rfl⟩
  have hA : ∀ q, s.heap.size ≤ q → A q := fun q h => by rw [hAd]; exact h
  have hA2 : ∀ q, A q → s.heap.size ≤ q := fun q h => by rw [hAd] at h; exact h
  have hbA : ¬ A b := fun h => absurd (hA2 b h) (Nat.not_le.mpr hbl)
  have hS : va_S A s.heap s.heap [] := va_S.rf
  obtain ⟨ca14, hca14⟩ := arrP_int (hg _ wd_531)
  obtain ⟨ca15, hca15⟩ := arrP_long (hg _ wd_527)
  obtain ⟨ca16, hca16⟩ := arrP_boolean (hg _ wd_904)
  obtain ⟨ca17, hca17⟩ := arrR (hN.ao RX2 60 rfl)
  obtain ⟨ca18, hca18⟩ := arrR (hN.ao RX3 64 rfl)
  obtain ⟨ca19, hca19⟩ := arrR (hN.ao RX4 61 rfl)
  obtain ⟨ca20, hca20⟩ := arrR (hN.ao RX6 63 rfl)
  obtain ⟨ca21, hca21⟩ := arrR (hN.ao RX8 65 rfl)
  obtain ⟨ca22, hca22⟩ := arrR (hN.ao RX9 62 rfl)
  obtain ⟨ca23, hca23⟩ := arrR (hN.ao RX12 66 rfl)
  obtain ⟨cy, hcy⟩ : ∃ cy : Nat → ClassId, cy 14 = ca14 ∧ cy 15 = ca15 ∧ cy 16 = ca16 ∧ cy 17 = ca17 ∧ cy 18 = ca18 ∧ cy 19 = ca19 ∧ cy 20 = ca20 ∧ cy 21 = ca21 ∧ cy 22 = ca22 ∧ cy 23 = ca23 := ⟨fun t => match t with | 14 => ca14 | 15 => ca15 | 16 => ca16 | 17 => ca17 | 18 => ca18 | 19 => ca19 | 20 => ca20 | 21 => ca21 | 22 => ca22 | 23 => ca23 | _ => ca14, rfl, rfl, rfl, rfl, rfl, rfl, rfl, rfl, rfl, rfl⟩
  obtain ⟨q14, q15, q16, q17, q18, q19, q20, q21, q22, q23⟩ := hcy
  have hK : va_K D vwCl (tysC cy) s := ⟨hKc, fun k q hq => by
    match k, hq with
    | 0, hq => cases hq; rw [q14]; exact hca14
    | 1, hq => cases hq; rw [q15]; exact hca15
    | 2, hq => cases hq; rw [q16]; exact hca16
    | 3, hq => cases hq; rw [q17]; exact hca17
    | 4, hq => cases hq; rw [q18]; exact hca18
    | 5, hq => cases hq; rw [q19]; exact hca19
    | 6, hq => cases hq; rw [q20]; exact hca20
    | 7, hq => cases hq; rw [q21]; exact hca21
    | 8, hq => cases hq; rw [q22]; exact hca22
    | 9, hq => cases hq; rw [q23]; exact hca23
    | k + 10, hq => simp [tysC] at hq⟩
  have hST : STAT A s := stat_of hgv (hts _ (mem_n3 73 (by decide +kernel))) (hg _ wd_3) (fun a h z => absurd (hA2 a z) (Nat.not_le.mpr h))
  have hP : va_P D vwCl [] s.heap := fun k q h => by simp at h
  have hD : va_D A [] := ⟨fun i j p q h => by simp at h, fun k q h => by simp at h⟩
  have hl := lv_entry ([.ref b]) (n := 4) (Nat.le_of_ble_eq_true rfl)
  rw [lg_entry_eq]
  generalize (lg_sl ([.ref b]) ++ List.replicate (4 - (lg_sl ([.ref b])).length) Slot.unset).toArray = ls at hl ⊢
  have hl : lv_has ls 4 [(0, .ref b)] := hl
  have hK : va_K D vwCl [((cy 14), .int), ((cy 15), .long), ((cy 16), .boolean), ((cy 17), .object RX2), ((cy 18), .object RX3), ((cy 19), .object RX4), ((cy 20), .object RX6), ((cy 21), .object RX8), ((cy 22), .object RX9), ((cy 23), .object RX12)] s := hK
  refine va_new (ci := 11) (fs := [.null, .int 0, .null, .int 0, .null, .null, .null, .int 0, .null, .int 0, .int 0]) (C := RX11) (T := TX11) (N := 11) hx hb hg inG11 tyX11 tyX11_ok hown (hg _ wd_1230) (hg _ wd_1228) (hg _ wd_3) hK hP hD hS hA rfl dfX11 (Nat.le_of_ble_eq_true rfl) (Nat.le_of_ble_eq_true rfl) dL_law_0 (fun q_1 H_2 hP hD hS => ?_)
  have hP : va_P D vwCl [(q_1, .inr (11, [.null, .int 0, .null, .int 0, .null, .null, .null, .int 0, .null, .int 0, .int 0]))] H_2 := hP
  have hD : va_D A [(q_1, .inr (11, [.null, .int 0, .null, .int 0, .null, .null, .null, .int 0, .null, .int 0, .int 0]))] := hD
  refine W.widen (k := 1) (n := 11) (Nat.le_of_ble_eq_true rfl) (Nat.le_of_ble_eq_true rfl) ?_
  refine lv_dup hx hb dL_law_3 rfl ?_
  have hPc := hP.sub (ws' := [(q_1, .inr (11, [.null, .int 0, .null, .int 0, .null, .null, .null, .int 0, .null, .int 0, .int 0]))]) [0] rfl
  have hDc := hD.sub (ws' := [(q_1, .inr (11, [.null, .int 0, .null, .int 0, .null, .null, .null, .int 0, .null, .int 0, .int 0]))]) [0] (by decide) rfl
  have hKc := hK.sub (tys' := []) [] rfl
  have hFc := va_free (wc := [(q_1, .inr (11, [.null, .int 0, .null, .int 0, .null, .null, .null, .int 0, .null, .int 0, .int 0]))]) hD hS hA [0] rfl
  refine va_callv (va_runI (As := []) (rest := [.ref q_1]) ⟨hx, hb, hml, hown, hg⟩ (k_Book l D H_2.size q_1) (cwI 0 hg (gB wd_1231) rfl rfl rfl (hg _ wd_3) (hg _ wd_1232) (hg _ wd_1233) rfl (by decide +kernel) ⟨(Nat.le_of_ble_eq_true rfl), (Nat.le_of_ble_eq_true rfl)⟩) ⟨Pr.blind, fun U hU hW => ⟨rfl, Pr.at hPc hKc hDc hN hU hW⟩⟩ rfl rfl hl.1 rfl (lv_room (Nat.le_of_ble_eq_true rfl)) dL_law_4 ⟨(Nat.le_of_ble_eq_true rfl), (Nat.le_of_ble_eq_true rfl)⟩) hS (fun q _ h => hFc q h) hFc (fun u t H_3 locs ht hvm hw hB hz1 hk1 hS => ?_)
  obtain ⟨x0_5, x2_6, x4_7, x5_8, x6_9, x8_10, s0_11, s1_12, s2_13, s3_14, s4_15, r0_16, r1_17, d0_18, d2_19, t0_20, t1_21, t2_22, t3_23, t4_24, u0_25, u1_26, d6_27, d8_28, hP1, hK1, hD1⟩ := hB
  rw [ht] at hP1
  have hK1 := va_K.moved hvm.symm hK1
  obtain ⟨hP, hD⟩ := va_join (wr := []) (w1 := [(q_1, (b11_1 x0_5 0 x2_6 0 x4_7 x5_8 x6_9 0 x8_10 0 (-1))), (x0_5, .inl (d0_18, 8, .inr (.inr (.inr (.inr (fun _ => none)))))), (x2_6, .inl (d2_19, 40, .inr (.inr (.inr (.inr (fun _ => none)))))), (x4_7, (b7_8 s0_11 s1_12 s2_13 s3_14 s4_15 0)), (s0_11, .inl (t0_20, 100, .inr (.inr (.inr (.inr (fun _ => none)))))), (s1_12, .inl (t1_21, 100, .inr (.inl (fun _ => 0)))), (s2_13, .inl (t2_22, 100, .inr (.inl (fun _ => 0)))), (s3_14, .inl (t3_23, 100, .inr (.inl (fun _ => 0)))), (s4_15, .inl (t4_24, 100, .inr (.inl (fun _ => 0)))), (x5_8, (b5_14 r0_16 r1_17 0)), (r0_16, .inl (u0_25, 8, .inl (fun _ => 0))), (r1_17, .inl (u1_26, 8, .inl (fun _ => 0))), (x6_9, .inl (d6_27, 24, .inl (fun _ => 0))), (x8_10, .inl (d8_28, 25, .inr (.inl (fun _ => 0))))]) hP hD [0] [] rfl rfl (by decide) (by decide) hk1 hFc hP1 hD1
  have hK := hK.app hK1
  have hK : va_K D vwCl [((cy 14), .int), ((cy 15), .long), ((cy 16), .boolean), ((cy 17), .object RX2), ((cy 18), .object RX3), ((cy 19), .object RX4), ((cy 20), .object RX6), ((cy 21), .object RX8), ((cy 22), .object RX9), ((cy 23), .object RX12), (d0_18, .object RX2), (d2_19, .object RX4), (t0_20, .object RX9), (t1_21, .long), (t2_22, .long), (t3_23, .long), (t4_24, .long), (u0_25, .int), (u1_26, .int), (d6_27, .int), (d8_28, .long)] s := hK
  have hP : va_P D vwCl [(q_1, (b11_1 x0_5 0 x2_6 0 x4_7 x5_8 x6_9 0 x8_10 0 (-1))), (x0_5, .inl (d0_18, 8, .inr (.inr (.inr (.inr (fun _ => none)))))), (x2_6, .inl (d2_19, 40, .inr (.inr (.inr (.inr (fun _ => none)))))), (x4_7, (b7_8 s0_11 s1_12 s2_13 s3_14 s4_15 0)), (s0_11, .inl (t0_20, 100, .inr (.inr (.inr (.inr (fun _ => none)))))), (s1_12, .inl (t1_21, 100, .inr (.inl (fun _ => 0)))), (s2_13, .inl (t2_22, 100, .inr (.inl (fun _ => 0)))), (s3_14, .inl (t3_23, 100, .inr (.inl (fun _ => 0)))), (s4_15, .inl (t4_24, 100, .inr (.inl (fun _ => 0)))), (x5_8, (b5_14 r0_16 r1_17 0)), (r0_16, .inl (u0_25, 8, .inl (fun _ => 0))), (r1_17, .inl (u1_26, 8, .inl (fun _ => 0))), (x6_9, .inl (d6_27, 24, .inl (fun _ => 0))), (x8_10, .inl (d8_28, 25, .inr (.inl (fun _ => 0))))] H_3 := hP
  have hD : va_D A [(q_1, (b11_1 x0_5 0 x2_6 0 x4_7 x5_8 x6_9 0 x8_10 0 (-1))), (x0_5, .inl (d0_18, 8, .inr (.inr (.inr (.inr (fun _ => none)))))), (x2_6, .inl (d2_19, 40, .inr (.inr (.inr (.inr (fun _ => none)))))), (x4_7, (b7_8 s0_11 s1_12 s2_13 s3_14 s4_15 0)), (s0_11, .inl (t0_20, 100, .inr (.inr (.inr (.inr (fun _ => none)))))), (s1_12, .inl (t1_21, 100, .inr (.inl (fun _ => 0)))), (s2_13, .inl (t2_22, 100, .inr (.inl (fun _ => 0)))), (s3_14, .inl (t3_23, 100, .inr (.inl (fun _ => 0)))), (s4_15, .inl (t4_24, 100, .inr (.inl (fun _ => 0)))), (x5_8, (b5_14 r0_16 r1_17 0)), (r0_16, .inl (u0_25, 8, .inl (fun _ => 0))), (r1_17, .inl (u1_26, 8, .inl (fun _ => 0))), (x6_9, .inl (d6_27, 24, .inl (fun _ => 0))), (x8_10, .inl (d8_28, 25, .inr (.inl (fun _ => 0))))] := hD
  refine W.widen (k := 14) (n := 633) (Nat.le_of_ble_eq_true rfl) (Nat.le_of_ble_eq_true rfl) ?_
  refine lv_astore_n (lv' := [(1, .ref q_1), (0, .ref b)]) hx hb dL_law_7 rfl hl (by decide) rfl (fun ls hl => ?_)
  obtain rfl : d0_18 = cy 17 := cls_eq hK 10 3 rfl rfl
  obtain rfl : d2_19 = cy 19 := cls_eq hK 11 5 rfl rfl
  obtain rfl : t0_20 = cy 22 := cls_eq hK 12 8 rfl rfl
  obtain rfl : t1_21 = cy 15 := cls_eq hK 13 1 rfl rfl
  obtain rfl : t2_22 = cy 15 := cls_eq hK 14 1 rfl rfl
  obtain rfl : t3_23 = cy 15 := cls_eq hK 15 1 rfl rfl
  obtain rfl : t4_24 = cy 15 := cls_eq hK 16 1 rfl rfl
  obtain rfl : u0_25 = cy 14 := cls_eq hK 17 0 rfl rfl
  obtain rfl : u1_26 = cy 14 := cls_eq hK 18 0 rfl rfl
  obtain rfl : d6_27 = cy 14 := cls_eq hK 19 0 rfl rfl
  obtain rfl : d8_28 = cy 15 := cls_eq hK 20 1 rfl rfl
  have hK : va_K D vwCl (tysC cy) s := hK.sub (tys' := [((cy 14), .int), ((cy 15), .long), ((cy 16), .boolean), ((cy 17), .object RX2), ((cy 18), .object RX3), ((cy 19), .object RX4), ((cy 20), .object RX6), ((cy 21), .object RX8), ((cy 22), .object RX9), ((cy 23), .object RX12)]) [0, 1, 2, 3, 4, 5, 6, 7, 8, 9] rfl
  have hP : va_P D vwCl (([(q_1, (b11_1 x0_5 0 x2_6 0 x4_7 x5_8 x6_9 0 x8_10 0 (-1)))] ++ ([((x0_5, .inl ((cy 17), 8, .inr (.inr (.inr (.inr (fun _ => none)))))), (17, 8)), ((x2_6, .inl ((cy 19), 40, .inr (.inr (.inr (.inr (fun _ => none)))))), (19, 40)), ((s0_11, .inl ((cy 22), 100, .inr (.inr (.inr (.inr (fun _ => none)))))), (64, 100)), ((zrJ cy 15 s1_12 100), (68, 100)), ((zrJ cy 15 s2_13 100), (69, 100)), ((zrJ cy 15 s3_14 100), (70, 100)), ((zrJ cy 15 s4_15 100), (71, 100)), ((x4_7, (b7_8 s0_11 s1_12 s2_13 s3_14 s4_15 0)), (7, 0)), ((zrI cy 14 r0_16 8), (58, 8)), ((zrI cy 14 r1_17 8), (59, 8)), ((x5_8, (b5_14 r0_16 r1_17 0)), (5, 0)), ((zrI cy 14 x6_9 24), (60, 24)), ((zrJ cy 15 x8_10 25), (73, 25))] : List ((Nat × va_E) × (Nat × Nat))).map Prod.fst) ++ va_pl [] M00) H_3 := hP.sub (ws' := [(q_1, (b11_1 x0_5 0 x2_6 0 x4_7 x5_8 x6_9 0 x8_10 0 (-1))), (x0_5, .inl ((cy 17), 8, .inr (.inr (.inr (.inr (fun _ => none)))))), (x2_6, .inl ((cy 19), 40, .inr (.inr (.inr (.inr (fun _ => none)))))), (s0_11, .inl ((cy 22), 100, .inr (.inr (.inr (.inr (fun _ => none)))))), (zrJ cy 15 s1_12 100), (zrJ cy 15 s2_13 100), (zrJ cy 15 s3_14 100), (zrJ cy 15 s4_15 100), (x4_7, (b7_8 s0_11 s1_12 s2_13 s3_14 s4_15 0)), (zrI cy 14 r0_16 8), (zrI cy 14 r1_17 8), (x5_8, (b5_14 r0_16 r1_17 0)), (zrI cy 14 x6_9 24), (zrJ cy 15 x8_10 25)]) [0, 1, 2, 4, 5, 6, 7, 8, 3, 10, 11, 9, 12, 13] rfl
  have hD : va_D A (([(q_1, (b11_1 x0_5 0 x2_6 0 x4_7 x5_8 x6_9 0 x8_10 0 (-1)))] ++ ([((x0_5, .inl ((cy 17), 8, .inr (.inr (.inr (.inr (fun _ => none)))))), (17, 8)), ((x2_6, .inl ((cy 19), 40, .inr (.inr (.inr (.inr (fun _ => none)))))), (19, 40)), ((s0_11, .inl ((cy 22), 100, .inr (.inr (.inr (.inr (fun _ => none)))))), (64, 100)), ((zrJ cy 15 s1_12 100), (68, 100)), ((zrJ cy 15 s2_13 100), (69, 100)), ((zrJ cy 15 s3_14 100), (70, 100)), ((zrJ cy 15 s4_15 100), (71, 100)), ((x4_7, (b7_8 s0_11 s1_12 s2_13 s3_14 s4_15 0)), (7, 0)), ((zrI cy 14 r0_16 8), (58, 8)), ((zrI cy 14 r1_17 8), (59, 8)), ((x5_8, (b5_14 r0_16 r1_17 0)), (5, 0)), ((zrI cy 14 x6_9 24), (60, 24)), ((zrJ cy 15 x8_10 25), (73, 25))] : List ((Nat × va_E) × (Nat × Nat))).map Prod.fst) ++ va_pl [] M00) := hD.sub (ws' := [(q_1, (b11_1 x0_5 0 x2_6 0 x4_7 x5_8 x6_9 0 x8_10 0 (-1))), (x0_5, .inl ((cy 17), 8, .inr (.inr (.inr (.inr (fun _ => none)))))), (x2_6, .inl ((cy 19), 40, .inr (.inr (.inr (.inr (fun _ => none)))))), (s0_11, .inl ((cy 22), 100, .inr (.inr (.inr (.inr (fun _ => none)))))), (zrJ cy 15 s1_12 100), (zrJ cy 15 s2_13 100), (zrJ cy 15 s3_14 100), (zrJ cy 15 s4_15 100), (x4_7, (b7_8 s0_11 s1_12 s2_13 s3_14 s4_15 0)), (zrI cy 14 r0_16 8), (zrI cy 14 r1_17 8), (x5_8, (b5_14 r0_16 r1_17 0)), (zrI cy 14 x6_9 24), (zrJ cy 15 x8_10 25)]) [0, 1, 2, 4, 5, 6, 7, 8, 3, 10, 11, 9, 12, 13] (by decide) rfl
  obtain ⟨K1, L1, M1, hx1, hB1, hf1, hn1, hP, hD⟩ := adoptB (K := K00) (L := []) (M := M00) ([((x0_5, .inl ((cy 17), 8, .inr (.inr (.inr (.inr (fun _ => none)))))), (17, 8)), ((x2_6, .inl ((cy 19), 40, .inr (.inr (.inr (.inr (fun _ => none)))))), (19, 40)), ((s0_11, .inl ((cy 22), 100, .inr (.inr (.inr (.inr (fun _ => none)))))), (64, 100)), ((zrJ cy 15 s1_12 100), (68, 100)), ((zrJ cy 15 s2_13 100), (69, 100)), ((zrJ cy 15 s3_14 100), (70, 100)), ((zrJ cy 15 s4_15 100), (71, 100)), ((x4_7, (b7_8 s0_11 s1_12 s2_13 s3_14 s4_15 0)), (7, 0)), ((zrI cy 14 r0_16 8), (58, 8)), ((zrI cy 14 r1_17 8), (59, 8)), ((x5_8, (b5_14 r0_16 r1_17 0)), (5, 0)), ((zrI cy 14 x6_9 24), (60, 24)), ((zrJ cy 15 x8_10 25), (73, 25))]) [(q_1, (b11_1 x0_5 0 x2_6 0 x4_7 x5_8 x6_9 0 x8_10 0 (-1)))] hP hD
  have u0 := (hB1 _ (List.mem_of_getElem? (i := 0) rfl)).1
  have u1 := (hB1 _ (List.mem_of_getElem? (i := 1) rfl)).1
  have u2 := (hB1 _ (List.mem_of_getElem? (i := 2) rfl)).1
  have u3 := (hB1 _ (List.mem_of_getElem? (i := 3) rfl)).1
  have u4 := (hB1 _ (List.mem_of_getElem? (i := 4) rfl)).1
  have u5 := (hB1 _ (List.mem_of_getElem? (i := 5) rfl)).1
  have u6 := (hB1 _ (List.mem_of_getElem? (i := 6) rfl)).1
  have u7 := (hB1 _ (List.mem_of_getElem? (i := 7) rfl)).1
  have u8 := (hB1 _ (List.mem_of_getElem? (i := 8) rfl)).1
  have u9 := (hB1 _ (List.mem_of_getElem? (i := 9) rfl)).1
  have u10 := (hB1 _ (List.mem_of_getElem? (i := 10) rfl)).1
  have u11 := (hB1 _ (List.mem_of_getElem? (i := 11) rfl)).1
  have u12 := (hB1 _ (List.mem_of_getElem? (i := 12) rfl)).1
  have hW1 : WOK cy K1 L1 M1 := WOK.ofB hB1 hn1 (mem_ix (fun i x hx => by
    match i, hx with
    | 0, hx => cases hx; exact (show gd_17 cy K1 L1 8 _ from ⟨_, rfl, fun _ _ => iskN.none⟩)
    | 1, hx => cases hx; exact (show gd_19 cy K1 L1 40 _ from ⟨_, rfl, fun _ _ => iskN.none⟩)
    | 2, hx => cases hx; exact (show gd_64 cy K1 L1 100 _ from ⟨_, rfl, fun _ _ => iskN.none⟩)
    | 3, hx => cases hx; exact (show gd_68 cy K1 L1 100 _ from ⟨_, rfl⟩)
    | 4, hx => cases hx; exact (show gd_69 cy K1 L1 100 _ from ⟨_, rfl⟩)
    | 5, hx => cases hx; exact (show gd_70 cy K1 L1 100 _ from ⟨_, rfl⟩)
    | 6, hx => cases hx; exact (show gd_71 cy K1 L1 100 _ from ⟨_, rfl⟩)
    | 7, hx => cases hx; exact (show gd_7 K1 L1 _ from ⟨s0_11, s1_12, s2_13, s3_14, s4_15, 0, rfl, u2, u3, u4, u5, u6, (by decide)⟩)
    | 8, hx => cases hx; exact (show gd_58 cy K1 L1 8 _ from ⟨_, rfl⟩)
    | 9, hx => cases hx; exact (show gd_59 cy K1 L1 8 _ from ⟨_, rfl⟩)
    | 10, hx => cases hx; exact (show gd_5 K1 L1 _ from ⟨r0_16, r1_17, 0, rfl, u8, u9⟩)
    | 11, hx => cases hx; exact (show gd_60 cy K1 L1 24 _ from ⟨_, rfl⟩)
    | 12, hx => cases hx; exact (show gd_73 cy K1 L1 25 _ from ⟨_, rfl⟩)
    | n + 13, hx => exact absurd hx (by rw [show ([((x0_5, .inl ((cy 17), 8, .inr (.inr (.inr (.inr (fun _ => none)))))), (17, 8)), ((x2_6, .inl ((cy 19), 40, .inr (.inr (.inr (.inr (fun _ => none)))))), (19, 40)), ((s0_11, .inl ((cy 22), 100, .inr (.inr (.inr (.inr (fun _ => none)))))), (64, 100)), ((zrJ cy 15 s1_12 100), (68, 100)), ((zrJ cy 15 s2_13 100), (69, 100)), ((zrJ cy 15 s3_14 100), (70, 100)), ((zrJ cy 15 s4_15 100), (71, 100)), ((x4_7, (b7_8 s0_11 s1_12 s2_13 s3_14 s4_15 0)), (7, 0)), ((zrI cy 14 r0_16 8), (58, 8)), ((zrI cy 14 r1_17 8), (59, 8)), ((x5_8, (b5_14 r0_16 r1_17 0)), (5, 0)), ((zrI cy 14 x6_9 24), (60, 24)), ((zrJ cy 15 x8_10 25), (73, 25))] : List ((Nat × va_E) × (Nat × Nat)))[n + 13]? = none from rfl]; intro z; cases z)))
  have hno2 : ∀ x, x ∈ ([((x0_5, .inl ((cy 17), 8, .inr (.inr (.inr (.inr (fun _ => none)))))), (17, 8)), ((x2_6, .inl ((cy 19), 40, .inr (.inr (.inr (.inr (fun _ => none)))))), (19, 40)), ((s0_11, .inl ((cy 22), 100, .inr (.inr (.inr (.inr (fun _ => none)))))), (64, 100)), ((zrJ cy 15 s1_12 100), (68, 100)), ((zrJ cy 15 s2_13 100), (69, 100)), ((zrJ cy 15 s3_14 100), (70, 100)), ((zrJ cy 15 s4_15 100), (71, 100)), ((x4_7, (b7_8 s0_11 s1_12 s2_13 s3_14 s4_15 0)), (7, 0)), ((zrI cy 14 r0_16 8), (58, 8)), ((zrI cy 14 r1_17 8), (59, 8)), ((x5_8, (b5_14 r0_16 r1_17 0)), (5, 0)), ((zrI cy 14 x6_9 24), (60, 24)), ((zrJ cy 15 x8_10 25), (73, 25))] : List ((Nat × va_E) × (Nat × Nat))) → x.2.1 ≠ 2 := mem_ix (fun i x hx => by
    match i, hx with
    | 0, hx => cases hx; exact (show ¬ 17 = 2 by decide)
    | 1, hx => cases hx; exact (show ¬ 19 = 2 by decide)
    | 2, hx => cases hx; exact (show ¬ 64 = 2 by decide)
    | 3, hx => cases hx; exact (show ¬ 68 = 2 by decide)
    | 4, hx => cases hx; exact (show ¬ 69 = 2 by decide)
    | 5, hx => cases hx; exact (show ¬ 70 = 2 by decide)
    | 6, hx => cases hx; exact (show ¬ 71 = 2 by decide)
    | 7, hx => cases hx; exact (show ¬ 7 = 2 by decide)
    | 8, hx => cases hx; exact (show ¬ 58 = 2 by decide)
    | 9, hx => cases hx; exact (show ¬ 59 = 2 by decide)
    | 10, hx => cases hx; exact (show ¬ 5 = 2 by decide)
    | 11, hx => cases hx; exact (show ¬ 60 = 2 by decide)
    | 12, hx => cases hx; exact (show ¬ 73 = 2 by decide)
    | n + 13, hx => exact absurd hx (by rw [show ([((x0_5, .inl ((cy 17), 8, .inr (.inr (.inr (.inr (fun _ => none)))))), (17, 8)), ((x2_6, .inl ((cy 19), 40, .inr (.inr (.inr (.inr (fun _ => none)))))), (19, 40)), ((s0_11, .inl ((cy 22), 100, .inr (.inr (.inr (.inr (fun _ => none)))))), (64, 100)), ((zrJ cy 15 s1_12 100), (68, 100)), ((zrJ cy 15 s2_13 100), (69, 100)), ((zrJ cy 15 s3_14 100), (70, 100)), ((zrJ cy 15 s4_15 100), (71, 100)), ((x4_7, (b7_8 s0_11 s1_12 s2_13 s3_14 s4_15 0)), (7, 0)), ((zrI cy 14 r0_16 8), (58, 8)), ((zrI cy 14 r1_17 8), (59, 8)), ((x5_8, (b5_14 r0_16 r1_17 0)), (5, 0)), ((zrI cy 14 x6_9 24), (60, 24)), ((zrJ cy 15 x8_10 25), (73, 25))] : List ((Nat × va_E) × (Nat × Nat)))[n + 13]? = none from rfl]; intro z; cases z))
  have hno4 : ∀ x, x ∈ ([((x0_5, .inl ((cy 17), 8, .inr (.inr (.inr (.inr (fun _ => none)))))), (17, 8)), ((x2_6, .inl ((cy 19), 40, .inr (.inr (.inr (.inr (fun _ => none)))))), (19, 40)), ((s0_11, .inl ((cy 22), 100, .inr (.inr (.inr (.inr (fun _ => none)))))), (64, 100)), ((zrJ cy 15 s1_12 100), (68, 100)), ((zrJ cy 15 s2_13 100), (69, 100)), ((zrJ cy 15 s3_14 100), (70, 100)), ((zrJ cy 15 s4_15 100), (71, 100)), ((x4_7, (b7_8 s0_11 s1_12 s2_13 s3_14 s4_15 0)), (7, 0)), ((zrI cy 14 r0_16 8), (58, 8)), ((zrI cy 14 r1_17 8), (59, 8)), ((x5_8, (b5_14 r0_16 r1_17 0)), (5, 0)), ((zrI cy 14 x6_9 24), (60, 24)), ((zrJ cy 15 x8_10 25), (73, 25))] : List ((Nat × va_E) × (Nat × Nat))) → x.2.1 ≠ 4 := mem_ix (fun i x hx => by
    match i, hx with
    | 0, hx => cases hx; exact (show ¬ 17 = 4 by decide)
    | 1, hx => cases hx; exact (show ¬ 19 = 4 by decide)
    | 2, hx => cases hx; exact (show ¬ 64 = 4 by decide)
    | 3, hx => cases hx; exact (show ¬ 68 = 4 by decide)
    | 4, hx => cases hx; exact (show ¬ 69 = 4 by decide)
    | 5, hx => cases hx; exact (show ¬ 70 = 4 by decide)
    | 6, hx => cases hx; exact (show ¬ 71 = 4 by decide)
    | 7, hx => cases hx; exact (show ¬ 7 = 4 by decide)
    | 8, hx => cases hx; exact (show ¬ 58 = 4 by decide)
    | 9, hx => cases hx; exact (show ¬ 59 = 4 by decide)
    | 10, hx => cases hx; exact (show ¬ 5 = 4 by decide)
    | 11, hx => cases hx; exact (show ¬ 60 = 4 by decide)
    | 12, hx => cases hx; exact (show ¬ 73 = 4 by decide)
    | n + 13, hx => exact absurd hx (by rw [show ([((x0_5, .inl ((cy 17), 8, .inr (.inr (.inr (.inr (fun _ => none)))))), (17, 8)), ((x2_6, .inl ((cy 19), 40, .inr (.inr (.inr (.inr (fun _ => none)))))), (19, 40)), ((s0_11, .inl ((cy 22), 100, .inr (.inr (.inr (.inr (fun _ => none)))))), (64, 100)), ((zrJ cy 15 s1_12 100), (68, 100)), ((zrJ cy 15 s2_13 100), (69, 100)), ((zrJ cy 15 s3_14 100), (70, 100)), ((zrJ cy 15 s4_15 100), (71, 100)), ((x4_7, (b7_8 s0_11 s1_12 s2_13 s3_14 s4_15 0)), (7, 0)), ((zrI cy 14 r0_16 8), (58, 8)), ((zrI cy 14 r1_17 8), (59, 8)), ((x5_8, (b5_14 r0_16 r1_17 0)), (5, 0)), ((zrI cy 14 x6_9 24), (60, 24)), ((zrJ cy 15 x8_10 25), (73, 25))] : List ((Nat × va_E) × (Nat × Nat)))[n + 13]? = none from rfl]; intro z; cases z))
  have hr5 : M1 x5_8 = (b5_14 r0_16 r1_17 0) := (hB1 _ (List.mem_of_getElem? (i := 10) rfl)).2.1
  have hrg0 : RGC M1 x5_8 (fun _ => -1) := ⟨0, by omega, (by rw [cV_of (j := 2) hr5 rfl]; rfl), fun i => if_neg (Nat.not_lt_zero i)⟩
  have hXS : ∀ (PK PT : Nat → Int32) (SX : Nat → Nat → Int) (SY : Nat → Nat → Nat → Int32), XSg cy q_1 0 0 (PS 0 0 0 PK PT SX SY (-1) (fun _ => -1)) ([(q_1, (b11_1 x0_5 0 x2_6 0 x4_7 x5_8 x6_9 0 x8_10 0 (-1)))] ++ va_pl L1 M1) := fun PK PT SX SY => ⟨x0_5, x2_6, x4_7, x5_8, x6_9, 0, x8_10, 0, (-1), K1, L1, M1, rfl, u0, (by decide), u1, (by decide), u7, u10, u11, u12, hW1, ⟨⟨fun _ => (0, 0), ⟨fun k hk => absurd hk (Nat.not_lt_zero _), OC.none (noK hB1 hn1 hno2), fun q iq => absurd iq (noK hB1 hn1 hno4 q)⟩⟩, fun p hp => absurd hp (Nat.not_lt_zero _), rfl, hrg0, ⟨fun k hk => absurd hk (Nat.not_lt_zero _), fun i j b c hi => absurd hi (Nat.not_lt_zero _)⟩⟩⟩
  refine va_new (ci := 13) (fs := [.int 0, .null, .int 0, .int 0, .int 0, .int 0, .null, .null, .null, .null, .int 0, .null, .null, .null, .null, .null, .int 0, .null, .int 0, .null]) (C := RX13) (T := TX13) (N := 20) hx hb hg inG13 tyX13 tyX13_ok hown (hg _ wd_1234) (hg _ wd_1229) (hg _ wd_717) hK hP hD hS hA rfl dfX13 (Nat.le_of_ble_eq_true rfl) (Nat.le_of_ble_eq_true rfl) dL_law_8 (fun za H hP hD hS => ?_)
  refine W.widen (k := 15) (n := 653) (Nat.le_of_ble_eq_true rfl) (Nat.le_of_ble_eq_true rfl) ?_
  refine lv_dup hx hb dL_law_11 rfl ?_
  have hP1 := vaP_l hP
  have hD1 := vaD_l hD
  have hap := APT.of hD
  have hP2 : va_P D vwCl ([(za, (b13_6 0 0 0 0 0 0 0 0))] ++ va_pl [] M00) H := vaP_r hP
  have hD2 : va_D A ([(za, (b13_6 0 0 0 0 0 0 0 0))] ++ va_pl [] M00) := vaD_r hD
  have hap : APT ([(q_1, (b11_1 x0_5 0 x2_6 0 x4_7 x5_8 x6_9 0 x8_10 0 (-1)))] ++ va_pl L1 M1) ([(za, (b13_6 0 0 0 0 0 0 0 0))] ++ va_pl [] M00) := hap
  have hFc : ∀ q, va_A ([(za, (b13_6 0 0 0 0 0 0 0 0))] ++ va_pl [] M00) H.size q → A q := pg_free hD2 hS hA
  refine va_callv (va_runI (As := []) (rest := [.ref za]) ⟨hx, hb, hml, hown, hg⟩ (k_Model l D cy K00 [] M00 H.size za (fun a ha => by cases ha) (fun a b ha => by cases ha.1)) (cwI 0 hg (gB wd_1235) rfl rfl rfl (hg _ wd_717) (hg _ wd_1236) (hg _ wd_1237) rfl (by decide +kernel) ⟨(Nat.le_of_ble_eq_true rfl), (Nat.le_of_ble_eq_true rfl)⟩) ⟨PG.blind, fun U hU hW9 => ⟨rfl, PG.at hP2 hK hD2 hN hU hW9⟩⟩ rfl rfl hl.1 rfl (lv_room (Nat.le_of_ble_eq_true rfl)) dL_law_12 ⟨(Nat.le_of_ble_eq_true rfl), (Nat.le_of_ble_eq_true rfl)⟩) hS (fun q _ h => hFc q h) hFc (fun u t H locs ht hvm hw hB hz1 hk1 hS => ?_)
  obtain ⟨K2, L2, M2⟩ := u
  dsimp only at hw hB
  obtain ⟨hx9, hW2, hF9, hpo⟩ := hw
  obtain ⟨w1, w6, w7, w8, w9, w11, w12, w13, w14, w15, w17, w19, j1, j6, j7, j8, j9, j11, j12, j13, j14, j15, j17, j19, hGI, hR5, hP9, hD9⟩ := hB
  rw [ht] at hP9
  obtain ⟨hQ9, hap9⟩ := hap.sy.step hP1 hk1 hD9
  have hZS : ZS cy za 0 0 (IFc (M2 w6)) (IFc (M2 w7)) (fun _ _ => 0) (fun _ _ _ => 0) (-1) (fun _ => -1) ([(za, (b13_0 0 w1 0 0 0 (-1) w6 w7 w8 w9 0 w11 w12 w13 w14 w15 0 w17 0 w19))] ++ va_pl L2 M2) := ⟨0, w1, 0, (-1), w6, w7, w8, w9, 0, w11, w12, w13, w14, w15, 0, w17, 0, w19, K2, L2, M2, rfl, j1, (by decide), (by decide), j6, j7, j8, j9, (by decide), j11, j12, j13, j14, j15, (by decide), j17, j19, hW2, hGI, hR5, ⟨rfl, rfl⟩, (fun k a hk => absurd hk (Nat.not_lt_zero _)), rfl, (fun i => if_neg (Nat.not_lt_zero i)), (fun k hk => absurd hk (Nat.not_lt_zero _))⟩
  refine W.widen (k := 339) (n := 120166) (Nat.le_of_ble_eq_true rfl) (Nat.le_of_ble_eq_true rfl) ?_
  refine lv_astore_n (lv' := [(2, .ref za), (1, .ref q_1), (0, .ref b)]) hx hb dL_law_15 rfl hl (by decide) rfl (fun ls hl => ?_)
  refine lv_iconst (v := 0) hx hb dL_law_16 (by decide) ?_
  refine lv_istore_n (lv' := [(3, .int 0), (2, .ref za), (1, .ref q_1), (0, .ref b)]) hx hb dL_law_17 rfl hl (by decide) rfl (fun ls hl => ?_)
  exact law_loop C0 hA hA2 hbA hN hK hST hL 514 0 H locs _ _ ls (by omega) (by omega) (Nat.le_of_ble_eq_true rfl) (Nat.le_of_ble_eq_true rfl) ⟨0, 0, 0, _, _, _, _, _, _, _, _, ⟨by decide, by decide⟩, hXS _ _ _ _, hZS, hQ9, hP9, hD1, hD9.mono hFc, hap9.sy⟩ hS hl
-- ===== YOUR PART ENDS =====
set_option maxHeartbeats 4000000 in
theorem lw_walk (l : Launch) (hflags : l.flags = flags0) (b : Addr) (xs : List Int32) : MetFree l x (headSpec (Jvm.Cond.code x code maxLocals ret :: tables_1) room_1) (lw_P b xs) (fun _ _ _ _ _ => True) lw_Q := by
  refine MetFree.of_bodyS (code := code) (maxLocals := maxLocals) (ret := ret) (by decide) ?_ ?_
  · intro args s m h hn
    obtain ⟨meth, c, h1, h2, h3, h4, h5, h6, -, -⟩ := Cond.code_spec hn (atoms_spec (ws := Jvm.Cond.code x code maxLocals ret :: tables_1) h _ List.mem_cons_self)
    exact ⟨meth, c, h1, h2, h3, h4, h5, h6⟩
  · intro p e s m args below meth c s₁ B hml0 hP _
    obtain ⟨rfl, hx, hbd, hgv⟩ := hP
    obtain ⟨scr, harrAt, hlist, hof, hsmall⟩ := hx
    obtain ⟨hcb, hkn, -, -⟩ := State.arrayAt?_spec harrAt
    have hown : s.vm.findClass R_law = some m.cls := findClass_of_methodNamed B.named
    have hts0 : ∀ c ∈ (Jvm.Cond.code x code maxLocals ret :: tables_1), c.before #[Value.ref b] s = true := atoms_spec (ws := Jvm.Cond.code x code maxLocals ret :: tables_1) B.pre
    have hts : ∀ w ∈ lw_tbl, w.before #[Value.ref b] s = true := k2_hts_sels lw_privs (fun w hw => hts0 w (List.mem_cons_of_mem _ hw)) lw_privs_ok
    have hml : c.maxLocals = 4 := B.maxLocals_eq (hts0 _ List.mem_cons_self)
    have X₀ : Stand p l e room_1 s m #[Value.ref b] below meth c s₁ [] 0 0 := Stand.of_body B
    have hh0 : s₁.heap = s.heap := by rw [B.state]; rfl
    have hsz : scr.slots.size = xs.length := by rw [← Array.length_toList, hlist, List.length_map]
    have hval : ∀ j : Nat, j < xs.length → scr.slots[j]? = some (.int (xs.getD j 0)) := fun j hj => by
      rw [← Array.getElem?_toList, hlist]
      simp [hj]
    have hbl : b < s.heap.size := (Array.getElem?_eq_some_iff.mp hcb).1
    have hX : va_X b xs.length (fun j => xs.getD j 0) s s.heap := ⟨scr, hcb, hof, hkn, hsz, hval⟩
    have K : W p l e room_1 s m #[Value.ref b] below meth c s₁.heap [] 0 0 (lw_Z below #[Value.ref b] s) (entryFrame m ([Value.ref b] : List Value).toArray 4) := by
      rw [hh0]
      exact whole_start l hflags hbd ⟨B.exec, B.bytes, B.returns, hml, hown, hts, hX, hbl, B.notSynchronized, hgv⟩
    obtain ⟨t, a1, o, b1, b2, b3⟩ := K s₁ rfl X₀
    exact ⟨t, o, a1, b1, b2, b3⟩
theorem lw_pre_spec {args : Array Value} {s : State} (h : (Jvm.Cond.and given_1 narrow_1).before args s = true) (hr : rest_1_c.before args s = true) : ∃ (b : Addr) (xs : List Int32), lw_P b xs args s := by
  have hs := flat_of_before _ h
  have hq := flat_of_before _ hr
  have hc : (Cond.count 1).before args s = true := hs _ (by decide +kernel)
  have harr : (Cond.arrayOf (.arg 0) .int).before args s = true := hs _ (by decide +kernel)
  have hle : (Cond.le (.length (.arg 0)) (.int 3072)).before args s = true := hs _ (by decide +kernel)
  have hlen : (Cond.isInt (.length (.arg 0))).before args s = true := hq _ (by decide +kernel)
  have hall : (Cond.all (.arg 0) (.isInt (.elem (.arg 0) (.index 0)))).before args s = true := hq _ (by decide +kernel)
  obtain ⟨b, xs, hb, hx⟩ := State.ints_of_pre rfl harr hlen hall
  have hsm : xs.length < 2 ^ 31 := hx.choose_spec.2.2.2
  have hev : (Term.length (.arg 0)).eval args s none [] s = some (.int xs.length.toInt32) := hx.length_eval hb
  have hv := Cond.le_ints hev (show (Term.int 3072).eval args s none [] s = some (.int 3072) from rfl)
  have hd : xs.length.toInt32 ≤ 3072 := by
    simpa [Cond.before, Cond.holds, hv] using hle
  have hN : xs.length ≤ 3072 := (Int32.ofNat_le_ofNat hsm (by decide)).mp (show Int32.ofNat xs.length ≤ Int32.ofNat 3072 from hd)
  exact ⟨b, xs, Cond.one_arg hc (show args[0]? = some (.ref b) from hb), hx, hN, h⟩
theorem lw_comes (l : Launch) (hflags : l.flags = flags0) : Comes l x (Jvm.Cond.code x code maxLocals ret :: tables_1) room_1 (fun tb e args s => Calls_1 tb e args s ∧ rest_1 tb e args s ∧ Pre_1 tb e args s)
    (fun _ _ args s o t => lw_Q args s o t) := by
  intro p e ha hc hk s m args below hf hfit hheap happ hpre
  obtain ⟨b, xs, hP⟩ := lw_pre_spec hpre.2.2 hpre.2.1
  obtain ⟨k, o, h1, h2, h3, hQ⟩ := lw_walk l hflags b xs p e ha hc hk s m args below hf ((Spec.applies_iff_loose hf).mp happ).1 hP trivial
  exact ⟨k, o, h1, h2, h3, hQ⟩
theorem lw_frame {s t : State} {o : Outcome} {args : Array Value} (h : Framed s o t [] 600000 7302250) :
    Framed s o t (fieldLocs frame_1_writes args s ++ arrayLocs frame_1_arrays args s ++ staticLocs frame_1_statics s) 600000 7302250 := h
theorem lw_limb (L : Cond) (hL : ∀ (args : Array Value) (s t : State), L.after args s (.returned (some (.int 1))) t = true) :
    ArmFor flags0 classFile x code maxLocals ret World_1 tables_1 room_1 Calls_1 rest_1 Pre_1
      (fun tb e a s o t => postC L tb e a s o t ∧ Framed s o t (fieldLocs frame_1_writes a s ++ arrayLocs frame_1_arrays a s ++ staticLocs frame_1_statics s) 600000 7302250) := by
  intro l hflags _ _ p e ha hc hk s m args below hf hfit hheap happ hpre
  obtain ⟨k, o, h1, h2, h3, rfl, hF⟩ := lw_comes l hflags p e ha hc hk s m args below hf hfit hheap happ hpre
  exact ⟨k, _, h1, h2, h3, hL args s _, lw_frame hF⟩
theorem i_vc : Claimed_1_1 ∧ Claimed_1_2 := ⟨lw_limb limb_1_1 (fun args s t => by simp [limb_1_1, Cond.after, Cond.holds, Cond.value]), lw_limb limb_1_2 (fun args s t => Cond.after_iff.mpr (by
  first | (rw [show limb_1_2 = Cond.eq .result (.int 1) from rfl, Cond.eq_ints (x := 1) (y := 1) rfl rfl]; simp; done) | (simp [limb_1_2, Cond.value, Term.eval]; done)))⟩
