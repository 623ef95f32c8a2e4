theorem dX13_present_0 : decode cX13_present 0 = .ok (.aload_n 0, 1) := by decide +kernel
theorem dX13_present_1 : decode cX13_present 1 = .ok (.iconst 0, 1) := by decide +kernel
theorem dX13_present_2 : decode cX13_present 2 = .ok (.putfield 213, 3) := by decide +kernel
theorem dX13_present_5 : decode cX13_present 5 = .ok (.iconst 0, 1) := by decide +kernel
theorem dX13_present_6 : decode cX13_present 6 = .ok (.istore_n 3, 1) := by decide +kernel
theorem dX13_present_7 : decode cX13_present 7 = .ok (.iload_n 3, 1) := by decide +kernel
theorem dX13_present_8 : decode cX13_present 8 = .ok (.bipush 6, 2) := by decide +kernel
theorem dX13_present_10 : decode cX13_present 10 = .ok (.if_icmp .ge 72, 3) := by decide +kernel
theorem dX13_present_13 : decode cX13_present 13 = .ok (.iconst 0, 1) := by decide +kernel
theorem dX13_present_14 : decode cX13_present 14 = .ok (.istore 4, 2) := by decide +kernel
theorem dX13_present_16 : decode cX13_present 16 = .ok (.iload 4, 2) := by decide +kernel
theorem dX13_present_18 : decode cX13_present 18 = .ok (.aload_n 1, 1) := by decide +kernel
theorem dX13_present_19 : decode cX13_present 19 = .ok (.getfield 68, 3) := by decide +kernel
theorem dX13_present_22 : decode cX13_present 22 = .ok (.if_icmp .ge 54, 3) := by decide +kernel
theorem dX13_present_25 : decode cX13_present 25 = .ok (.aload_n 1, 1) := by decide +kernel
theorem dX13_present_26 : decode cX13_present 26 = .ok (.getfield 110, 3) := by decide +kernel
theorem dX13_present_29 : decode cX13_present 29 = .ok (.iload 4, 2) := by decide +kernel
theorem dX13_present_31 : decode cX13_present 31 = .ok (.iaload, 1) := by decide +kernel
theorem dX13_present_32 : decode cX13_present 32 = .ok (.iload_n 3, 1) := by decide +kernel
theorem dX13_present_33 : decode cX13_present 33 = .ok (.if_icmp .ne 37, 3) := by decide +kernel
theorem dX13_present_36 : decode cX13_present 36 = .ok (.aload_n 1, 1) := by decide +kernel
theorem dX13_present_37 : decode cX13_present 37 = .ok (.iload 4, 2) := by decide +kernel
theorem dX13_present_39 : decode cX13_present 39 = .ok (.iload_n 2, 1) := by decide +kernel
theorem dX13_present_40 : decode cX13_present 40 = .ok (.invokevirtual 190, 3) := by decide +kernel
theorem dX13_present_43 : decode cX13_present 43 = .ok (.ifCond .ne 6, 3) := by decide +kernel
theorem dX13_present_46 : decode cX13_present 46 = .ok (.goto 24, 3) := by decide +kernel
theorem dX13_present_49 : decode cX13_present 49 = .ok (.aload_n 0, 1) := by decide +kernel
theorem dX13_present_50 : decode cX13_present 50 = .ok (.getfield 33, 3) := by decide +kernel
theorem dX13_present_53 : decode cX13_present 53 = .ok (.aload_n 0, 1) := by decide +kernel
theorem dX13_present_54 : decode cX13_present 54 = .ok (.getfield 213, 3) := by decide +kernel
theorem dX13_present_57 : decode cX13_present 57 = .ok (.iload 4, 2) := by decide +kernel
theorem dX13_present_59 : decode cX13_present 59 = .ok (.iastore, 1) := by decide +kernel
theorem dX13_present_60 : decode cX13_present 60 = .ok (.aload_n 0, 1) := by decide +kernel
theorem dX13_present_61 : decode cX13_present 61 = .ok (.dup, 1) := by decide +kernel
theorem dX13_present_62 : decode cX13_present 62 = .ok (.getfield 213, 3) := by decide +kernel
theorem dX13_present_65 : decode cX13_present 65 = .ok (.iconst 1, 1) := by decide +kernel
theorem dX13_present_66 : decode cX13_present 66 = .ok (.iadd, 1) := by decide +kernel
theorem dX13_present_67 : decode cX13_present 67 = .ok (.putfield 213, 3) := by decide +kernel
theorem dX13_present_70 : decode cX13_present 70 = .ok (.iinc 4 1, 3) := by decide +kernel
theorem dX13_present_73 : decode cX13_present 73 = .ok (.goto (-57), 3) := by decide +kernel
theorem dX13_present_76 : decode cX13_present 76 = .ok (.iinc 3 1, 3) := by decide +kernel
theorem dX13_present_79 : decode cX13_present 79 = .ok (.goto (-72), 3) := by decide +kernel
theorem dX13_present_82 : decode cX13_present 82 = .ok (.return_, 1) := by decide +kernel
theorem nI_cl {t : Nat} (h : t < 2147483648) : (nI t).toNatClampNeg = t := by
  show (nI t).toInt.toNat = t
  rw [nI_toInt h]
  omega
/-- whether seat and place of j come ahead of (s, t) -/
def cntP (f : Nat → Int32) (s t j : Nat) : Bool := decide ((f j).toInt < (s : Int) ∨ ((f j).toInt = (s : Int) ∧ j < t))
def cntW (f : Nat → Int32) (s t : Nat) : Nat := (List.range 24).countP (cntP f s t)
theorem countP_more {p q : Nat → Bool} (hpq : ∀ j, p j = true → q j = true) {x : Nat} (hp : p x = false) (hq : q x = true) : ∀ (l : List Nat), x ∈ l → l.countP p + 1 ≤ l.countP q := by
  intro l
  induction l with
  | nil => intro h; cases h
  | cons y ys ih =>
    intro h
    have hm : ys.countP p ≤ ys.countP q := List.countP_mono_left (fun j _ => hpq j)
    rw [List.countP_cons, List.countP_cons]
    rcases List.mem_cons.mp h with rfl | h
    · rw [hp, hq]
      simp
      omega
    · have := ih h
      have h2 := hpq y
      cases hpy : p y <;> cases hqy : q y <;> simp_all <;> omega
theorem cnt_top (f : Nat → Int32) (s t : Nat) : cntW f s t ≤ 24 := by
  have h := List.countP_le_length (p := cntP f s t) (l := List.range 24)
  rw [List.length_range] at h
  exact h
theorem cnt_le {f : Nat → Int32} {s t z : Nat} (h : z ≤ cntW f s t) : z ≤ cntW f s (t + 1) := Nat.le_trans h (List.countP_mono_left (fun j _ q => by
  simp only [cntP, decide_eq_true_eq] at q ⊢
  omega))
theorem cnt_out {f : Nat → Int32} {s t z : Nat} (h : z ≤ cntW f s t) : z ≤ cntW f (s + 1) 0 := Nat.le_trans h (List.countP_mono_left (fun j _ q => by
  simp only [cntP, decide_eq_true_eq] at q ⊢
  omega))
theorem cnt_step {f : Nat → Int32} {s t z c : Nat} (h : z ≤ cntW f s t) (ec : f (nI t).toNatClampNeg = nI c) (hc : c = s) (hs : s < 6) (ht : t < 24) : z + 1 ≤ cntW f s (t + 1) := by
  rw [nI_cl (by omega)] at ec
  have e : (f t).toInt = (s : Int) := by rw [ec, hc, nI_toInt (by omega)]
  have := countP_more (p := cntP f s t) (q := cntP f s (t + 1)) (x := t) (fun j q => by
    simp only [cntP, decide_eq_true_eq] at q ⊢
    omega) (by simp only [cntP, decide_eq_false_iff_not]; omega) (by simp only [cntP, decide_eq_true_eq]; omega) (List.range 24) (List.mem_range.mpr ht)
  exact Nat.le_trans (Nat.succ_le_succ h) this
theorem cnt_lt {f : Nat → Int32} {s t z c : Nat} (h : z ≤ cntW f s t) (ec : f (nI t).toNatClampNeg = nI c) (hc : c = s) (hs : s < 6) (ht : t < 24) : z < 24 := Nat.lt_of_lt_of_le (Nat.lt_of_succ_le (cnt_step h ec hc hs ht)) (cnt_top f s (t + 1))
/-- House a has a rule that counts on day d -/
def RLD (cy : Nat → ClassId) (K : Kp) (L : List Nat) (a : Nat) (d : Int32) (M : Hp) : Prop := ∃ (fs : List Value) (n r : Nat) (f : Nat → Int32), M a = .inr (12, fs) ∧ fs[11]? = some (.int (nI n)) ∧ 1 ≤ n ∧ n ≤ 16 ∧ fs[34]? = some (.ref r) ∧ isk K L r 43 16 ∧ M r = .inl (cy 14, 16, .inl f) ∧ f 0 ≤ d
theorem RLD.fr {cy : Nat → ClassId} {K : Kp} {L : List Nat} {a : Nat} {d : Int32} {M M' : Hp} {ts : List Nat} (ha : isk K L a 12 0) (h : RLD cy K L a d M) (hF : fr K L ts M M') (h1 : 12 ∉ ts) (h2 : 43 ∉ ts) : RLD cy K L a d M' := by
  obtain ⟨fs, n, r, f, h3, h4, h5, h6, h7, h8, h9, h10⟩ := h
  exact ⟨fs, n, r, f, (hF.at ha h1).trans h3, h4, h5, h6, h7, h8, (hF.at h8 h2).trans h9, h10⟩
set_option maxHeartbeats 4000000 in
set_option maxRecDepth 100000 in
theorem r_X13_present (l : Launch) (D : va_G) (cy : Nat → ClassId) (K : Kp) (L : List Nat) (M : Hp) (sz : Nat) (za : Nat) (z0 : Int32) (z1 : Nat) (z2 : Nat) (z3 : Nat) (z4 : Int32) (z5 : Int32) (z6 : Nat) (z7 : Nat) (z8 : Nat) (z9 : Nat) (z10 : Nat) (z11 : Nat) (z12 : Nat) (z13 : Nat) (z14 : Nat) (z15 : Nat) (z16 : Nat) (z17 : Nat) (z18 : Int32) (z19 : Nat) (k1 : Nat) (k2 : Int32) (hW : WOM cy K L M) (i1 : isk K L z1 23 8) (b2 : z2 ≤ 8) (b3 : z3 ≤ 40) (i6 : isk K L z6 47 40) (i7 : isk K L z7 48 40) (i8 : isk K L z8 49 8) (i9 : isk K L z9 50 8) (b10 : z10 ≤ 8) (i11 : isk K L z11 32 24) (i12 : isk K L z12 14 24) (i13 : isk K L z13 97 24) (i14 : isk K L z14 98 24) (i15 : isk K L z15 99 24) (b16 : z16 ≤ 24) (i17 : isk K L z17 14 24) (i19 : isk K L z19 15 25) (ik1 : isk K L k1 12 0) : Met l yX13_present (wsM yX13_present cX13_present 5 none) ({ frames := 1, cells := 0, slots := 0, locals := 22 }) (va_Pc [.ref za, .ref k1, .int k2] (PG D cy [(za, (b13_0 z0 z1 (nI z2) (nI z3) z4 z5 z6 z7 z8 z9 (nI z10) z11 z12 z13 z14 z15 (nI z16) z17 z18 z19))] L M sz)) (va_Qv (fun (M9 : Hp) => WOM cy K L M9 ∧ fr K L [32] M M9 ∧ (True)) (fun M9 t => ∃ (w16 : Nat), w16 ≤ 24 ∧ PQ D [(za, (b13_0 z0 z1 (nI z2) (nI z3) z4 z5 z6 z7 z8 z9 (nI z10) z11 z12 z13 z14 z15 (nI w16) z17 z18 z19))] L M9 (va_A ([(za, (b13_0 z0 z1 (nI z2) (nI z3) z4 z5 z6 z7 z8 z9 (nI z10) z11 z12 z13 z14 z15 (nI z16) z17 z18 z19))] ++ va_pl L M) sz) t) (va_A ([(za, (b13_0 z0 z1 (nI z2) (nI z3) z4 z5 z6 z7 z8 z9 (nI z10) z11 z12 z13 z14 z15 (nI z16) z17 z18 z19))] ++ va_pl L M) sz)) 0 0 (va_A ([(za, (b13_0 z0 z1 (nI z2) (nI z3) z4 z5 z6 z7 z8 z9 (nI z10) z11 z12 z13 z14 z15 (nI z16) z17 z18 z19))] ++ va_pl L M) sz) := by
  refine Met.ofW (cc := cX13_present) (maxL := 5) (ret := none) (by decide) rfl ?_
  intro p e s m args below meth c s₁ B hml hv
  obtain ⟨rfl, hsz, hP, hK, hD0, hN⟩ := hv
  have hx := B.exec
  have hb := B.bytes
  have hr := B.returns
  have hts := atoms_spec (ws := (wsM yX13_present cX13_present 5 none)) B.pre
  have hg : ∀ w ∈ lw_good, w.before _ s = true := fun w h => hts w (List.mem_cons_of_mem _ h)
  have hown : s.vm.findClass RX13 = some m.cls := findClass_of_methodNamed B.named
  have hlocks := B.notSynchronized
  subst hsz
  have hD := hD0.self (sz := s.heap.size)
  generalize hAe : va_A ([(za, (b13_0 z0 z1 (nI z2) (nI z3) z4 z5 z6 z7 z8 z9 (nI z10) z11 z12 z13 z14 z15 (nI z16) z17 z18 z19))] ++ va_pl L M) s.heap.size = A at hD ⊢
  have hA : ∀ q : Nat, s.heap.size ≤ q → A q := fun q h => by rw [← hAe]; exact Or.inr h
  have hS : va_S A s.heap s.heap [] := va_S.rf
  have hl := lv_entry ([.ref za, .ref k1, .int k2]) (n := 5) (Nat.le_of_ble_eq_true rfl)
  rw [lg_entry_eq]
  generalize (lg_sl ([.ref za, .ref k1, .int k2]) ++ List.replicate (5 - (lg_sl ([.ref za, .ref k1, .int k2])).length) Slot.unset).toArray = ls at hl ⊢
  refine W.nameQ (fun Q hQ => ?_)
  refine W.nameR (fun R hR => ?_)
  have hRf : 1 ≤ R.frames := by rw [hR]; exact Nat.le_of_ble_eq_true rfl
  have hRl : 22 ≤ R.locals := by rw [hR]; exact Nat.le_of_ble_eq_true rfl
  have hRc : 0 ≤ R.cells := by rw [hR]; exact Nat.le_of_ble_eq_true rfl
  have hRs : 0 ≤ R.slots := by rw [hR]; exact Nat.le_of_ble_eq_true rfl
  have hF : fr K L [32] M M := fr.rf
  have hl : lv_has ls 5 [(0, .ref za), (1, .ref k1), (2, .int k2)] := hl
  refine lv_aload_n hx hb dX13_present_0 rfl (lv_at hl 0 rfl) ?_
  refine lv_iconst (v := 0) hx hb dX13_present_1 (by decide) ?_
  refine va_put (D := D) (ci := 13) (v := .int 0) (ty := .int) (C := RX13) (T := TX13) (N := 20) hx hb hg inG13 tyX13 tyX13_ok nmX13 hown hK hP hD hS 0 rfl rfl 16 (by decide) (hg _ wd_769) (fun _ h9 => h9) rfl (by decide +kernel) rfl rfl (Nat.le_of_ble_eq_true rfl) dX13_present_2 (fun H_1 locs hP hD hS => ?_)
  have hP : va_P D vwCl ([(za, (b13_0 z0 z1 (nI z2) (nI z3) z4 z5 z6 z7 z8 z9 (nI z10) z11 z12 z13 z14 z15 0 z17 z18 z19))] ++ va_pl L M) H_1 := hP
  have hD : va_D A ([(za, (b13_0 z0 z1 (nI z2) (nI z3) z4 z5 z6 z7 z8 z9 (nI z10) z11 z12 z13 z14 z15 0 z17 z18 z19))] ++ va_pl L M) := hD
  refine lv_iconst (v := 0) hx hb dX13_present_5 (by decide) ?_
  refine lv_istore_n (lv' := [(3, .int 0), (0, .ref za), (1, .ref k1), (2, .int k2)]) hx hb dX13_present_6 rfl hl (by decide) rfl (fun ls hl => ?_)
  obtain ⟨fs2, hM2, hn2, hl2⟩ := hW.open_12 ik1
  obtain ⟨v3, hv3, hc3⟩ : ∃ v : Nat, fs2[20]? = some (.ref v : Value) ∧ isk K L v 31 24 := hl2 20 (by decide)
  obtain ⟨f4, hM4, hf4⟩ := hW.open_31 hc3
  have key_5 : ∀ (fu_7 : Nat) (v3w8 : Nat) (zgw8 : Nat) (M_12 : Hp) (H_13 : Heap) (locs : List Loc) (ls : Array Slot), 6 - v3w8 < fu_7 → M_12 k1 = .inr (12, fs2) → M_12 v3 = .inl (cy 14, 24, .inl (f4)) → v3w8 ≤ 6 → zgw8 ≤ cntW f4 v3w8 0 → zgw8 ≤ 24 → WOM cy K L M_12 → fr K L [32] M M_12 → va_P D vwCl ([(za, (b13_0 z0 z1 (nI z2) (nI z3) z4 z5 z6 z7 z8 z9 (nI z10) z11 z12 z13 z14 z15 (nI zgw8) z17 z18 z19))] ++ va_pl L M_12) H_13 → va_D A ([(za, (b13_0 z0 z1 (nI z2) (nI z3) z4 z5 z6 z7 z8 z9 (nI z10) z11 z12 z13 z14 z15 (nI zgw8) z17 z18 z19))] ++ va_pl L M_12) → va_S A s.heap H_13 locs → lv_has ls 5 [(3, .int (nI v3w8)), (0, .ref za), (1, .ref k1), (2, .int k2)] → W p l e R s m ([.ref za, .ref k1, .int k2] : List Value).toArray below meth c H_13 locs 0 0 Q (F0 m 7 ls []) := by
    intro fu_7
    induction fu_7 with
    | zero => intro v3w8 zgw8 M_12 H_13 locs ls h; exact absurd h (Nat.not_lt_zero _)
    | succ fu_7 ih_6 =>
      intro v3w8 zgw8 M_12 H_13 locs ls hfu hM_14 hM_15 hx_9 hx_10 hx_11 hW hF hP hD hS hl
      refine lv_iload_n hx hb dX13_present_7 rfl (lv_at hl 0 rfl) ?_
      refine lv_bipush (v := 6) hx hb dX13_present_8 (by decide) ?_
      refine lv_icmp_ge (tgt := 82) hx hb dX13_present_10 (by decide) (fun c_16 => ?_) (fun c_16 => ?_)
      · have hz := rfl (a := 0)
        have n_17 : 6 ≤ v3w8 := (iLE (a := 6) (b := v3w8) (by omega) (by omega)).mp c_16
        rw [hQ]
        exact W.vret hx hb hr (fun t ht hW9 => ⟨⟨M_12, rfl, ⟨hW, hF, trivial⟩, ⟨zgw8, (by omega), by rw [ht]; exact hP, hD⟩⟩, hS.F ht⟩) hS.2.2 dX13_present_82
      · have hz := rfl (a := 0)
        have n_18 : ¬ (6 ≤ v3w8) := fun q => c_16 ((iLE (a := 6) (b := v3w8) (by omega) (by omega)).mpr q)
        refine lv_iconst (v := 0) hx hb dX13_present_13 (by decide) ?_
        refine lv_istore (lv' := [(4, .int 0), (3, .int (nI v3w8)), (0, .ref za), (1, .ref k1), (2, .int k2)]) hx hb dX13_present_14 hl (by decide) rfl (fun ls hl => ?_)
        have key_19 : ∀ (fu_21 : Nat) (v4w22 : Nat) (zgw22 : Nat) (M_26 : Hp) (H_27 : Heap) (locs : List Loc) (ls : Array Slot), 24 - v4w22 < fu_21 → M_26 k1 = .inr (12, fs2) → M_26 v3 = .inl (cy 14, 24, .inl (f4)) → v4w22 ≤ 24 → zgw22 ≤ cntW f4 v3w8 v4w22 → zgw22 ≤ 24 → WOM cy K L M_26 → fr K L [32] M M_26 → va_P D vwCl ([(za, (b13_0 z0 z1 (nI z2) (nI z3) z4 z5 z6 z7 z8 z9 (nI z10) z11 z12 z13 z14 z15 (nI zgw22) z17 z18 z19))] ++ va_pl L M_26) H_27 → va_D A ([(za, (b13_0 z0 z1 (nI z2) (nI z3) z4 z5 z6 z7 z8 z9 (nI z10) z11 z12 z13 z14 z15 (nI zgw22) z17 z18 z19))] ++ va_pl L M_26) → va_S A s.heap H_27 locs → lv_has ls 5 [(4, .int (nI v4w22)), (3, .int (nI v3w8)), (0, .ref za), (1, .ref k1), (2, .int k2)] → W p l e R s m ([.ref za, .ref k1, .int k2] : List Value).toArray below meth c H_27 locs 0 0 Q (F0 m 16 ls []) := by
          intro fu_21
          induction fu_21 with
          | zero => intro v4w22 zgw22 M_26 H_27 locs ls h; exact absurd h (Nat.not_lt_zero _)
          | succ fu_21 ih_20 =>
            intro v4w22 zgw22 M_26 H_27 locs ls hfu hM_28 hM_29 hx_23 hx_24 hx_25 hW hF hP hD hS hl
            refine lv_iload hx hb dX13_present_16 (lv_at hl 0 rfl) ?_
            refine lv_aload_n hx hb dX13_present_18 rfl (lv_at hl 3 rfl) ?_
            obtain ⟨v30, hv30, hc30⟩ : ∃ v : Nat, fs2[10]? = some (.int (nI v) : Value) ∧ v ≤ 24 := hl2 10 (by decide)
            refine pg_getN (D := D) (ci := 12) (v := .int (nI v30)) (C := RX12) (T := TX12) (N := 51) hx hb hg inG12 hown hK hP ik1.1 hM_28 rfl 10 (by decide) (hN.use (Cond.fieldLinkNest RX13 68 RX12 "tenures" "I" RX13) 19 rfl rfl) (fun _ h9 => h9) hv30 dX13_present_19 ?_
            refine lv_icmp_ge (tgt := 76) hx hb dX13_present_22 (by decide) (fun c_31 => ?_) (fun c_31 => ?_)
            · have hz := rfl (a := 0)
              have n_32 : v30 ≤ v4w22 := (iLE (a := v30) (b := v4w22) (by omega) (by omega)).mp c_31
              refine lv_iinc (v := (nI (v3w8 + 1))) (lv' := [(3, .int (nI (v3w8 + 1))), (4, .int (nI v4w22)), (0, .ref za), (1, .ref k1), (2, .int k2)]) hx hb dX13_present_76 hl (k := 1) rfl (nI_1 v3w8) (by decide) rfl (fun ls hl => ?_)
              refine lv_goto (tgt := 7) hx hb dX13_present_79 (by decide) ?_
              exact ih_6 (v3w8 + 1) zgw22 M_26 H_27 _ _ (by omega) hM_28 hM_29 (by omega) (by first | exact Nat.zero_le _ | assumption | exact cnt_le (by assumption) | exact cnt_step (by assumption) (by assumption) (by assumption) (by omega) (by omega) | exact cnt_out (by assumption)) (by first | omega | (exact Nat.le_trans (by assumption) (cnt_top _ _ _))) hW hF hP hD hS (lv_sub hl [0, 2, 3, 4] rfl)
            · have hz := rfl (a := 0)
              have n_33 : ¬ (v30 ≤ v4w22) := fun q => c_31 ((iLE (a := v30) (b := v4w22) (by omega) (by omega)).mpr q)
              refine lv_aload_n hx hb dX13_present_25 rfl (lv_at hl 3 rfl) ?_
              refine pg_getN (D := D) (ci := 12) (v := .ref v3) (C := RX12) (T := TX12) (N := 51) hx hb hg inG12 hown hK hP ik1.1 hM_28 rfl 20 (by decide) (hN.use (Cond.fieldLinkNest RX13 110 RX12 "where" "[I" RX13) 29 rfl rfl) (fun _ h9 => h9) hv3 dX13_present_26 ?_
              refine lv_iload hx hb dX13_present_29 (lv_at hl 0 rfl) ?_
              have hi_34 : vp_in (nI v4w22) 24 := (inbN v4w22 24 (by omega) (by omega))
              refine pg_iald hx hb hK hP hc3.1 0 hM_29 rfl hi_34 dX13_present_31 ?_
              have hp_35 := hf4 _ (vp_lt hi_34)
              obtain ⟨c_36, hc_37, ec_38⟩ := hp_35
              rw [ec_38]
              refine lv_iload_n hx hb dX13_present_32 rfl (lv_at hl 1 rfl) ?_
              refine lv_icmp_ne (tgt := 70) hx hb dX13_present_33 (by decide) (fun c_39 => ?_) (fun c_39 => ?_)
              · have hz := rfl (a := 0)
                have n_40 : ¬ (c_36 = v3w8) := fun q => c_39 ((iEQ (a := c_36) (b := v3w8) (by omega) (by omega)).mpr q)
                refine lv_iinc (v := (nI (v4w22 + 1))) (lv' := [(4, .int (nI (v4w22 + 1))), (3, .int (nI v3w8)), (0, .ref za), (1, .ref k1), (2, .int k2)]) hx hb dX13_present_70 hl (k := 0) rfl (nI_1 v4w22) (by decide) rfl (fun ls hl => ?_)
                refine lv_goto (tgt := 16) hx hb dX13_present_73 (by decide) ?_
                exact ih_20 (v4w22 + 1) zgw22 M_26 H_27 _ _ (by omega) hM_28 hM_29 (by omega) (by first | exact Nat.zero_le _ | assumption | exact cnt_le (by assumption) | exact cnt_step (by assumption) (by assumption) (by assumption) (by omega) (by omega) | exact cnt_out (by assumption)) (by omega) hW hF hP hD hS (lv_sub hl [0, 1, 2, 3, 4] rfl)
              · have hz := rfl (a := 0)
                have n_41 : c_36 = v3w8 := (iEQ (a := c_36) (b := v3w8) (by omega) (by omega)).mp c_39
                refine lv_aload_n hx hb dX13_present_36 rfl (lv_at hl 3 rfl) ?_
                refine lv_iload hx hb dX13_present_37 (lv_at hl 0 rfl) ?_
                refine lv_iload_n hx hb dX13_present_39 rfl (lv_at hl 4 rfl) ?_
                have hPc : va_P D vwCl ([] ++ va_pl L M_26) H_27 := hP.part (cx := []) [] rfl
                have hDc : va_D A ([] ++ va_pl L M_26) := hD.part (cx := []) [] (by decide) rfl
                have hFc : ∀ q, va_A ([] ++ va_pl L M_26) H_27.size q → A q := pg_free hDc hS hA
                refine va_calli (va_runV (As := [.int (nI v4w22), .int k2]) (rest := []) ⟨hx, hb, hml, hown, hg⟩ (r_X12_isIn l D cy K L M_26 H_27.size k1 v4w22 k2  hW ik1 (by omega)) (cwV 2 hg (gV wd_748 wd_749 wd_750 wd_737 wd_751) rfl rfl rfl (by decide +kernel) ⟨(Nat.le_trans (Nat.le_of_ble_eq_true rfl) hRf), (Nat.le_trans (Nat.le_of_ble_eq_true rfl) hRl)⟩) ⟨PG.blind, pg_recv hK hP ik1.1 hM_28 rfl, fun U hU hW => ⟨rfl, PG.at hPc hK hDc hN hU hW⟩⟩ rfl rfl hl.1 rfl (lv_room (Nat.le_of_ble_eq_true rfl)) dX13_present_40 ⟨(Nat.le_trans (Nat.le_of_ble_eq_true rfl) hRc), (Nat.le_trans (Nat.le_of_ble_eq_true rfl) hRs)⟩) hS (fun q _ h => hFc q h) hFc (fun r_43 M_44 t H_42 locs ht hvm hw hB hz1 hk1 hS => ?_)
                have hp_45 := hw
                obtain ⟨hP1, hD1⟩ := hB
                rw [ht] at hP1
                obtain ⟨hP, hD⟩ := va_joinP (X := [(za, (b13_0 z0 z1 (nI z2) (nI z3) z4 z5 z6 z7 z8 z9 (nI z10) z11 z12 z13 z14 z15 (nI zgw22) z17 z18 z19))]) (cx := []) (wr := [(za, (b13_0 z0 z1 (nI z2) (nI z3) z4 z5 z6 z7 z8 z9 (nI z10) z11 z12 z13 z14 z15 (nI zgw22) z17 z18 z19))]) (rx := []) (pl := va_pl L M_26) (pl1 := va_pl L M_26) hP hD [] [0] rfl rfl (by decide) (by decide) hk1 hFc hP1 hD1
                have hP : va_P D vwCl ([(za, (b13_0 z0 z1 (nI z2) (nI z3) z4 z5 z6 z7 z8 z9 (nI z10) z11 z12 z13 z14 z15 (nI zgw22) z17 z18 z19))] ++ va_pl L M_26) H_42 := hP
                have hD : va_D A ([(za, (b13_0 z0 z1 (nI z2) (nI z3) z4 z5 z6 z7 z8 z9 (nI z10) z11 z12 z13 z14 z15 (nI zgw22) z17 z18 z19))] ++ va_pl L M_26) := hD
                rcases hp_45 with rfl | rfl
                · have hz := rfl (a := 0)
                  refine lv_if_ne (tgt := 49) hx hb dX13_present_43 (by decide) (fun _ => ?_) (fun c_46 => absurd c_46 (by decide))
                  refine lv_aload_n hx hb dX13_present_49 rfl (lv_at hl 2 rfl) ?_
                  refine va_get (D := D) (ci := 13) (v := .ref z11) (C := RX13) (T := TX13) (N := 20) hx hb hg inG13 hown hK hP 0 rfl rfl 11 (by decide) (hg _ wd_764) (fun _ h9 => h9) rfl dX13_present_50 ?_
                  refine lv_aload_n hx hb dX13_present_53 rfl (lv_at hl 2 rfl) ?_
                  refine va_get (D := D) (ci := 13) (v := .int (nI zgw22)) (C := RX13) (T := TX13) (N := 20) hx hb hg inG13 hown hK hP 0 rfl rfl 16 (by decide) (hg _ wd_769) (fun _ h9 => h9) rfl dX13_present_54 ?_
                  refine lv_iload hx hb dX13_present_57 (lv_at hl 0 rfl) ?_
                  have hzlt : zgw22 < 24 := cnt_lt (by assumption) (by assumption) (by assumption) (by omega) (by omega)
                  obtain ⟨f47, hM47, hf47⟩ := hW.open_32 i11
                  refine pg_iast hx hb hK hP hD hS i11.1 0 hM47 rfl (inbN zgw22 24 (by omega) (by omega)) dX13_present_59 (fun H_48 locs hP hD hS => ?_)
                  obtain ⟨M_49, eM_49⟩ : ∃ M1 : Hp, M1 = va_up M_26 z11 (.inl (cy 14, 24, .inl (upd f47 ((nI zgw22) : Int32).toNatClampNeg (nI v4w22)))) := ⟨_, rfl⟩
                  have hP : va_P D vwCl ([(za, (b13_0 z0 z1 (nI z2) (nI z3) z4 z5 z6 z7 z8 z9 (nI z10) z11 z12 z13 z14 z15 (nI zgw22) z17 z18 z19))] ++ va_pl L M_49) H_48 := by rw [eM_49]; exact hP
                  have hD : va_D A ([(za, (b13_0 z0 z1 (nI z2) (nI z3) z4 z5 z6 z7 z8 z9 (nI z10) z11 z12 z13 z14 z15 (nI zgw22) z17 z18 z19))] ++ va_pl L M_49) := by rw [eM_49]; exact hD
                  have hW : WOM cy K L M_49 := by rw [eM_49]; exact hW.up_32 i11 ⟨_, rfl, (updP (P := fun z => ∃ c : Nat, c < 24 ∧ z = nI c) hf47 ⟨v4w22, by omega, rfl⟩)⟩
                  have hF : fr K L [32] M M_49 := by rw [eM_49]; exact hF.up i11 (by decide)
                  have hM_50 : M_49 z11 = .inl (cy 14, 24, .inl (upd f47 ((nI zgw22) : Int32).toNatClampNeg (nI v4w22))) := by rw [eM_49]; exact va_up_self _ _ _
                  have hM_51 : M_49 k1 = .inr (12, fs2) := by rw [eM_49, va_up_ne _ _ (ik1.neT i11 (by decide))]; exact hM_28
                  have hM_52 : M_49 v3 = .inl (cy 14, 24, .inl (f4)) := by rw [eM_49, va_up_ne _ _ (hc3.neT i11 (by decide))]; exact hM_29
                  have hf_54 : ∀ j, j < 24 → ∃ c : Nat, c < 24 ∧ (upd f47 ((nI zgw22) : Int32).toNatClampNeg (nI v4w22)) j = nI c := (updP (P := fun z => ∃ c : Nat, c < 24 ∧ z = nI c) hf47 ⟨v4w22, by omega, rfl⟩)
                  obtain ⟨f_53, ef_53⟩ : ∃ f : Nat → Int32, f = upd f47 ((nI zgw22) : Int32).toNatClampNeg (nI v4w22) := ⟨_, rfl⟩
                  rw [← ef_53] at hM_50 hf_54
                  clear ef_53
                  refine lv_aload_n hx hb dX13_present_60 rfl (lv_at hl 2 rfl) ?_
                  refine lv_dup hx hb dX13_present_61 rfl ?_
                  refine va_get (D := D) (ci := 13) (v := .int (nI zgw22)) (C := RX13) (T := TX13) (N := 20) hx hb hg inG13 hown hK hP 0 rfl rfl 16 (by decide) (hg _ wd_769) (fun _ h9 => h9) rfl dX13_present_62 ?_
                  refine lv_iconst (v := 1) hx hb dX13_present_65 (by decide) ?_
                  refine lv_iadd hx hb dX13_present_66 ?_
                  refine lv_topi (fun f_55 ef_55 => ?_)
                  obtain rfl : f_55 = (nI (zgw22 + 1)) := ef_55.trans (nI_add zgw22 1)
                  refine va_put (D := D) (ci := 13) (v := .int (nI (zgw22 + 1))) (ty := .int) (C := RX13) (T := TX13) (N := 20) hx hb hg inG13 tyX13 tyX13_ok nmX13 hown hK hP hD hS 0 rfl rfl 16 (by decide) (hg _ wd_769) (fun _ h9 => h9) rfl (by decide +kernel) rfl rfl (Nat.le_of_ble_eq_true rfl) dX13_present_67 (fun H_56 locs hP hD hS => ?_)
                  have hP : va_P D vwCl ([(za, (b13_0 z0 z1 (nI z2) (nI z3) z4 z5 z6 z7 z8 z9 (nI z10) z11 z12 z13 z14 z15 (nI (zgw22 + 1)) z17 z18 z19))] ++ va_pl L M_49) H_56 := hP
                  have hD : va_D A ([(za, (b13_0 z0 z1 (nI z2) (nI z3) z4 z5 z6 z7 z8 z9 (nI z10) z11 z12 z13 z14 z15 (nI (zgw22 + 1)) z17 z18 z19))] ++ va_pl L M_49) := hD
                  refine lv_iinc (v := (nI (v4w22 + 1))) (lv' := [(4, .int (nI (v4w22 + 1))), (3, .int (nI v3w8)), (0, .ref za), (1, .ref k1), (2, .int k2)]) hx hb dX13_present_70 hl (k := 0) rfl (nI_1 v4w22) (by decide) rfl (fun ls hl => ?_)
                  refine lv_goto (tgt := 16) hx hb dX13_present_73 (by decide) ?_
                  exact ih_20 (v4w22 + 1) (zgw22 + 1) M_49 H_56 _ _ (by omega) hM_51 hM_52 (by omega) (by first | exact Nat.zero_le _ | assumption | exact cnt_le (by assumption) | exact cnt_step (by assumption) (by assumption) (by assumption) (by omega) (by omega) | exact cnt_out (by assumption)) (by omega) hW hF hP hD hS (lv_sub hl [0, 1, 2, 3, 4] rfl)
                · have hz := rfl (a := 0)
                  refine lv_if_ne (tgt := 49) hx hb dX13_present_43 (by decide) (fun c_57 => absurd c_57 (by decide)) (fun _ => ?_)
                  refine lv_goto (tgt := 70) hx hb dX13_present_46 (by decide) ?_
                  refine lv_iinc (v := (nI (v4w22 + 1))) (lv' := [(4, .int (nI (v4w22 + 1))), (3, .int (nI v3w8)), (0, .ref za), (1, .ref k1), (2, .int k2)]) hx hb dX13_present_70 hl (k := 0) rfl (nI_1 v4w22) (by decide) rfl (fun ls hl => ?_)
                  refine lv_goto (tgt := 16) hx hb dX13_present_73 (by decide) ?_
                  exact ih_20 (v4w22 + 1) zgw22 M_26 H_42 _ _ (by omega) hM_28 hM_29 (by omega) (by first | exact Nat.zero_le _ | assumption | exact cnt_le (by assumption) | exact cnt_step (by assumption) (by assumption) (by assumption) (by omega) (by omega) | exact cnt_out (by assumption)) (by omega) hW hF hP hD hS (lv_sub hl [0, 1, 2, 3, 4] rfl)
        exact key_19 (24 - 0 + 1) 0 zgw8 M_12 H_13 _ _ (by omega) hM_14 hM_15 (by omega) (by first | exact Nat.zero_le _ | assumption | exact cnt_le (by assumption) | exact cnt_step (by assumption) (by assumption) (by assumption) (by omega) (by omega) | exact cnt_out (by assumption)) (by omega) hW hF hP hD hS (lv_sub hl [0, 1, 2, 3, 4] rfl)
  exact key_5 (6 - 0 + 1) 0 0 M H_1 _ _ (by omega) hM2 hM4 (by omega) (by first | exact Nat.zero_le _ | assumption | exact cnt_le (by assumption) | exact cnt_step (by assumption) (by assumption) (by assumption) (by omega) (by omega) | exact cnt_out (by assumption)) (by first | omega | (exact Nat.le_trans (by assumption) (cnt_top _ _ _))) hW hF hP hD hS (lv_sub hl [0, 1, 2, 3] rfl)
