
/-- the class's houses that are there are no nulls -/
def NN (x0 n : Nat) (M : Hp) : Prop := ∀ k, k < n → ∃ a, RFc (M x0) k = some a
theorem NN.mv {K : Kp} {L ts : List Nat} {x0 n : Nat} {M M1 : Hp} (h : NN x0 n M) (i0 : isk K L x0 17 8) (hF : fr K L ts M M1) (ht : 17 ∉ ts) : NN x0 n M1 := by
  unfold NN
  rw [hF.at i0 ht]
  exact h
theorem NN.put {x0 n k a m : Nat} {c : ClassId} {f f' : Nat → Option Nat} {M M1 : Hp} (h : NN x0 n M) (e0 : M x0 = .inl (c, m, .inr (.inr (.inr (.inr f))))) (e1 : M1 x0 = .inl (c, m, .inr (.inr (.inr (.inr f'))))) (ef : f' = va_up f k (some a)) (hk : k = n) : NN x0 (n + 1) M1 := fun j hj => by
  rw [show RFc (M1 x0) = f' from by rw [e1]; rfl, ef]
  by_cases z : j = k
  · exact ⟨a, by rw [z, va_up_self]⟩
  · obtain ⟨b, q⟩ := h j (by omega)
    rw [show RFc (M x0) = f from by rw [e0]; rfl] at q
    exact ⟨b, by rw [va_up_ne _ _ z]; exact q⟩
/-- partner(): whether it is taken, the answer, how many there are then -/
def okP (k t : Int32) (n : Nat) : Prop := ¬ k < 0 ∧ k < 6 ∧ ((k = 1 ∨ k = 2 ∨ k = 4) → ¬ t < 0 ∧ t ≤ 1000000000) ∧ (k = 5 → ¬ (t < 0 ∨ nI n ≤ t))
noncomputable def ansP (k t : Int32) (n c : Nat) : Int32 := @ite Int32 (okP k t n ∧ c < 40) (Classical.propDecidable _) (nI c) (-1)
noncomputable def cntQ (k t : Int32) (n c : Nat) : Nat := @ite Nat (okP k t n ∧ c < 40) (Classical.propDecidable _) (c + 1) c
theorem cntQ_le {k t : Int32} {n c : Nat} (h : c ≤ 40) : cntQ k t n c ≤ 40 := by
  unfold cntQ
  by_cases q : okP k t n ∧ c < 40
  · rw [if_pos q]
    omega
  · rw [if_neg q]
    exact h
theorem lt6 {k : Int32} (h : ¬ 5 < k) : k < 6 := Int32.lt_iff_toInt_lt.mpr (Int.lt_of_le_of_lt (Int32.le_iff_toInt_le.mp (Int32.not_lt.mp h)) (by decide))
theorem nlt6 {k : Int32} (h : 5 < k) : ¬ k < 6 := fun q => by
  have h1 := Int32.lt_iff_toInt_lt.mp q
  have h2 := Int32.lt_iff_toInt_lt.mp h
  rw [show (6 : Int32).toInt = 6 from rfl] at h1
  rw [show (5 : Int32).toInt = 5 from rfl] at h2
  omega
set_option maxHeartbeats 4000000 in
set_option maxRecDepth 100000 in
theorem s_limE (l : Launch) (D : va_G) (cy : Nat → ClassId) (K : Kp) (L : List Nat) (M : Hp) (sz : Nat) (k1 : Int32) (hW : WOK cy K L M)  : Met l yX11_isLimitedKind (wsM yX11_isLimitedKind cX11_isLimitedKind 1 (some .boolean)) ({ frames := 0, cells := 0, slots := 0, locals := 0 }) (va_Pc [.int k1] (PG D cy [] L M sz)) (va_Qi (fun (r : Int32) (_ : Unit) => (r = 1 ∧ (k1 = 1 ∨ k1 = 2 ∨ k1 = 4)) ∨ (r = 0 ∧ ¬ (k1 = 1 ∨ k1 = 2 ∨ k1 = 4))) (fun _ t => PQ D [] L M (va_A ([] ++ va_pl L M) sz) t) (va_A ([] ++ va_pl L M) sz)) 0 0 (va_A ([] ++ va_pl L M) sz) := by
  refine Met.ofW (cc := cX11_isLimitedKind) (maxL := 1) (ret := (some .boolean)) (by decide) rfl ?_
  intro p e s m args below meth c s₁ B hml hv
  obtain ⟨rfl, hsz, hP, hK, hD0, hN⟩ := hv
  have hx := B.exec
  have hb := B.bytes
  have hr := B.returns
  have hts := atoms_spec (ws := (wsM yX11_isLimitedKind cX11_isLimitedKind 1 (some .boolean))) B.pre
  have hg : ∀ w ∈ lw_good, w.before _ s = true := fun w h => hts w (List.mem_cons_of_mem _ h)
  have hown : s.vm.findClass RX11 = some m.cls := findClass_of_methodNamed B.named
  have hlocks := B.notSynchronized
  subst hsz
  have hD := hD0.self (sz := s.heap.size)
  generalize hAe : va_A ([] ++ va_pl L M) s.heap.size = A at hD ⊢
  have hA : ∀ q : Nat, s.heap.size ≤ q → A q := fun q h => by rw [← hAe]; exact Or.inr h
  have hS : va_S A s.heap s.heap [] := va_S.rf
  have hl := lv_entry ([.int k1]) (n := 1) (Nat.le_of_ble_eq_true rfl)
  rw [lg_entry_eq]
  generalize (lg_sl ([.int k1]) ++ List.replicate (1 - (lg_sl ([.int k1])).length) Slot.unset).toArray = ls at hl ⊢
  refine W.nameQ (fun Q hQ => ?_)
  refine W.nameR (fun R hR => ?_)
  have hRf : 0 ≤ R.frames := by rw [hR]; exact Nat.le_of_ble_eq_true rfl
  have hRl : 0 ≤ R.locals := by rw [hR]; exact Nat.le_of_ble_eq_true rfl
  have hRc : 0 ≤ R.cells := by rw [hR]; exact Nat.le_of_ble_eq_true rfl
  have hRs : 0 ≤ R.slots := by rw [hR]; exact Nat.le_of_ble_eq_true rfl
  have hl : lv_has ls 1 [(0, .int k1)] := hl
  refine lv_iload_n hx hb dX11_isLimitedKind_0 rfl (lv_at hl 0 rfl) ?_
  refine lv_iconst (v := 1) hx hb dX11_isLimitedKind_1 (by decide) ?_
  refine lv_icmp_eq (tgt := 15) hx hb dX11_isLimitedKind_2 (by decide) (fun c_1 => ?_) (fun c_1 => ?_)
  · have hz := rfl (a := 0)
    refine lv_iconst (v := 1) hx hb dX11_isLimitedKind_15 (by decide) ?_
    refine lv_goto (tgt := 20) hx hb dX11_isLimitedKind_16 (by decide) ?_
    rw [hQ]
    exact W.zret (v := 1) hx hb hr rfl (fun t ht hW9 => ⟨⟨1, (), rfl, (Or.inl ⟨rfl, Or.inl c_1⟩), ⟨by rw [ht]; exact hP, hD⟩⟩, hS.F ht⟩) hS.2.2 dX11_isLimitedKind_20
  · have hz := rfl (a := 0)
    refine lv_iload_n hx hb dX11_isLimitedKind_5 rfl (lv_at hl 0 rfl) ?_
    refine lv_iconst (v := 2) hx hb dX11_isLimitedKind_6 (by decide) ?_
    refine lv_icmp_eq (tgt := 15) hx hb dX11_isLimitedKind_7 (by decide) (fun c_2 => ?_) (fun c_2 => ?_)
    · have hz := rfl (a := 0)
      refine lv_iconst (v := 1) hx hb dX11_isLimitedKind_15 (by decide) ?_
      refine lv_goto (tgt := 20) hx hb dX11_isLimitedKind_16 (by decide) ?_
      rw [hQ]
      exact W.zret (v := 1) hx hb hr rfl (fun t ht hW9 => ⟨⟨1, (), rfl, (Or.inl ⟨rfl, Or.inr (Or.inl c_2)⟩), ⟨by rw [ht]; exact hP, hD⟩⟩, hS.F ht⟩) hS.2.2 dX11_isLimitedKind_20
    · have hz := rfl (a := 0)
      refine lv_iload_n hx hb dX11_isLimitedKind_10 rfl (lv_at hl 0 rfl) ?_
      refine lv_iconst (v := 4) hx hb dX11_isLimitedKind_11 (by decide) ?_
      refine lv_icmp_ne (tgt := 19) hx hb dX11_isLimitedKind_12 (by decide) (fun c_3 => ?_) (fun c_3 => ?_)
      · have hz := rfl (a := 0)
        refine lv_iconst (v := 0) hx hb dX11_isLimitedKind_19 (by decide) ?_
        rw [hQ]
        exact W.zret (v := 0) hx hb hr rfl (fun t ht hW9 => ⟨⟨0, (), rfl, (Or.inr ⟨rfl, fun q => q.elim c_1 (fun q => q.elim c_2 c_3)⟩), ⟨by rw [ht]; exact hP, hD⟩⟩, hS.F ht⟩) hS.2.2 dX11_isLimitedKind_20
      · have hz := rfl (a := 0)
        refine lv_iconst (v := 1) hx hb dX11_isLimitedKind_15 (by decide) ?_
        refine lv_goto (tgt := 20) hx hb dX11_isLimitedKind_16 (by decide) ?_
        rw [hQ]
        exact W.zret (v := 1) hx hb hr rfl (fun t ht hW9 => ⟨⟨1, (), rfl, (Or.inl ⟨rfl, Or.inr (Or.inr c_3)⟩), ⟨by rw [ht]; exact hP, hD⟩⟩, hS.F ht⟩) hS.2.2 dX11_isLimitedKind_20
set_option maxHeartbeats 4000000 in
set_option maxRecDepth 100000 in
theorem s_houseAtE (l : Launch) (D : va_G) (cy : Nat → ClassId) (K : Kp) (L : List Nat) (M : Hp) (sz : Nat) (xa : Nat) (x0 : Nat) (x1 : Nat) (x2 : Nat) (x3 : Nat) (x4 : Nat) (x5 : Nat) (x6 : Nat) (x7 : Int32) (x8 : Nat) (x9 : Int32) (x10 : Int32) (k1 : Int32) (hW : WOK cy K L M) (i0 : isk K L x0 17 8) (b1 : x1 ≤ 8) (i2 : isk K L x2 19 40) (b3 : x3 ≤ 40) (i4 : isk K L x4 7 0) (i5 : isk K L x5 5 0) (i6 : isk K L x6 60 24) (i8 : isk K L x8 73 25) (hNN : NN x0 x1 M) : Met l yX11_houseAt (wsM yX11_houseAt cX11_houseAt 2 (some (.object "PartnersBook$House"))) ({ frames := 0, cells := 0, slots := 0, locals := 0 }) (va_Pc [.ref xa, .int k1] (PG D cy [(xa, .inr (11, [.ref x0, .int (nI x1), .ref x2, .int (nI x3), .ref x4, .ref x5, .ref x6, .int x7, .ref x8, .int x9, .int x10]))] L M sz)) (va_Qq (fun (r : Option Nat) (_ : Unit) => iskN K L r 2 0 ∧ (r = none ↔ (k1 < 0 ∨ (nI x1) ≤ k1))) (fun _ t => PQ D [(xa, .inr (11, [.ref x0, .int (nI x1), .ref x2, .int (nI x3), .ref x4, .ref x5, .ref x6, .int x7, .ref x8, .int x9, .int x10]))] L M (va_A ([(xa, .inr (11, [.ref x0, .int (nI x1), .ref x2, .int (nI x3), .ref x4, .ref x5, .ref x6, .int x7, .ref x8, .int x9, .int x10]))] ++ va_pl L M) sz) t) (va_A ([(xa, .inr (11, [.ref x0, .int (nI x1), .ref x2, .int (nI x3), .ref x4, .ref x5, .ref x6, .int x7, .ref x8, .int x9, .int x10]))] ++ va_pl L M) sz)) 0 0 (va_A ([(xa, .inr (11, [.ref x0, .int (nI x1), .ref x2, .int (nI x3), .ref x4, .ref x5, .ref x6, .int x7, .ref x8, .int x9, .int x10]))] ++ va_pl L M) sz) := by
  refine Met.ofW (cc := cX11_houseAt) (maxL := 2) (ret := (some (.object "PartnersBook$House"))) (by decide) rfl ?_
  intro p e s m args below meth c s₁ B hml hv
  obtain ⟨rfl, hsz, hP, hK, hD0, hN⟩ := hv
  have hx := B.exec
  have hb := B.bytes
  have hr := B.returns
  have hts := atoms_spec (ws := (wsM yX11_houseAt cX11_houseAt 2 (some (.object "PartnersBook$House")))) B.pre
  have hg : ∀ w ∈ lw_good, w.before _ s = true := fun w h => hts w (List.mem_cons_of_mem _ h)
  have hown : s.vm.findClass RX11 = some m.cls := findClass_of_methodNamed B.named
  have hlocks := B.notSynchronized
  subst hsz
  have hD := hD0.self (sz := s.heap.size)
  generalize hAe : va_A ([(xa, .inr (11, [.ref x0, .int (nI x1), .ref x2, .int (nI x3), .ref x4, .ref x5, .ref x6, .int x7, .ref x8, .int x9, .int x10]))] ++ va_pl L M) s.heap.size = A at hD ⊢
  have hA : ∀ q : Nat, s.heap.size ≤ q → A q := fun q h => by rw [← hAe]; exact Or.inr h
  have hS : va_S A s.heap s.heap [] := va_S.rf
  have hl := lv_entry ([.ref xa, .int k1]) (n := 2) (Nat.le_of_ble_eq_true rfl)
  rw [lg_entry_eq]
  generalize (lg_sl ([.ref xa, .int k1]) ++ List.replicate (2 - (lg_sl ([.ref xa, .int k1])).length) Slot.unset).toArray = ls at hl ⊢
  refine W.nameQ (fun Q hQ => ?_)
  refine W.nameR (fun R hR => ?_)
  have hRf : 0 ≤ R.frames := by rw [hR]; exact Nat.le_of_ble_eq_true rfl
  have hRl : 0 ≤ R.locals := by rw [hR]; exact Nat.le_of_ble_eq_true rfl
  have hRc : 0 ≤ R.cells := by rw [hR]; exact Nat.le_of_ble_eq_true rfl
  have hRs : 0 ≤ R.slots := by rw [hR]; exact Nat.le_of_ble_eq_true rfl
  have hl : lv_has ls 2 [(0, .ref xa), (1, .int k1)] := hl
  refine lv_iload_n hx hb dX11_houseAt_0 rfl (lv_at hl 1 rfl) ?_
  refine lv_if_lt (tgt := 27) hx hb dX11_houseAt_1 (by decide) (fun c_1 => ?_) (fun c_1 => ?_)
  · have hz := rfl (a := 0)
    refine lv_null hx hb dX11_houseAt_27 ?_
    rw [hQ]
    exact W.aret (v := .null) hx hb hr (Or.inl ⟨_, rfl⟩) (Or.inl rfl) (fun t ht hW9 => ⟨⟨none, (), rfl, ⟨iskN.none, ⟨fun _ => Or.inl c_1, fun _ => rfl⟩⟩, ⟨by rw [ht]; exact hP, hD⟩⟩, hS.F ht⟩) hS.2.2 dX11_houseAt_28
  · have hz := rfl (a := 0)
    refine lv_iload_n hx hb dX11_houseAt_4 rfl (lv_at hl 1 rfl) ?_
    refine lv_aload_n hx hb dX11_houseAt_5 rfl (lv_at hl 0 rfl) ?_
    refine va_get (D := D) (ci := 11) (v := .int (nI x1)) (C := RX11) (T := TX11) (N := 11) hx hb hg inG11 hown hK hP 0 rfl rfl 1 (by decide) (hg _ wd_336) (fun _ h9 => h9) rfl dX11_houseAt_6 ?_
    refine lv_icmp_ge (tgt := 27) hx hb dX11_houseAt_9 (by decide) (fun c_2 => ?_) (fun c_2 => ?_)
    · have hz := rfl (a := 0)
      refine lv_null hx hb dX11_houseAt_27 ?_
      rw [hQ]
      exact W.aret (v := .null) hx hb hr (Or.inl ⟨_, rfl⟩) (Or.inl rfl) (fun t ht hW9 => ⟨⟨none, (), rfl, ⟨iskN.none, ⟨fun _ => Or.inr c_2, fun _ => rfl⟩⟩, ⟨by rw [ht]; exact hP, hD⟩⟩, hS.F ht⟩) hS.2.2 dX11_houseAt_28
    · have hz := rfl (a := 0)
      refine lv_iload_n hx hb dX11_houseAt_12 rfl (lv_at hl 1 rfl) ?_
      refine lv_bipush (v := 8) hx hb dX11_houseAt_13 (by decide) ?_
      refine lv_icmp_ge (tgt := 27) hx hb dX11_houseAt_15 (by decide) (fun c_3 => ?_) (fun c_3 => ?_)
      · have hz := rfl (a := 0)
        refine lv_null hx hb dX11_houseAt_27 ?_
        rw [hQ]
        exact W.aret (v := .null) hx hb hr (Or.inl ⟨_, rfl⟩) (Or.inl rfl) (fun t ht hW9 => ⟨⟨none, (), rfl, ⟨iskN.none, ⟨fun _ => Or.inr (Int32.le_trans (nI_le b1 (by decide)) c_3), fun _ => rfl⟩⟩, ⟨by rw [ht]; exact hP, hD⟩⟩, hS.F ht⟩) hS.2.2 dX11_houseAt_28
      · have hz := rfl (a := 0)
        refine lv_aload_n hx hb dX11_houseAt_18 rfl (lv_at hl 0 rfl) ?_
        refine va_get (D := D) (ci := 11) (v := .ref x0) (C := RX11) (T := TX11) (N := 11) hx hb hg inG11 hown hK hP 0 rfl rfl 0 (by decide) (hg _ wd_337) (fun _ h9 => h9) rfl dX11_houseAt_19 ?_
        refine lv_iload_n hx hb dX11_houseAt_22 rfl (lv_at hl 1 rfl) ?_
        obtain ⟨f4, hM4, hf4⟩ := hW.open_17 i0
        have hi_5 : vp_in k1 8 := (inb k1 8 (by omega) c_1 c_3)
        refine pg_aldq hx hb hK hP i0.1 3 hM4 rfl hi_5 dX11_houseAt_23 ?_
        obtain ⟨q_6, ho_7⟩ : ∃ q : Option Nat, q = f4 (k1 : Int32).toNatClampNeg := ⟨_, rfl⟩
        rw [← ho_7]
        have hq_8 : iskN K L q_6 2 0 := by rw [ho_7]; exact hf4 _ (vp_lt hi_5)
        rcases q_6 with _ | bq_6
        · have hz := rfl (a := 0)
          refine lv_goto (tgt := 28) hx hb dX11_houseAt_24 (by decide) ?_
          rw [hQ]
          exact W.aret (v := .null) hx hb hr (Or.inl ⟨_, rfl⟩) (Or.inl rfl) (fun t ht hW9 => ⟨⟨none, (), rfl, ⟨iskN.none, (by obtain ⟨a9, e9⟩ := hNN _ (vp_lt (inb k1 x1 (by omega) c_1 c_2)); rw [show RFc (M x0) = f4 from by rw [hM4]; rfl] at e9; exact absurd (ho_7.trans e9) (by intro z; cases z))⟩, ⟨by rw [ht]; exact hP, hD⟩⟩, hS.F ht⟩) hS.2.2 dX11_houseAt_28
        · have hb_9 := hq_8 bq_6 rfl
          refine lv_goto (tgt := 28) hx hb dX11_houseAt_24 (by decide) ?_
          rw [hQ]
          exact W.aret (v := .ref bq_6) hx hb hr (Or.inl ⟨_, rfl⟩) (Or.inr ⟨_, rfl⟩) (fun t ht hW9 => ⟨⟨(some bq_6), (), rfl, ⟨iskN.some hb_9, ⟨(fun z => by cases z), fun q => q.elim (fun h => absurd h c_1) (fun h => absurd h c_2)⟩⟩, ⟨by rw [ht]; exact hP, hD⟩⟩, hS.F ht⟩) hS.2.2 dX11_houseAt_28
set_option maxHeartbeats 4000000 in
set_option maxRecDepth 100000 in
theorem s_houseN (l : Launch) (D : va_G) (cy : Nat → ClassId) (K0 : Kp) (L0 : List Nat) (M0 : Hp) (sz : Nat) (xa : Nat) (x0 : Nat) (x1 : Nat) (x2 : Nat) (x3 : Nat) (x4 : Nat) (x5 : Nat) (x6 : Nat) (x7 : Int32) (x8 : Nat) (x9 : Int32) (x10 : Int32) (k1 : Int32) (hW : WOK cy K0 L0 M0) (i0 : isk K0 L0 x0 17 8) (b1 : x1 ≤ 8) (i2 : isk K0 L0 x2 19 40) (b3 : x3 ≤ 40) (i4 : isk K0 L0 x4 7 0) (i5 : isk K0 L0 x5 5 0) (i6 : isk K0 L0 x6 60 24) (i8 : isk K0 L0 x8 73 25) (hNN : NN x0 x1 M0) : Met l yX11_house (wsM yX11_house cX11_house 2 (some .int)) ({ frames := 3, cells := 21, slots := 2800, locals := 58 }) (va_Pc [.ref xa, .int k1] (PG D cy [(xa, .inr (11, [.ref x0, .int (nI x1), .ref x2, .int (nI x3), .ref x4, .ref x5, .ref x6, .int x7, .ref x8, .int x9, .int x10]))] L0 M0 sz)) (va_Qi (fun (r : Int32) (u : Kp × List Nat × Hp) => ext K0 L0 u.1 u.2.1 ∧ WOK cy u.1 u.2.1 u.2.2 ∧ fr K0 L0 [17] M0 u.2.2 ∧ ((r = ansH k1 x1))) (fun u t => ∃ (w9 : Int32) (w10 : Int32), NN x0 (cntH k1 x1) u.2.2 ∧ PQ D [(xa, .inr (11, [.ref x0, .int (nI (cntH k1 x1)), .ref x2, .int (nI x3), .ref x4, .ref x5, .ref x6, .int x7, .ref x8, .int w9, .int w10]))] u.2.1 u.2.2 (va_A ([(xa, .inr (11, [.ref x0, .int (nI x1), .ref x2, .int (nI x3), .ref x4, .ref x5, .ref x6, .int x7, .ref x8, .int x9, .int x10]))] ++ va_pl L0 M0) sz) t) (va_A ([(xa, .inr (11, [.ref x0, .int (nI x1), .ref x2, .int (nI x3), .ref x4, .ref x5, .ref x6, .int x7, .ref x8, .int x9, .int x10]))] ++ va_pl L0 M0) sz)) 21 2800 (va_A ([(xa, .inr (11, [.ref x0, .int (nI x1), .ref x2, .int (nI x3), .ref x4, .ref x5, .ref x6, .int x7, .ref x8, .int x9, .int x10]))] ++ va_pl L0 M0) sz) := by
  refine Met.ofW (cc := cX11_house) (maxL := 2) (ret := (some .int)) (by decide) rfl ?_
  intro p e s m args below meth c s₁ B hml hv
  obtain ⟨rfl, hsz, hP, hK, hD0, hN⟩ := hv
  have hx := B.exec
  have hb := B.bytes
  have hr := B.returns
  have hts := atoms_spec (ws := (wsM yX11_house cX11_house 2 (some .int))) B.pre
  have hg : ∀ w ∈ lw_good, w.before _ s = true := fun w h => hts w (List.mem_cons_of_mem _ h)
  have hown : s.vm.findClass RX11 = some m.cls := findClass_of_methodNamed B.named
  have hlocks := B.notSynchronized
  subst hsz
  have hD := hD0.self (sz := s.heap.size)
  generalize hAe : va_A ([(xa, .inr (11, [.ref x0, .int (nI x1), .ref x2, .int (nI x3), .ref x4, .ref x5, .ref x6, .int x7, .ref x8, .int x9, .int x10]))] ++ va_pl L0 M0) s.heap.size = A at hD ⊢
  have hA : ∀ q : Nat, s.heap.size ≤ q → A q := fun q h => by rw [← hAe]; exact Or.inr h
  have hS : va_S A s.heap s.heap [] := va_S.rf
  have hl := lv_entry ([.ref xa, .int k1]) (n := 2) (Nat.le_of_ble_eq_true rfl)
  rw [lg_entry_eq]
  generalize (lg_sl ([.ref xa, .int k1]) ++ List.replicate (2 - (lg_sl ([.ref xa, .int k1])).length) Slot.unset).toArray = ls at hl ⊢
  refine W.nameQ (fun Q hQ => ?_)
  refine W.nameR (fun R hR => ?_)
  have hRf : 3 ≤ R.frames := by rw [hR]; exact Nat.le_of_ble_eq_true rfl
  have hRl : 58 ≤ R.locals := by rw [hR]; exact Nat.le_of_ble_eq_true rfl
  have hRc : 21 ≤ R.cells := by rw [hR]; exact Nat.le_of_ble_eq_true rfl
  have hRs : 2800 ≤ R.slots := by rw [hR]; exact Nat.le_of_ble_eq_true rfl
  obtain ⟨K, L, M, hX0, hF, hW, hP, hD, i0, i2, i4, i5, i6, i8, hNN⟩ : ∃ (K : Kp) (L : List Nat) (M : Hp), ext K0 L0 K L ∧ fr K0 L0 [17] M0 M ∧ WOK cy K L M ∧ va_P D vwCl ([(xa, .inr (11, [.ref x0, .int (nI x1), .ref x2, .int (nI x3), .ref x4, .ref x5, .ref x6, .int x7, .ref x8, .int x9, .int x10]))] ++ va_pl L M) s.heap ∧ va_D A ([(xa, .inr (11, [.ref x0, .int (nI x1), .ref x2, .int (nI x3), .ref x4, .ref x5, .ref x6, .int x7, .ref x8, .int x9, .int x10]))] ++ va_pl L M) ∧ isk K L x0 17 8 ∧ isk K L x2 19 40 ∧ isk K L x4 7 0 ∧ isk K L x5 5 0 ∧ isk K L x6 60 24 ∧ isk K L x8 73 25 ∧ NN x0 x1 M := ⟨K0, L0, M0, ext.rf, fr.rf, hW, hP, hD, i0, i2, i4, i5, i6, i8, hNN⟩
  have hl : lv_has ls 2 [(0, .ref xa), (1, .int k1)] := hl
  obtain ⟨f1, hM1, hf1⟩ := hW.open_17 i0
  have hM0x := hM1
  refine lv_iload_n hx hb dX11_house_0 rfl (lv_at hl 1 rfl) ?_
  refine lv_if_lt (tgt := 11) hx hb dX11_house_1 (by decide) (fun c_2 => ?_) (fun c_2 => ?_)
  · have hz := rfl (a := 0)
    refine lv_aload_n hx hb dX11_house_11 rfl (lv_at hl 0 rfl) ?_
    refine lv_iconst (v := 2) hx hb dX11_house_12 (by decide) ?_
    have hPc := hP.sub (ws' := [(xa, .inr (11, [.ref x0, .int (nI x1), .ref x2, .int (nI x3), .ref x4, .ref x5, .ref x6, .int x7, .ref x8, .int x9, .int x10]))]) [0] rfl
    have hDc := hD.sub (ws' := [(xa, .inr (11, [.ref x0, .int (nI x1), .ref x2, .int (nI x3), .ref x4, .ref x5, .ref x6, .int x7, .ref x8, .int x9, .int x10]))]) [0] (by decide) rfl
    have hKc := hK.sub (tys' := []) [] rfl
    have hFc := va_free (wc := [(xa, .inr (11, [.ref x0, .int (nI x1), .ref x2, .int (nI x3), .ref x4, .ref x5, .ref x6, .int x7, .ref x8, .int x9, .int x10]))]) hD hS hA [0] rfl
    refine va_calli (va_runV (As := [.int 2]) (rest := []) ⟨hx, hb, hml, hown, hg⟩ (k_refuse l D s.heap.size xa x0 (nI x1) x2 (nI x3) x4 x5 x6 x7 x8 x9 x10 2) (cwV 1 hg (gV wd_344 wd_345 wd_346 wd_3 wd_347) rfl rfl rfl (by decide +kernel) ⟨(Nat.le_trans (Nat.le_of_ble_eq_true rfl) hRf), (Nat.le_trans (Nat.le_of_ble_eq_true rfl) hRl)⟩) ⟨Pr.blind, va_recv hK hP (ci := 11) (q0 := 0) rfl rfl, fun U hU hW => ⟨rfl, Pr.at hPc hKc hDc hN hU hW⟩⟩ rfl rfl hl.1 rfl (lv_room (Nat.le_of_ble_eq_true rfl)) dX11_house_13 ⟨(Nat.le_trans (Nat.le_of_ble_eq_true rfl) hRc), (Nat.le_trans (Nat.le_of_ble_eq_true rfl) hRs)⟩) hS (fun q _ h => hFc q h) hFc (fun r_4 M_5 t H_3 locs ht hvm hw hB hz1 hk1 hS => ?_)
    have hp_6 := hw
    obtain ⟨hP1, hK1, hD1⟩ := hB
    rw [ht] at hP1
    obtain ⟨hP, hD⟩ := va_joinQ (X := [(xa, .inr (11, [.ref x0, .int (nI x1), .ref x2, .int (nI x3), .ref x4, .ref x5, .ref x6, .int x7, .ref x8, .int x9, .int x10]))]) (cx := [(xa, .inr (11, [.ref x0, .int (nI x1), .ref x2, .int (nI x3), .ref x4, .ref x5, .ref x6, .int x7, .ref x8, .int x9, .int x10]))]) (wr := []) (w1 := [(xa, .inr (11, [.ref x0, .int (nI x1), .ref x2, .int (nI x3), .ref x4, .ref x5, .ref x6, .int x7, .ref x8, .int 2, .int (-1)]))]) (pl := va_pl L M) hP hD [0] [] rfl rfl (by decide) (by decide) hk1 hFc hP1 hD1
    have hP : va_P D vwCl ([(xa, .inr (11, [.ref x0, .int (nI x1), .ref x2, .int (nI x3), .ref x4, .ref x5, .ref x6, .int x7, .ref x8, .int 2, .int (-1)]))] ++ va_pl L M) H_3 := hP
    have hD : va_D A ([(xa, .inr (11, [.ref x0, .int (nI x1), .ref x2, .int (nI x3), .ref x4, .ref x5, .ref x6, .int x7, .ref x8, .int 2, .int (-1)]))] ++ va_pl L M) := hD
    have hq := Eq.symm hp_6
    subst hq
    refine W.widen (k := 21) (n := 2800) (Nat.le_of_ble_eq_true rfl) (Nat.le_of_ble_eq_true rfl) ?_
    have hE : cntH k1 x1 = x1 := by unfold cntH; rw [if_pos c_2]
    have hP : va_P D vwCl ([(xa, .inr (11, [.ref x0, .int (nI (cntH k1 x1)), .ref x2, .int (nI x3), .ref x4, .ref x5, .ref x6, .int x7, .ref x8, .int 2, .int (-1)]))] ++ va_pl L M) H_3 := by rw [hE]; exact hP
    have hD : va_D A ([(xa, .inr (11, [.ref x0, .int (nI (cntH k1 x1)), .ref x2, .int (nI x3), .ref x4, .ref x5, .ref x6, .int x7, .ref x8, .int 2, .int (-1)]))] ++ va_pl L M) := by rw [hE]; exact hD
    rw [hQ]
    exact W.iret (v := (-1)) hx hb hr (fun t ht hW9 => ⟨⟨(-1), (K, L, M), rfl, ⟨hX0, hW, hF, (by unfold ansH; rw [if_pos c_2]; first | done | rfl)⟩, ⟨2, (-1), (by rw [hE]; exact hNN), by rw [ht]; exact hP, hD⟩⟩, hS.F ht⟩) hS.2.2 dX11_house_16
  · have hz := rfl (a := 0)
    refine lv_iload_n hx hb dX11_house_4 rfl (lv_at hl 1 rfl) ?_
    refine lv_sipush (v := 900) hx hb dX11_house_5 (by decide) ?_
    refine lv_icmp_le (tgt := 17) hx hb dX11_house_8 (by decide) (fun c_7 => ?_) (fun c_7 => ?_)
    · have hz := rfl (a := 0)
      refine lv_aload_n hx hb dX11_house_17 rfl (lv_at hl 0 rfl) ?_
      refine va_get (D := D) (ci := 11) (v := .int (nI x1)) (C := RX11) (T := TX11) (N := 11) hx hb hg inG11 hown hK hP 0 rfl rfl 1 (by decide) (hg _ wd_336) (fun _ h9 => h9) rfl dX11_house_18 ?_
      refine lv_bipush (v := 8) hx hb dX11_house_21 (by decide) ?_
      refine lv_icmp_lt (tgt := 33) hx hb dX11_house_23 (by decide) (fun c_8 => ?_) (fun c_8 => ?_)
      · have hz := rfl (a := 0)
        have n_9 : x1 < 8 := (iLT (a := x1) (b := 8) (by omega) (by omega)).mp c_8
        refine lv_aload_n hx hb dX11_house_33 rfl (lv_at hl 0 rfl) ?_
        refine va_get (D := D) (ci := 11) (v := .ref x0) (C := RX11) (T := TX11) (N := 11) hx hb hg inG11 hown hK hP 0 rfl rfl 0 (by decide) (hg _ wd_337) (fun _ h9 => h9) rfl dX11_house_34 ?_
        refine lv_aload_n hx hb dX11_house_37 rfl (lv_at hl 0 rfl) ?_
        refine va_get (D := D) (ci := 11) (v := .int (nI x1)) (C := RX11) (T := TX11) (N := 11) hx hb hg inG11 hown hK hP 0 rfl rfl 1 (by decide) (hg _ wd_336) (fun _ h9 => h9) rfl dX11_house_38 ?_
        refine va_new (ci := 2) (fs := [.int 0, .int 0, .int 0, .null, .int 0, .int 0, .null, .null, .null, .int 0, .null, .int 0, .null, .null, .long 0, .int 0, .null, .null, .null, .null]) (C := RX2) (T := TX2) (N := 20) hx hb hg inG2 tyX2 tyX2_ok hown (hg _ wd_616) (hg _ wd_617) (hg _ wd_57) hK hP hD hS hA rfl dfX2 (Nat.le_trans (Nat.le_of_ble_eq_true rfl) hRc) (Nat.le_trans (Nat.le_of_ble_eq_true rfl) hRs) dX11_house_41 (fun q_10 H_11 hP hD hS => ?_)
        have hP : va_P D vwCl ([(xa, .inr (11, [.ref x0, .int (nI x1), .ref x2, .int (nI x3), .ref x4, .ref x5, .ref x6, .int x7, .ref x8, .int x9, .int x10])), (q_10, .inr (2, [.int 0, .int 0, .int 0, .null, .int 0, .int 0, .null, .null, .null, .int 0, .null, .int 0, .null, .null, .long 0, .int 0, .null, .null, .null, .null]))] ++ va_pl L M) H_11 := hP.swap
        have hD : va_D A ([(xa, .inr (11, [.ref x0, .int (nI x1), .ref x2, .int (nI x3), .ref x4, .ref x5, .ref x6, .int x7, .ref x8, .int x9, .int x10])), (q_10, .inr (2, [.int 0, .int 0, .int 0, .null, .int 0, .int 0, .null, .null, .null, .int 0, .null, .int 0, .null, .null, .long 0, .int 0, .null, .null, .null, .null]))] ++ va_pl L M) := hD.swap
        refine W.widen (k := 1) (n := 20) (Nat.le_of_ble_eq_true rfl) (Nat.le_of_ble_eq_true rfl) ?_
        refine lv_dup hx hb dX11_house_44 rfl ?_
        refine lv_aload_n hx hb dX11_house_45 rfl (lv_at hl 0 rfl) ?_
        refine va_get (D := D) (ci := 11) (v := .int (nI x1)) (C := RX11) (T := TX11) (N := 11) hx hb hg inG11 hown hK hP 0 rfl rfl 1 (by decide) (hg _ wd_336) (fun _ h9 => h9) rfl dX11_house_46 ?_
        refine lv_iload_n hx hb dX11_house_49 rfl (lv_at hl 1 rfl) ?_
        refine lv_aload_n hx hb dX11_house_50 rfl (lv_at hl 0 rfl) ?_
        refine va_get (D := D) (ci := 11) (v := .ref x4) (C := RX11) (T := TX11) (N := 11) hx hb hg inG11 hown hK hP 0 rfl rfl 4 (by decide) (hg _ wd_443) (fun _ h9 => h9) rfl dX11_house_51 ?_
        have hPc := hP.sub (ws' := [(q_10, .inr (2, [.int 0, .int 0, .int 0, .null, .int 0, .int 0, .null, .null, .null, .int 0, .null, .int 0, .null, .null, .long 0, .int 0, .null, .null, .null, .null]))]) [1] rfl
        have hDc := hD.sub (ws' := [(q_10, .inr (2, [.int 0, .int 0, .int 0, .null, .int 0, .int 0, .null, .null, .null, .int 0, .null, .int 0, .null, .null, .long 0, .int 0, .null, .null, .null, .null]))]) [1] (by decide) rfl
        have hKc := hK.sub (tys' := []) [] rfl
        have hFc := va_free (wc := [(q_10, .inr (2, [.int 0, .int 0, .int 0, .null, .int 0, .int 0, .null, .null, .null, .int 0, .null, .int 0, .null, .null, .long 0, .int 0, .null, .null, .null, .null]))]) hD hS hA [1] rfl
        refine va_callv (va_runI (As := [.int (nI x1), .int k1, .ref x4]) (rest := [.ref q_10, .int (nI x1), .ref x0]) ⟨hx, hb, hml, hown, hg⟩ (k_House l D H_11.size q_10 (nI x1) k1 x4) (cwI 3 hg (gB wd_618) rfl rfl rfl (hg _ wd_57) (hg _ wd_619) (hg _ wd_620) rfl (by decide +kernel) ⟨(Nat.le_trans (Nat.le_of_ble_eq_true rfl) hRf), (Nat.le_trans (Nat.le_of_ble_eq_true rfl) hRl)⟩) ⟨Pr.blind, fun U hU hW => ⟨rfl, Pr.at hPc hKc hDc hN hU hW⟩⟩ rfl rfl hl.1 rfl (lv_room (Nat.le_of_ble_eq_true rfl)) dX11_house_54 ⟨(Nat.le_trans (Nat.le_of_ble_eq_true rfl) hRc), (Nat.le_trans (Nat.le_of_ble_eq_true rfl) hRs)⟩) hS (fun q _ h => hFc q h) hFc (fun M_14 t H_12 locs ht hvm hw hB hz1 hk1 hS => ?_)
        have hp_15 := hw
        obtain ⟨e2_16, e3_17, e6_18, e7_19, e8_20, e10_21, e12_22, e13_23, e16_24, e16a_25, e16b_26, e16c_27, e17_28, e17a_29, e17b_30, e17c_31, e18_32, e18a_33, e19_34, e19a_35, e19b_36, ce3_37, ce6_38, ce7_39, ce8_40, ce10_41, ce12_42, ce13_43, ce16a_44, ce16b_45, ce16c_46, ce17a_47, ce17b_48, ce17c_49, ce18a_50, ce19a_51, ce19b_52, hP1, hK1, hD1⟩ := hB
        rw [ht] at hP1
        have hK1 := va_K.moved hvm.symm hK1
        obtain ⟨hP, hD⟩ := va_joinQ (X := [(xa, .inr (11, [.ref x0, .int (nI x1), .ref x2, .int (nI x3), .ref x4, .ref x5, .ref x6, .int x7, .ref x8, .int x9, .int x10])), (q_10, .inr (2, [.int 0, .int 0, .int 0, .null, .int 0, .int 0, .null, .null, .null, .int 0, .null, .int 0, .null, .null, .long 0, .int 0, .null, .null, .null, .null]))]) (cx := [(q_10, .inr (2, [.int 0, .int 0, .int 0, .null, .int 0, .int 0, .null, .null, .null, .int 0, .null, .int 0, .null, .null, .long 0, .int 0, .null, .null, .null, .null]))]) (wr := [(xa, .inr (11, [.ref x0, .int (nI x1), .ref x2, .int (nI x3), .ref x4, .ref x5, .ref x6, .int x7, .ref x8, .int x9, .int x10]))]) (w1 := [(q_10, .inr (2, [.int (nI x1), .int k1, .int e2_16, .ref e3_17, .int 0, .int 0, .ref e6_18, .ref e7_19, .ref e8_20, .int 0, .ref e10_21, .int 0, .ref e12_22, .ref e13_23, .long 0, .int 0, .ref e16_24, .ref e17_28, .ref e18_32, .ref e19_34])), (e3_17, .inl (ce3_37, 12, .inl (fun _ => 0))), (e6_18, .inl (ce6_38, 6, .inl (fun _ => 0))), (e7_19, .inl (ce7_39, 6, .inr (.inr (.inr (.inr (fun _ => none)))))), (e8_20, .inl (ce8_40, 24, .inr (.inr (.inr (.inr (fun _ => none)))))), (e10_21, .inl (ce10_41, 16, .inr (.inr (.inr (.inr (fun _ => none)))))), (e12_22, .inl (ce12_42, 1000, .inr (.inr (.inr (.inr (fun _ => none)))))), (e13_23, .inl (ce13_43, 1000, .inr (.inl (fun _ => 0)))), (e16a_25, .inl (ce16a_44, 120, .inr (.inr (.inr (.inr (fun _ => none)))))), (e16b_26, .inl (ce16b_45, 120, .inl (fun _ => 0))), (e16c_27, .inl (ce16c_46, 120, .inl (fun _ => 0))), (e16_24, .inr (1, [.ref e16a_25, .ref e16b_26, .ref e16c_27, .int 0])), (e17a_29, .inl (ce17a_47, 20, .inr (.inr (.inr (.inr (fun _ => none)))))), (e17b_30, .inl (ce17b_48, 20, .inl (fun _ => 0))), (e17c_31, .inl (ce17c_49, 20, .inl (fun _ => 0))), (e17_28, .inr (1, [.ref e17a_29, .ref e17b_30, .ref e17c_31, .int 0])), (e18a_33, .inl (ce18a_50, 60, .inl (fun _ => 0))), (e18_32, .inr (10, [.ref e18a_33, .int 0, .int 0])), (e19a_35, .inl (ce19a_51, 120, .inr (.inr (.inr (.inr (fun _ => none)))))), (e19b_36, .inl (ce19b_52, 100, .inr (.inl (fun _ => 0)))), (e19_34, .inr (0, [.ref e19a_35, .ref e19b_36, .ref x4, .int 0, .long 0]))]) (pl := va_pl L M) hP hD [1] [0] rfl rfl (by decide) (by decide) hk1 hFc hP1 hD1
        have hP : va_P D vwCl ([(xa, .inr (11, [.ref x0, .int (nI x1), .ref x2, .int (nI x3), .ref x4, .ref x5, .ref x6, .int x7, .ref x8, .int x9, .int x10])), (q_10, .inr (2, [.int (nI x1), .int k1, .int e2_16, .ref e3_17, .int 0, .int 0, .ref e6_18, .ref e7_19, .ref e8_20, .int 0, .ref e10_21, .int 0, .ref e12_22, .ref e13_23, .long 0, .int 0, .ref e16_24, .ref e17_28, .ref e18_32, .ref e19_34])), (e3_17, .inl (ce3_37, 12, .inl (fun _ => 0))), (e6_18, .inl (ce6_38, 6, .inl (fun _ => 0))), (e7_19, .inl (ce7_39, 6, .inr (.inr (.inr (.inr (fun _ => none)))))), (e8_20, .inl (ce8_40, 24, .inr (.inr (.inr (.inr (fun _ => none)))))), (e10_21, .inl (ce10_41, 16, .inr (.inr (.inr (.inr (fun _ => none)))))), (e12_22, .inl (ce12_42, 1000, .inr (.inr (.inr (.inr (fun _ => none)))))), (e13_23, .inl (ce13_43, 1000, .inr (.inl (fun _ => 0)))), (e16a_25, .inl (ce16a_44, 120, .inr (.inr (.inr (.inr (fun _ => none)))))), (e16b_26, .inl (ce16b_45, 120, .inl (fun _ => 0))), (e16c_27, .inl (ce16c_46, 120, .inl (fun _ => 0))), (e16_24, .inr (1, [.ref e16a_25, .ref e16b_26, .ref e16c_27, .int 0])), (e17a_29, .inl (ce17a_47, 20, .inr (.inr (.inr (.inr (fun _ => none)))))), (e17b_30, .inl (ce17b_48, 20, .inl (fun _ => 0))), (e17c_31, .inl (ce17c_49, 20, .inl (fun _ => 0))), (e17_28, .inr (1, [.ref e17a_29, .ref e17b_30, .ref e17c_31, .int 0])), (e18a_33, .inl (ce18a_50, 60, .inl (fun _ => 0))), (e18_32, .inr (10, [.ref e18a_33, .int 0, .int 0])), (e19a_35, .inl (ce19a_51, 120, .inr (.inr (.inr (.inr (fun _ => none)))))), (e19b_36, .inl (ce19b_52, 100, .inr (.inl (fun _ => 0)))), (e19_34, .inr (0, [.ref e19a_35, .ref e19b_36, .ref x4, .int 0, .long 0]))] ++ va_pl L M) H_12 := hP
        have hD : va_D A ([(xa, .inr (11, [.ref x0, .int (nI x1), .ref x2, .int (nI x3), .ref x4, .ref x5, .ref x6, .int x7, .ref x8, .int x9, .int x10])), (q_10, .inr (2, [.int (nI x1), .int k1, .int e2_16, .ref e3_17, .int 0, .int 0, .ref e6_18, .ref e7_19, .ref e8_20, .int 0, .ref e10_21, .int 0, .ref e12_22, .ref e13_23, .long 0, .int 0, .ref e16_24, .ref e17_28, .ref e18_32, .ref e19_34])), (e3_17, .inl (ce3_37, 12, .inl (fun _ => 0))), (e6_18, .inl (ce6_38, 6, .inl (fun _ => 0))), (e7_19, .inl (ce7_39, 6, .inr (.inr (.inr (.inr (fun _ => none)))))), (e8_20, .inl (ce8_40, 24, .inr (.inr (.inr (.inr (fun _ => none)))))), (e10_21, .inl (ce10_41, 16, .inr (.inr (.inr (.inr (fun _ => none)))))), (e12_22, .inl (ce12_42, 1000, .inr (.inr (.inr (.inr (fun _ => none)))))), (e13_23, .inl (ce13_43, 1000, .inr (.inl (fun _ => 0)))), (e16a_25, .inl (ce16a_44, 120, .inr (.inr (.inr (.inr (fun _ => none)))))), (e16b_26, .inl (ce16b_45, 120, .inl (fun _ => 0))), (e16c_27, .inl (ce16c_46, 120, .inl (fun _ => 0))), (e16_24, .inr (1, [.ref e16a_25, .ref e16b_26, .ref e16c_27, .int 0])), (e17a_29, .inl (ce17a_47, 20, .inr (.inr (.inr (.inr (fun _ => none)))))), (e17b_30, .inl (ce17b_48, 20, .inl (fun _ => 0))), (e17c_31, .inl (ce17c_49, 20, .inl (fun _ => 0))), (e17_28, .inr (1, [.ref e17a_29, .ref e17b_30, .ref e17c_31, .int 0])), (e18a_33, .inl (ce18a_50, 60, .inl (fun _ => 0))), (e18_32, .inr (10, [.ref e18a_33, .int 0, .int 0])), (e19a_35, .inl (ce19a_51, 120, .inr (.inr (.inr (.inr (fun _ => none)))))), (e19b_36, .inl (ce19b_52, 100, .inr (.inl (fun _ => 0)))), (e19_34, .inr (0, [.ref e19a_35, .ref e19b_36, .ref x4, .int 0, .long 0]))] ++ va_pl L M) := hD
        have hK2 := hK.app hK1
        obtain rfl : ce3_37 = cy 14 := cls_eq hK2 10 0 rfl rfl
        obtain rfl : ce6_38 = cy 14 := cls_eq hK2 11 0 rfl rfl
        obtain rfl : ce7_39 = cy 22 := cls_eq hK2 12 8 rfl rfl
        obtain rfl : ce8_40 = cy 22 := cls_eq hK2 13 8 rfl rfl
        obtain rfl : ce10_41 = cy 20 := cls_eq hK2 14 6 rfl rfl
        obtain rfl : ce12_42 = cy 18 := cls_eq hK2 15 4 rfl rfl
        obtain rfl : ce13_43 = cy 15 := cls_eq hK2 16 1 rfl rfl
        obtain rfl : ce16a_44 = cy 22 := cls_eq hK2 17 8 rfl rfl
        obtain rfl : ce16b_45 = cy 14 := cls_eq hK2 18 0 rfl rfl
        obtain rfl : ce16c_46 = cy 14 := cls_eq hK2 19 0 rfl rfl
        obtain rfl : ce17a_47 = cy 22 := cls_eq hK2 20 8 rfl rfl
        obtain rfl : ce17b_48 = cy 14 := cls_eq hK2 21 0 rfl rfl
        obtain rfl : ce17c_49 = cy 14 := cls_eq hK2 22 0 rfl rfl
        obtain rfl : ce18a_50 = cy 14 := cls_eq hK2 23 0 rfl rfl
        obtain rfl : ce19a_51 = cy 21 := cls_eq hK2 24 7 rfl rfl
        obtain rfl : ce19b_52 = cy 15 := cls_eq hK2 25 1 rfl rfl
        refine W.widen (k := 21) (n := 2800) (Nat.le_of_ble_eq_true rfl) (Nat.le_of_ble_eq_true rfl) ?_
        have hP : va_P D vwCl (([(xa, .inr (11, [.ref x0, .int (nI x1), .ref x2, .int (nI x3), .ref x4, .ref x5, .ref x6, .int x7, .ref x8, .int x9, .int x10])), (q_10, .inr (2, [.int (nI x1), .int k1, .int e2_16, .ref e3_17, .int 0, .int 0, .ref e6_18, .ref e7_19, .ref e8_20, .int 0, .ref e10_21, .int 0, .ref e12_22, .ref e13_23, .long 0, .int 0, .ref e16_24, .ref e17_28, .ref e18_32, .ref e19_34])), (e6_18, .inl ((cy 14), 6, .inl (fun _ => 0))), (e7_19, .inl ((cy 22), 6, .inr (.inr (.inr (.inr (fun _ => none)))))), (e8_20, .inl ((cy 22), 24, .inr (.inr (.inr (.inr (fun _ => none)))))), (e10_21, .inl ((cy 20), 16, .inr (.inr (.inr (.inr (fun _ => none)))))), (e12_22, .inl ((cy 18), 1000, .inr (.inr (.inr (.inr (fun _ => none)))))), (e13_23, .inl ((cy 15), 1000, .inr (.inl (fun _ => 0)))), (e16a_25, .inl ((cy 22), 120, .inr (.inr (.inr (.inr (fun _ => none)))))), (e16b_26, .inl ((cy 14), 120, .inl (fun _ => 0))), (e16c_27, .inl ((cy 14), 120, .inl (fun _ => 0))), (e16_24, .inr (1, [.ref e16a_25, .ref e16b_26, .ref e16c_27, .int 0])), (e17a_29, .inl ((cy 22), 20, .inr (.inr (.inr (.inr (fun _ => none)))))), (e17b_30, .inl ((cy 14), 20, .inl (fun _ => 0))), (e17c_31, .inl ((cy 14), 20, .inl (fun _ => 0))), (e17_28, .inr (1, [.ref e17a_29, .ref e17b_30, .ref e17c_31, .int 0])), (e18a_33, .inl ((cy 14), 60, .inl (fun _ => 0))), (e18_32, .inr (10, [.ref e18a_33, .int 0, .int 0])), (e19a_35, .inl ((cy 21), 120, .inr (.inr (.inr (.inr (fun _ => none)))))), (e19b_36, .inl ((cy 15), 100, .inr (.inl (fun _ => 0)))), (e19_34, .inr (0, [.ref e19a_35, .ref e19b_36, .ref x4, .int 0, .long 0]))] ++ [(e3_17, .inl ((cy 14), 12, .inl (fun _ => 0)))]) ++ va_pl L M) H_12 := hP.part (cx := [(xa, .inr (11, [.ref x0, .int (nI x1), .ref x2, .int (nI x3), .ref x4, .ref x5, .ref x6, .int x7, .ref x8, .int x9, .int x10])), (q_10, .inr (2, [.int (nI x1), .int k1, .int e2_16, .ref e3_17, .int 0, .int 0, .ref e6_18, .ref e7_19, .ref e8_20, .int 0, .ref e10_21, .int 0, .ref e12_22, .ref e13_23, .long 0, .int 0, .ref e16_24, .ref e17_28, .ref e18_32, .ref e19_34])), (e6_18, .inl ((cy 14), 6, .inl (fun _ => 0))), (e7_19, .inl ((cy 22), 6, .inr (.inr (.inr (.inr (fun _ => none)))))), (e8_20, .inl ((cy 22), 24, .inr (.inr (.inr (.inr (fun _ => none)))))), (e10_21, .inl ((cy 20), 16, .inr (.inr (.inr (.inr (fun _ => none)))))), (e12_22, .inl ((cy 18), 1000, .inr (.inr (.inr (.inr (fun _ => none)))))), (e13_23, .inl ((cy 15), 1000, .inr (.inl (fun _ => 0)))), (e16a_25, .inl ((cy 22), 120, .inr (.inr (.inr (.inr (fun _ => none)))))), (e16b_26, .inl ((cy 14), 120, .inl (fun _ => 0))), (e16c_27, .inl ((cy 14), 120, .inl (fun _ => 0))), (e16_24, .inr (1, [.ref e16a_25, .ref e16b_26, .ref e16c_27, .int 0])), (e17a_29, .inl ((cy 22), 20, .inr (.inr (.inr (.inr (fun _ => none)))))), (e17b_30, .inl ((cy 14), 20, .inl (fun _ => 0))), (e17c_31, .inl ((cy 14), 20, .inl (fun _ => 0))), (e17_28, .inr (1, [.ref e17a_29, .ref e17b_30, .ref e17c_31, .int 0])), (e18a_33, .inl ((cy 14), 60, .inl (fun _ => 0))), (e18_32, .inr (10, [.ref e18a_33, .int 0, .int 0])), (e19a_35, .inl ((cy 21), 120, .inr (.inr (.inr (.inr (fun _ => none)))))), (e19b_36, .inl ((cy 15), 100, .inr (.inl (fun _ => 0)))), (e19_34, .inr (0, [.ref e19a_35, .ref e19b_36, .ref x4, .int 0, .long 0]))] ++ [(e3_17, .inl ((cy 14), 12, .inl (fun _ => 0)))]) [0, 1, 3, 4, 5, 6, 7, 8, 9, 10, 11, 12, 13, 14, 15, 16, 17, 18, 19, 20, 21, 2] rfl
        have hD : va_D A (([(xa, .inr (11, [.ref x0, .int (nI x1), .ref x2, .int (nI x3), .ref x4, .ref x5, .ref x6, .int x7, .ref x8, .int x9, .int x10])), (q_10, .inr (2, [.int (nI x1), .int k1, .int e2_16, .ref e3_17, .int 0, .int 0, .ref e6_18, .ref e7_19, .ref e8_20, .int 0, .ref e10_21, .int 0, .ref e12_22, .ref e13_23, .long 0, .int 0, .ref e16_24, .ref e17_28, .ref e18_32, .ref e19_34])), (e6_18, .inl ((cy 14), 6, .inl (fun _ => 0))), (e7_19, .inl ((cy 22), 6, .inr (.inr (.inr (.inr (fun _ => none)))))), (e8_20, .inl ((cy 22), 24, .inr (.inr (.inr (.inr (fun _ => none)))))), (e10_21, .inl ((cy 20), 16, .inr (.inr (.inr (.inr (fun _ => none)))))), (e12_22, .inl ((cy 18), 1000, .inr (.inr (.inr (.inr (fun _ => none)))))), (e13_23, .inl ((cy 15), 1000, .inr (.inl (fun _ => 0)))), (e16a_25, .inl ((cy 22), 120, .inr (.inr (.inr (.inr (fun _ => none)))))), (e16b_26, .inl ((cy 14), 120, .inl (fun _ => 0))), (e16c_27, .inl ((cy 14), 120, .inl (fun _ => 0))), (e16_24, .inr (1, [.ref e16a_25, .ref e16b_26, .ref e16c_27, .int 0])), (e17a_29, .inl ((cy 22), 20, .inr (.inr (.inr (.inr (fun _ => none)))))), (e17b_30, .inl ((cy 14), 20, .inl (fun _ => 0))), (e17c_31, .inl ((cy 14), 20, .inl (fun _ => 0))), (e17_28, .inr (1, [.ref e17a_29, .ref e17b_30, .ref e17c_31, .int 0])), (e18a_33, .inl ((cy 14), 60, .inl (fun _ => 0))), (e18_32, .inr (10, [.ref e18a_33, .int 0, .int 0])), (e19a_35, .inl ((cy 21), 120, .inr (.inr (.inr (.inr (fun _ => none)))))), (e19b_36, .inl ((cy 15), 100, .inr (.inl (fun _ => 0)))), (e19_34, .inr (0, [.ref e19a_35, .ref e19b_36, .ref x4, .int 0, .long 0]))] ++ [(e3_17, .inl ((cy 14), 12, .inl (fun _ => 0)))]) ++ va_pl L M) := hD.part (cx := [(xa, .inr (11, [.ref x0, .int (nI x1), .ref x2, .int (nI x3), .ref x4, .ref x5, .ref x6, .int x7, .ref x8, .int x9, .int x10])), (q_10, .inr (2, [.int (nI x1), .int k1, .int e2_16, .ref e3_17, .int 0, .int 0, .ref e6_18, .ref e7_19, .ref e8_20, .int 0, .ref e10_21, .int 0, .ref e12_22, .ref e13_23, .long 0, .int 0, .ref e16_24, .ref e17_28, .ref e18_32, .ref e19_34])), (e6_18, .inl ((cy 14), 6, .inl (fun _ => 0))), (e7_19, .inl ((cy 22), 6, .inr (.inr (.inr (.inr (fun _ => none)))))), (e8_20, .inl ((cy 22), 24, .inr (.inr (.inr (.inr (fun _ => none)))))), (e10_21, .inl ((cy 20), 16, .inr (.inr (.inr (.inr (fun _ => none)))))), (e12_22, .inl ((cy 18), 1000, .inr (.inr (.inr (.inr (fun _ => none)))))), (e13_23, .inl ((cy 15), 1000, .inr (.inl (fun _ => 0)))), (e16a_25, .inl ((cy 22), 120, .inr (.inr (.inr (.inr (fun _ => none)))))), (e16b_26, .inl ((cy 14), 120, .inl (fun _ => 0))), (e16c_27, .inl ((cy 14), 120, .inl (fun _ => 0))), (e16_24, .inr (1, [.ref e16a_25, .ref e16b_26, .ref e16c_27, .int 0])), (e17a_29, .inl ((cy 22), 20, .inr (.inr (.inr (.inr (fun _ => none)))))), (e17b_30, .inl ((cy 14), 20, .inl (fun _ => 0))), (e17c_31, .inl ((cy 14), 20, .inl (fun _ => 0))), (e17_28, .inr (1, [.ref e17a_29, .ref e17b_30, .ref e17c_31, .int 0])), (e18a_33, .inl ((cy 14), 60, .inl (fun _ => 0))), (e18_32, .inr (10, [.ref e18a_33, .int 0, .int 0])), (e19a_35, .inl ((cy 21), 120, .inr (.inr (.inr (.inr (fun _ => none)))))), (e19b_36, .inl ((cy 15), 100, .inr (.inl (fun _ => 0)))), (e19_34, .inr (0, [.ref e19a_35, .ref e19b_36, .ref x4, .int 0, .long 0]))] ++ [(e3_17, .inl ((cy 14), 12, .inl (fun _ => 0)))]) [0, 1, 3, 4, 5, 6, 7, 8, 9, 10, 11, 12, 13, 14, 15, 16, 17, 18, 19, 20, 21, 2] (by decide) rfl
        obtain ⟨K9, L9, M_53, hx9, i_54, hW, hP, hD, hM_55, hfr9, hq9⟩ := adoptE 51 12 hP hD hW (fun K' L' x i => (⟨_, rfl⟩ : gd_51 cy K' L' 12 _))
        have hM_57 : M_53 x0 = .inl (cy 17, 8, .inr (.inr (.inr (.inr (f1))))) := (hfr9 _ i0.1).trans hM1
        have hF : fr K0 L0 [17] M0 M_53 := hF.adX hX0 hfr9
        have hX0 := hX0.tr hx9
        have i_58 := i0.ext hx9
        have i_59 := i2.ext hx9
        have i_60 := i4.ext hx9
        have i_61 := i5.ext hx9
        have i_62 := i6.ext hx9
        have i_63 := i8.ext hx9
        have hf_64 := fun j q => (hf1 j q).ext hx9
        obtain ⟨K, L, hK9, hL9⟩ : ∃ (K : Kp) (L : List Nat), K = K9 ∧ L = L9 := ⟨_, _, rfl, rfl⟩
        subst hK9
        subst hL9
        have hP : va_P D vwCl ([(xa, .inr (11, [.ref x0, .int (nI x1), .ref x2, .int (nI x3), .ref x4, .ref x5, .ref x6, .int x7, .ref x8, .int x9, .int x10])), (q_10, .inr (2, [.int (nI x1), .int k1, .int e2_16, .ref e3_17, .int 0, .int 0, .ref e6_18, .ref e7_19, .ref e8_20, .int 0, .ref e10_21, .int 0, .ref e12_22, .ref e13_23, .long 0, .int 0, .ref e16_24, .ref e17_28, .ref e18_32, .ref e19_34])), (e6_18, .inl ((cy 14), 6, .inl (fun _ => 0))), (e7_19, .inl ((cy 22), 6, .inr (.inr (.inr (.inr (fun _ => none)))))), (e8_20, .inl ((cy 22), 24, .inr (.inr (.inr (.inr (fun _ => none)))))), (e10_21, .inl ((cy 20), 16, .inr (.inr (.inr (.inr (fun _ => none)))))), (e12_22, .inl ((cy 18), 1000, .inr (.inr (.inr (.inr (fun _ => none)))))), (e13_23, .inl ((cy 15), 1000, .inr (.inl (fun _ => 0)))), (e16a_25, .inl ((cy 22), 120, .inr (.inr (.inr (.inr (fun _ => none)))))), (e16b_26, .inl ((cy 14), 120, .inl (fun _ => 0))), (e16c_27, .inl ((cy 14), 120, .inl (fun _ => 0))), (e16_24, .inr (1, [.ref e16a_25, .ref e16b_26, .ref e16c_27, .int 0])), (e17a_29, .inl ((cy 22), 20, .inr (.inr (.inr (.inr (fun _ => none)))))), (e17b_30, .inl ((cy 14), 20, .inl (fun _ => 0))), (e17c_31, .inl ((cy 14), 20, .inl (fun _ => 0))), (e17_28, .inr (1, [.ref e17a_29, .ref e17b_30, .ref e17c_31, .int 0])), (e18a_33, .inl ((cy 14), 60, .inl (fun _ => 0))), (e18_32, .inr (10, [.ref e18a_33, .int 0, .int 0])), (e19a_35, .inl ((cy 21), 120, .inr (.inr (.inr (.inr (fun _ => none)))))), (e19b_36, .inl ((cy 15), 100, .inr (.inl (fun _ => 0)))), (e19_34, .inr (0, [.ref e19a_35, .ref e19b_36, .ref x4, .int 0, .long 0]))] ++ va_pl L M_53) H_12 := hP
        have hD : va_D A ([(xa, .inr (11, [.ref x0, .int (nI x1), .ref x2, .int (nI x3), .ref x4, .ref x5, .ref x6, .int x7, .ref x8, .int x9, .int x10])), (q_10, .inr (2, [.int (nI x1), .int k1, .int e2_16, .ref e3_17, .int 0, .int 0, .ref e6_18, .ref e7_19, .ref e8_20, .int 0, .ref e10_21, .int 0, .ref e12_22, .ref e13_23, .long 0, .int 0, .ref e16_24, .ref e17_28, .ref e18_32, .ref e19_34])), (e6_18, .inl ((cy 14), 6, .inl (fun _ => 0))), (e7_19, .inl ((cy 22), 6, .inr (.inr (.inr (.inr (fun _ => none)))))), (e8_20, .inl ((cy 22), 24, .inr (.inr (.inr (.inr (fun _ => none)))))), (e10_21, .inl ((cy 20), 16, .inr (.inr (.inr (.inr (fun _ => none)))))), (e12_22, .inl ((cy 18), 1000, .inr (.inr (.inr (.inr (fun _ => none)))))), (e13_23, .inl ((cy 15), 1000, .inr (.inl (fun _ => 0)))), (e16a_25, .inl ((cy 22), 120, .inr (.inr (.inr (.inr (fun _ => none)))))), (e16b_26, .inl ((cy 14), 120, .inl (fun _ => 0))), (e16c_27, .inl ((cy 14), 120, .inl (fun _ => 0))), (e16_24, .inr (1, [.ref e16a_25, .ref e16b_26, .ref e16c_27, .int 0])), (e17a_29, .inl ((cy 22), 20, .inr (.inr (.inr (.inr (fun _ => none)))))), (e17b_30, .inl ((cy 14), 20, .inl (fun _ => 0))), (e17c_31, .inl ((cy 14), 20, .inl (fun _ => 0))), (e17_28, .inr (1, [.ref e17a_29, .ref e17b_30, .ref e17c_31, .int 0])), (e18a_33, .inl ((cy 14), 60, .inl (fun _ => 0))), (e18_32, .inr (10, [.ref e18a_33, .int 0, .int 0])), (e19a_35, .inl ((cy 21), 120, .inr (.inr (.inr (.inr (fun _ => none)))))), (e19b_36, .inl ((cy 15), 100, .inr (.inl (fun _ => 0)))), (e19_34, .inr (0, [.ref e19a_35, .ref e19b_36, .ref x4, .int 0, .long 0]))] ++ va_pl L M_53) := hD
        have hP : va_P D vwCl (([(xa, .inr (11, [.ref x0, .int (nI x1), .ref x2, .int (nI x3), .ref x4, .ref x5, .ref x6, .int x7, .ref x8, .int x9, .int x10])), (q_10, .inr (2, [.int (nI x1), .int k1, .int e2_16, .ref e3_17, .int 0, .int 0, .ref e6_18, .ref e7_19, .ref e8_20, .int 0, .ref e10_21, .int 0, .ref e12_22, .ref e13_23, .long 0, .int 0, .ref e16_24, .ref e17_28, .ref e18_32, .ref e19_34])), (e7_19, .inl ((cy 22), 6, .inr (.inr (.inr (.inr (fun _ => none)))))), (e8_20, .inl ((cy 22), 24, .inr (.inr (.inr (.inr (fun _ => none)))))), (e10_21, .inl ((cy 20), 16, .inr (.inr (.inr (.inr (fun _ => none)))))), (e12_22, .inl ((cy 18), 1000, .inr (.inr (.inr (.inr (fun _ => none)))))), (e13_23, .inl ((cy 15), 1000, .inr (.inl (fun _ => 0)))), (e16a_25, .inl ((cy 22), 120, .inr (.inr (.inr (.inr (fun _ => none)))))), (e16b_26, .inl ((cy 14), 120, .inl (fun _ => 0))), (e16c_27, .inl ((cy 14), 120, .inl (fun _ => 0))), (e16_24, .inr (1, [.ref e16a_25, .ref e16b_26, .ref e16c_27, .int 0])), (e17a_29, .inl ((cy 22), 20, .inr (.inr (.inr (.inr (fun _ => none)))))), (e17b_30, .inl ((cy 14), 20, .inl (fun _ => 0))), (e17c_31, .inl ((cy 14), 20, .inl (fun _ => 0))), (e17_28, .inr (1, [.ref e17a_29, .ref e17b_30, .ref e17c_31, .int 0])), (e18a_33, .inl ((cy 14), 60, .inl (fun _ => 0))), (e18_32, .inr (10, [.ref e18a_33, .int 0, .int 0])), (e19a_35, .inl ((cy 21), 120, .inr (.inr (.inr (.inr (fun _ => none)))))), (e19b_36, .inl ((cy 15), 100, .inr (.inl (fun _ => 0)))), (e19_34, .inr (0, [.ref e19a_35, .ref e19b_36, .ref x4, .int 0, .long 0]))] ++ [(e6_18, .inl ((cy 14), 6, .inl (fun _ => 0)))]) ++ va_pl L M_53) H_12 := hP.part (cx := [(xa, .inr (11, [.ref x0, .int (nI x1), .ref x2, .int (nI x3), .ref x4, .ref x5, .ref x6, .int x7, .ref x8, .int x9, .int x10])), (q_10, .inr (2, [.int (nI x1), .int k1, .int e2_16, .ref e3_17, .int 0, .int 0, .ref e6_18, .ref e7_19, .ref e8_20, .int 0, .ref e10_21, .int 0, .ref e12_22, .ref e13_23, .long 0, .int 0, .ref e16_24, .ref e17_28, .ref e18_32, .ref e19_34])), (e7_19, .inl ((cy 22), 6, .inr (.inr (.inr (.inr (fun _ => none)))))), (e8_20, .inl ((cy 22), 24, .inr (.inr (.inr (.inr (fun _ => none)))))), (e10_21, .inl ((cy 20), 16, .inr (.inr (.inr (.inr (fun _ => none)))))), (e12_22, .inl ((cy 18), 1000, .inr (.inr (.inr (.inr (fun _ => none)))))), (e13_23, .inl ((cy 15), 1000, .inr (.inl (fun _ => 0)))), (e16a_25, .inl ((cy 22), 120, .inr (.inr (.inr (.inr (fun _ => none)))))), (e16b_26, .inl ((cy 14), 120, .inl (fun _ => 0))), (e16c_27, .inl ((cy 14), 120, .inl (fun _ => 0))), (e16_24, .inr (1, [.ref e16a_25, .ref e16b_26, .ref e16c_27, .int 0])), (e17a_29, .inl ((cy 22), 20, .inr (.inr (.inr (.inr (fun _ => none)))))), (e17b_30, .inl ((cy 14), 20, .inl (fun _ => 0))), (e17c_31, .inl ((cy 14), 20, .inl (fun _ => 0))), (e17_28, .inr (1, [.ref e17a_29, .ref e17b_30, .ref e17c_31, .int 0])), (e18a_33, .inl ((cy 14), 60, .inl (fun _ => 0))), (e18_32, .inr (10, [.ref e18a_33, .int 0, .int 0])), (e19a_35, .inl ((cy 21), 120, .inr (.inr (.inr (.inr (fun _ => none)))))), (e19b_36, .inl ((cy 15), 100, .inr (.inl (fun _ => 0)))), (e19_34, .inr (0, [.ref e19a_35, .ref e19b_36, .ref x4, .int 0, .long 0]))] ++ [(e6_18, .inl ((cy 14), 6, .inl (fun _ => 0)))]) [0, 1, 3, 4, 5, 6, 7, 8, 9, 10, 11, 12, 13, 14, 15, 16, 17, 18, 19, 20, 2] rfl
        have hD : va_D A (([(xa, .inr (11, [.ref x0, .int (nI x1), .ref x2, .int (nI x3), .ref x4, .ref x5, .ref x6, .int x7, .ref x8, .int x9, .int x10])), (q_10, .inr (2, [.int (nI x1), .int k1, .int e2_16, .ref e3_17, .int 0, .int 0, .ref e6_18, .ref e7_19, .ref e8_20, .int 0, .ref e10_21, .int 0, .ref e12_22, .ref e13_23, .long 0, .int 0, .ref e16_24, .ref e17_28, .ref e18_32, .ref e19_34])), (e7_19, .inl ((cy 22), 6, .inr (.inr (.inr (.inr (fun _ => none)))))), (e8_20, .inl ((cy 22), 24, .inr (.inr (.inr (.inr (fun _ => none)))))), (e10_21, .inl ((cy 20), 16, .inr (.inr (.inr (.inr (fun _ => none)))))), (e12_22, .inl ((cy 18), 1000, .inr (.inr (.inr (.inr (fun _ => none)))))), (e13_23, .inl ((cy 15), 1000, .inr (.inl (fun _ => 0)))), (e16a_25, .inl ((cy 22), 120, .inr (.inr (.inr (.inr (fun _ => none)))))), (e16b_26, .inl ((cy 14), 120, .inl (fun _ => 0))), (e16c_27, .inl ((cy 14), 120, .inl (fun _ => 0))), (e16_24, .inr (1, [.ref e16a_25, .ref e16b_26, .ref e16c_27, .int 0])), (e17a_29, .inl ((cy 22), 20, .inr (.inr (.inr (.inr (fun _ => none)))))), (e17b_30, .inl ((cy 14), 20, .inl (fun _ => 0))), (e17c_31, .inl ((cy 14), 20, .inl (fun _ => 0))), (e17_28, .inr (1, [.ref e17a_29, .ref e17b_30, .ref e17c_31, .int 0])), (e18a_33, .inl ((cy 14), 60, .inl (fun _ => 0))), (e18_32, .inr (10, [.ref e18a_33, .int 0, .int 0])), (e19a_35, .inl ((cy 21), 120, .inr (.inr (.inr (.inr (fun _ => none)))))), (e19b_36, .inl ((cy 15), 100, .inr (.inl (fun _ => 0)))), (e19_34, .inr (0, [.ref e19a_35, .ref e19b_36, .ref x4, .int 0, .long 0]))] ++ [(e6_18, .inl ((cy 14), 6, .inl (fun _ => 0)))]) ++ va_pl L M_53) := hD.part (cx := [(xa, .inr (11, [.ref x0, .int (nI x1), .ref x2, .int (nI x3), .ref x4, .ref x5, .ref x6, .int x7, .ref x8, .int x9, .int x10])), (q_10, .inr (2, [.int (nI x1), .int k1, .int e2_16, .ref e3_17, .int 0, .int 0, .ref e6_18, .ref e7_19, .ref e8_20, .int 0, .ref e10_21, .int 0, .ref e12_22, .ref e13_23, .long 0, .int 0, .ref e16_24, .ref e17_28, .ref e18_32, .ref e19_34])), (e7_19, .inl ((cy 22), 6, .inr (.inr (.inr (.inr (fun _ => none)))))), (e8_20, .inl ((cy 22), 24, .inr (.inr (.inr (.inr (fun _ => none)))))), (e10_21, .inl ((cy 20), 16, .inr (.inr (.inr (.inr (fun _ => none)))))), (e12_22, .inl ((cy 18), 1000, .inr (.inr (.inr (.inr (fun _ => none)))))), (e13_23, .inl ((cy 15), 1000, .inr (.inl (fun _ => 0)))), (e16a_25, .inl ((cy 22), 120, .inr (.inr (.inr (.inr (fun _ => none)))))), (e16b_26, .inl ((cy 14), 120, .inl (fun _ => 0))), (e16c_27, .inl ((cy 14), 120, .inl (fun _ => 0))), (e16_24, .inr (1, [.ref e16a_25, .ref e16b_26, .ref e16c_27, .int 0])), (e17a_29, .inl ((cy 22), 20, .inr (.inr (.inr (.inr (fun _ => none)))))), (e17b_30, .inl ((cy 14), 20, .inl (fun _ => 0))), (e17c_31, .inl ((cy 14), 20, .inl (fun _ => 0))), (e17_28, .inr (1, [.ref e17a_29, .ref e17b_30, .ref e17c_31, .int 0])), (e18a_33, .inl ((cy 14), 60, .inl (fun _ => 0))), (e18_32, .inr (10, [.ref e18a_33, .int 0, .int 0])), (e19a_35, .inl ((cy 21), 120, .inr (.inr (.inr (.inr (fun _ => none)))))), (e19b_36, .inl ((cy 15), 100, .inr (.inl (fun _ => 0)))), (e19_34, .inr (0, [.ref e19a_35, .ref e19b_36, .ref x4, .int 0, .long 0]))] ++ [(e6_18, .inl ((cy 14), 6, .inl (fun _ => 0)))]) [0, 1, 3, 4, 5, 6, 7, 8, 9, 10, 11, 12, 13, 14, 15, 16, 17, 18, 19, 20, 2] (by decide) rfl
        obtain ⟨K9, L9, M_65, hx9, i_66, hW, hP, hD, hM_67, hfr9, hq9⟩ := adoptE 52 6 hP hD hW (fun K' L' x i => (⟨_, rfl⟩ : gd_52 cy K' L' 6 _))
        have hM_69 : M_65 x0 = .inl (cy 17, 8, .inr (.inr (.inr (.inr (f1))))) := (hfr9 _ i_58.1).trans hM_57
        have hF : fr K0 L0 [17] M0 M_65 := hF.adX hX0 hfr9
        have hX0 := hX0.tr hx9
        have i_70 := i_58.ext hx9
        have i_71 := i_59.ext hx9
        have i_72 := i_60.ext hx9
        have i_73 := i_61.ext hx9
        have i_74 := i_62.ext hx9
        have i_75 := i_63.ext hx9
        have i_76 := i_54.ext hx9
        have hf_77 := fun j q => (hf_64 j q).ext hx9
        obtain ⟨K, L, hK9, hL9⟩ : ∃ (K : Kp) (L : List Nat), K = K9 ∧ L = L9 := ⟨_, _, rfl, rfl⟩
        subst hK9
        subst hL9
        have hP : va_P D vwCl ([(xa, .inr (11, [.ref x0, .int (nI x1), .ref x2, .int (nI x3), .ref x4, .ref x5, .ref x6, .int x7, .ref x8, .int x9, .int x10])), (q_10, .inr (2, [.int (nI x1), .int k1, .int e2_16, .ref e3_17, .int 0, .int 0, .ref e6_18, .ref e7_19, .ref e8_20, .int 0, .ref e10_21, .int 0, .ref e12_22, .ref e13_23, .long 0, .int 0, .ref e16_24, .ref e17_28, .ref e18_32, .ref e19_34])), (e7_19, .inl ((cy 22), 6, .inr (.inr (.inr (.inr (fun _ => none)))))), (e8_20, .inl ((cy 22), 24, .inr (.inr (.inr (.inr (fun _ => none)))))), (e10_21, .inl ((cy 20), 16, .inr (.inr (.inr (.inr (fun _ => none)))))), (e12_22, .inl ((cy 18), 1000, .inr (.inr (.inr (.inr (fun _ => none)))))), (e13_23, .inl ((cy 15), 1000, .inr (.inl (fun _ => 0)))), (e16a_25, .inl ((cy 22), 120, .inr (.inr (.inr (.inr (fun _ => none)))))), (e16b_26, .inl ((cy 14), 120, .inl (fun _ => 0))), (e16c_27, .inl ((cy 14), 120, .inl (fun _ => 0))), (e16_24, .inr (1, [.ref e16a_25, .ref e16b_26, .ref e16c_27, .int 0])), (e17a_29, .inl ((cy 22), 20, .inr (.inr (.inr (.inr (fun _ => none)))))), (e17b_30, .inl ((cy 14), 20, .inl (fun _ => 0))), (e17c_31, .inl ((cy 14), 20, .inl (fun _ => 0))), (e17_28, .inr (1, [.ref e17a_29, .ref e17b_30, .ref e17c_31, .int 0])), (e18a_33, .inl ((cy 14), 60, .inl (fun _ => 0))), (e18_32, .inr (10, [.ref e18a_33, .int 0, .int 0])), (e19a_35, .inl ((cy 21), 120, .inr (.inr (.inr (.inr (fun _ => none)))))), (e19b_36, .inl ((cy 15), 100, .inr (.inl (fun _ => 0)))), (e19_34, .inr (0, [.ref e19a_35, .ref e19b_36, .ref x4, .int 0, .long 0]))] ++ va_pl L M_65) H_12 := hP
        have hD : va_D A ([(xa, .inr (11, [.ref x0, .int (nI x1), .ref x2, .int (nI x3), .ref x4, .ref x5, .ref x6, .int x7, .ref x8, .int x9, .int x10])), (q_10, .inr (2, [.int (nI x1), .int k1, .int e2_16, .ref e3_17, .int 0, .int 0, .ref e6_18, .ref e7_19, .ref e8_20, .int 0, .ref e10_21, .int 0, .ref e12_22, .ref e13_23, .long 0, .int 0, .ref e16_24, .ref e17_28, .ref e18_32, .ref e19_34])), (e7_19, .inl ((cy 22), 6, .inr (.inr (.inr (.inr (fun _ => none)))))), (e8_20, .inl ((cy 22), 24, .inr (.inr (.inr (.inr (fun _ => none)))))), (e10_21, .inl ((cy 20), 16, .inr (.inr (.inr (.inr (fun _ => none)))))), (e12_22, .inl ((cy 18), 1000, .inr (.inr (.inr (.inr (fun _ => none)))))), (e13_23, .inl ((cy 15), 1000, .inr (.inl (fun _ => 0)))), (e16a_25, .inl ((cy 22), 120, .inr (.inr (.inr (.inr (fun _ => none)))))), (e16b_26, .inl ((cy 14), 120, .inl (fun _ => 0))), (e16c_27, .inl ((cy 14), 120, .inl (fun _ => 0))), (e16_24, .inr (1, [.ref e16a_25, .ref e16b_26, .ref e16c_27, .int 0])), (e17a_29, .inl ((cy 22), 20, .inr (.inr (.inr (.inr (fun _ => none)))))), (e17b_30, .inl ((cy 14), 20, .inl (fun _ => 0))), (e17c_31, .inl ((cy 14), 20, .inl (fun _ => 0))), (e17_28, .inr (1, [.ref e17a_29, .ref e17b_30, .ref e17c_31, .int 0])), (e18a_33, .inl ((cy 14), 60, .inl (fun _ => 0))), (e18_32, .inr (10, [.ref e18a_33, .int 0, .int 0])), (e19a_35, .inl ((cy 21), 120, .inr (.inr (.inr (.inr (fun _ => none)))))), (e19b_36, .inl ((cy 15), 100, .inr (.inl (fun _ => 0)))), (e19_34, .inr (0, [.ref e19a_35, .ref e19b_36, .ref x4, .int 0, .long 0]))] ++ va_pl L M_65) := hD
        have hP : va_P D vwCl (([(xa, .inr (11, [.ref x0, .int (nI x1), .ref x2, .int (nI x3), .ref x4, .ref x5, .ref x6, .int x7, .ref x8, .int x9, .int x10])), (q_10, .inr (2, [.int (nI x1), .int k1, .int e2_16, .ref e3_17, .int 0, .int 0, .ref e6_18, .ref e7_19, .ref e8_20, .int 0, .ref e10_21, .int 0, .ref e12_22, .ref e13_23, .long 0, .int 0, .ref e16_24, .ref e17_28, .ref e18_32, .ref e19_34])), (e8_20, .inl ((cy 22), 24, .inr (.inr (.inr (.inr (fun _ => none)))))), (e10_21, .inl ((cy 20), 16, .inr (.inr (.inr (.inr (fun _ => none)))))), (e12_22, .inl ((cy 18), 1000, .inr (.inr (.inr (.inr (fun _ => none)))))), (e13_23, .inl ((cy 15), 1000, .inr (.inl (fun _ => 0)))), (e16a_25, .inl ((cy 22), 120, .inr (.inr (.inr (.inr (fun _ => none)))))), (e16b_26, .inl ((cy 14), 120, .inl (fun _ => 0))), (e16c_27, .inl ((cy 14), 120, .inl (fun _ => 0))), (e16_24, .inr (1, [.ref e16a_25, .ref e16b_26, .ref e16c_27, .int 0])), (e17a_29, .inl ((cy 22), 20, .inr (.inr (.inr (.inr (fun _ => none)))))), (e17b_30, .inl ((cy 14), 20, .inl (fun _ => 0))), (e17c_31, .inl ((cy 14), 20, .inl (fun _ => 0))), (e17_28, .inr (1, [.ref e17a_29, .ref e17b_30, .ref e17c_31, .int 0])), (e18a_33, .inl ((cy 14), 60, .inl (fun _ => 0))), (e18_32, .inr (10, [.ref e18a_33, .int 0, .int 0])), (e19a_35, .inl ((cy 21), 120, .inr (.inr (.inr (.inr (fun _ => none)))))), (e19b_36, .inl ((cy 15), 100, .inr (.inl (fun _ => 0)))), (e19_34, .inr (0, [.ref e19a_35, .ref e19b_36, .ref x4, .int 0, .long 0]))] ++ [(e7_19, .inl ((cy 22), 6, .inr (.inr (.inr (.inr (fun _ => none))))))]) ++ va_pl L M_65) H_12 := hP.part (cx := [(xa, .inr (11, [.ref x0, .int (nI x1), .ref x2, .int (nI x3), .ref x4, .ref x5, .ref x6, .int x7, .ref x8, .int x9, .int x10])), (q_10, .inr (2, [.int (nI x1), .int k1, .int e2_16, .ref e3_17, .int 0, .int 0, .ref e6_18, .ref e7_19, .ref e8_20, .int 0, .ref e10_21, .int 0, .ref e12_22, .ref e13_23, .long 0, .int 0, .ref e16_24, .ref e17_28, .ref e18_32, .ref e19_34])), (e8_20, .inl ((cy 22), 24, .inr (.inr (.inr (.inr (fun _ => none)))))), (e10_21, .inl ((cy 20), 16, .inr (.inr (.inr (.inr (fun _ => none)))))), (e12_22, .inl ((cy 18), 1000, .inr (.inr (.inr (.inr (fun _ => none)))))), (e13_23, .inl ((cy 15), 1000, .inr (.inl (fun _ => 0)))), (e16a_25, .inl ((cy 22), 120, .inr (.inr (.inr (.inr (fun _ => none)))))), (e16b_26, .inl ((cy 14), 120, .inl (fun _ => 0))), (e16c_27, .inl ((cy 14), 120, .inl (fun _ => 0))), (e16_24, .inr (1, [.ref e16a_25, .ref e16b_26, .ref e16c_27, .int 0])), (e17a_29, .inl ((cy 22), 20, .inr (.inr (.inr (.inr (fun _ => none)))))), (e17b_30, .inl ((cy 14), 20, .inl (fun _ => 0))), (e17c_31, .inl ((cy 14), 20, .inl (fun _ => 0))), (e17_28, .inr (1, [.ref e17a_29, .ref e17b_30, .ref e17c_31, .int 0])), (e18a_33, .inl ((cy 14), 60, .inl (fun _ => 0))), (e18_32, .inr (10, [.ref e18a_33, .int 0, .int 0])), (e19a_35, .inl ((cy 21), 120, .inr (.inr (.inr (.inr (fun _ => none)))))), (e19b_36, .inl ((cy 15), 100, .inr (.inl (fun _ => 0)))), (e19_34, .inr (0, [.ref e19a_35, .ref e19b_36, .ref x4, .int 0, .long 0]))] ++ [(e7_19, .inl ((cy 22), 6, .inr (.inr (.inr (.inr (fun _ => none))))))]) [0, 1, 3, 4, 5, 6, 7, 8, 9, 10, 11, 12, 13, 14, 15, 16, 17, 18, 19, 2] rfl
        have hD : va_D A (([(xa, .inr (11, [.ref x0, .int (nI x1), .ref x2, .int (nI x3), .ref x4, .ref x5, .ref x6, .int x7, .ref x8, .int x9, .int x10])), (q_10, .inr (2, [.int (nI x1), .int k1, .int e2_16, .ref e3_17, .int 0, .int 0, .ref e6_18, .ref e7_19, .ref e8_20, .int 0, .ref e10_21, .int 0, .ref e12_22, .ref e13_23, .long 0, .int 0, .ref e16_24, .ref e17_28, .ref e18_32, .ref e19_34])), (e8_20, .inl ((cy 22), 24, .inr (.inr (.inr (.inr (fun _ => none)))))), (e10_21, .inl ((cy 20), 16, .inr (.inr (.inr (.inr (fun _ => none)))))), (e12_22, .inl ((cy 18), 1000, .inr (.inr (.inr (.inr (fun _ => none)))))), (e13_23, .inl ((cy 15), 1000, .inr (.inl (fun _ => 0)))), (e16a_25, .inl ((cy 22), 120, .inr (.inr (.inr (.inr (fun _ => none)))))), (e16b_26, .inl ((cy 14), 120, .inl (fun _ => 0))), (e16c_27, .inl ((cy 14), 120, .inl (fun _ => 0))), (e16_24, .inr (1, [.ref e16a_25, .ref e16b_26, .ref e16c_27, .int 0])), (e17a_29, .inl ((cy 22), 20, .inr (.inr (.inr (.inr (fun _ => none)))))), (e17b_30, .inl ((cy 14), 20, .inl (fun _ => 0))), (e17c_31, .inl ((cy 14), 20, .inl (fun _ => 0))), (e17_28, .inr (1, [.ref e17a_29, .ref e17b_30, .ref e17c_31, .int 0])), (e18a_33, .inl ((cy 14), 60, .inl (fun _ => 0))), (e18_32, .inr (10, [.ref e18a_33, .int 0, .int 0])), (e19a_35, .inl ((cy 21), 120, .inr (.inr (.inr (.inr (fun _ => none)))))), (e19b_36, .inl ((cy 15), 100, .inr (.inl (fun _ => 0)))), (e19_34, .inr (0, [.ref e19a_35, .ref e19b_36, .ref x4, .int 0, .long 0]))] ++ [(e7_19, .inl ((cy 22), 6, .inr (.inr (.inr (.inr (fun _ => none))))))]) ++ va_pl L M_65) := hD.part (cx := [(xa, .inr (11, [.ref x0, .int (nI x1), .ref x2, .int (nI x3), .ref x4, .ref x5, .ref x6, .int x7, .ref x8, .int x9, .int x10])), (q_10, .inr (2, [.int (nI x1), .int k1, .int e2_16, .ref e3_17, .int 0, .int 0, .ref e6_18, .ref e7_19, .ref e8_20, .int 0, .ref e10_21, .int 0, .ref e12_22, .ref e13_23, .long 0, .int 0, .ref e16_24, .ref e17_28, .ref e18_32, .ref e19_34])), (e8_20, .inl ((cy 22), 24, .inr (.inr (.inr (.inr (fun _ => none)))))), (e10_21, .inl ((cy 20), 16, .inr (.inr (.inr (.inr (fun _ => none)))))), (e12_22, .inl ((cy 18), 1000, .inr (.inr (.inr (.inr (fun _ => none)))))), (e13_23, .inl ((cy 15), 1000, .inr (.inl (fun _ => 0)))), (e16a_25, .inl ((cy 22), 120, .inr (.inr (.inr (.inr (fun _ => none)))))), (e16b_26, .inl ((cy 14), 120, .inl (fun _ => 0))), (e16c_27, .inl ((cy 14), 120, .inl (fun _ => 0))), (e16_24, .inr (1, [.ref e16a_25, .ref e16b_26, .ref e16c_27, .int 0])), (e17a_29, .inl ((cy 22), 20, .inr (.inr (.inr (.inr (fun _ => none)))))), (e17b_30, .inl ((cy 14), 20, .inl (fun _ => 0))), (e17c_31, .inl ((cy 14), 20, .inl (fun _ => 0))), (e17_28, .inr (1, [.ref e17a_29, .ref e17b_30, .ref e17c_31, .int 0])), (e18a_33, .inl ((cy 14), 60, .inl (fun _ => 0))), (e18_32, .inr (10, [.ref e18a_33, .int 0, .int 0])), (e19a_35, .inl ((cy 21), 120, .inr (.inr (.inr (.inr (fun _ => none)))))), (e19b_36, .inl ((cy 15), 100, .inr (.inl (fun _ => 0)))), (e19_34, .inr (0, [.ref e19a_35, .ref e19b_36, .ref x4, .int 0, .long 0]))] ++ [(e7_19, .inl ((cy 22), 6, .inr (.inr (.inr (.inr (fun _ => none))))))]) [0, 1, 3, 4, 5, 6, 7, 8, 9, 10, 11, 12, 13, 14, 15, 16, 17, 18, 19, 2] (by decide) rfl
        obtain ⟨K9, L9, M_78, hx9, i_79, hW, hP, hD, hM_80, hfr9, hq9⟩ := adoptE 61 6 hP hD hW (fun K' L' x i => (⟨_, rfl, fun _ _ => iskN.none⟩ : gd_61 cy K' L' 6 _))
        have hM_82 : M_78 x0 = .inl (cy 17, 8, .inr (.inr (.inr (.inr (f1))))) := (hfr9 _ i_70.1).trans hM_69
        have hF : fr K0 L0 [17] M0 M_78 := hF.adX hX0 hfr9
        have hX0 := hX0.tr hx9
        have i_83 := i_70.ext hx9
        have i_84 := i_71.ext hx9
        have i_85 := i_72.ext hx9
        have i_86 := i_73.ext hx9
        have i_87 := i_74.ext hx9
        have i_88 := i_75.ext hx9
        have i_89 := i_76.ext hx9
        have i_90 := i_66.ext hx9
        have hf_91 := fun j q => (hf_77 j q).ext hx9
        obtain ⟨K, L, hK9, hL9⟩ : ∃ (K : Kp) (L : List Nat), K = K9 ∧ L = L9 := ⟨_, _, rfl, rfl⟩
        subst hK9
        subst hL9
        have hP : va_P D vwCl ([(xa, .inr (11, [.ref x0, .int (nI x1), .ref x2, .int (nI x3), .ref x4, .ref x5, .ref x6, .int x7, .ref x8, .int x9, .int x10])), (q_10, .inr (2, [.int (nI x1), .int k1, .int e2_16, .ref e3_17, .int 0, .int 0, .ref e6_18, .ref e7_19, .ref e8_20, .int 0, .ref e10_21, .int 0, .ref e12_22, .ref e13_23, .long 0, .int 0, .ref e16_24, .ref e17_28, .ref e18_32, .ref e19_34])), (e8_20, .inl ((cy 22), 24, .inr (.inr (.inr (.inr (fun _ => none)))))), (e10_21, .inl ((cy 20), 16, .inr (.inr (.inr (.inr (fun _ => none)))))), (e12_22, .inl ((cy 18), 1000, .inr (.inr (.inr (.inr (fun _ => none)))))), (e13_23, .inl ((cy 15), 1000, .inr (.inl (fun _ => 0)))), (e16a_25, .inl ((cy 22), 120, .inr (.inr (.inr (.inr (fun _ => none)))))), (e16b_26, .inl ((cy 14), 120, .inl (fun _ => 0))), (e16c_27, .inl ((cy 14), 120, .inl (fun _ => 0))), (e16_24, .inr (1, [.ref e16a_25, .ref e16b_26, .ref e16c_27, .int 0])), (e17a_29, .inl ((cy 22), 20, .inr (.inr (.inr (.inr (fun _ => none)))))), (e17b_30, .inl ((cy 14), 20, .inl (fun _ => 0))), (e17c_31, .inl ((cy 14), 20, .inl (fun _ => 0))), (e17_28, .inr (1, [.ref e17a_29, .ref e17b_30, .ref e17c_31, .int 0])), (e18a_33, .inl ((cy 14), 60, .inl (fun _ => 0))), (e18_32, .inr (10, [.ref e18a_33, .int 0, .int 0])), (e19a_35, .inl ((cy 21), 120, .inr (.inr (.inr (.inr (fun _ => none)))))), (e19b_36, .inl ((cy 15), 100, .inr (.inl (fun _ => 0)))), (e19_34, .inr (0, [.ref e19a_35, .ref e19b_36, .ref x4, .int 0, .long 0]))] ++ va_pl L M_78) H_12 := hP
        have hD : va_D A ([(xa, .inr (11, [.ref x0, .int (nI x1), .ref x2, .int (nI x3), .ref x4, .ref x5, .ref x6, .int x7, .ref x8, .int x9, .int x10])), (q_10, .inr (2, [.int (nI x1), .int k1, .int e2_16, .ref e3_17, .int 0, .int 0, .ref e6_18, .ref e7_19, .ref e8_20, .int 0, .ref e10_21, .int 0, .ref e12_22, .ref e13_23, .long 0, .int 0, .ref e16_24, .ref e17_28, .ref e18_32, .ref e19_34])), (e8_20, .inl ((cy 22), 24, .inr (.inr (.inr (.inr (fun _ => none)))))), (e10_21, .inl ((cy 20), 16, .inr (.inr (.inr (.inr (fun _ => none)))))), (e12_22, .inl ((cy 18), 1000, .inr (.inr (.inr (.inr (fun _ => none)))))), (e13_23, .inl ((cy 15), 1000, .inr (.inl (fun _ => 0)))), (e16a_25, .inl ((cy 22), 120, .inr (.inr (.inr (.inr (fun _ => none)))))), (e16b_26, .inl ((cy 14), 120, .inl (fun _ => 0))), (e16c_27, .inl ((cy 14), 120, .inl (fun _ => 0))), (e16_24, .inr (1, [.ref e16a_25, .ref e16b_26, .ref e16c_27, .int 0])), (e17a_29, .inl ((cy 22), 20, .inr (.inr (.inr (.inr (fun _ => none)))))), (e17b_30, .inl ((cy 14), 20, .inl (fun _ => 0))), (e17c_31, .inl ((cy 14), 20, .inl (fun _ => 0))), (e17_28, .inr (1, [.ref e17a_29, .ref e17b_30, .ref e17c_31, .int 0])), (e18a_33, .inl ((cy 14), 60, .inl (fun _ => 0))), (e18_32, .inr (10, [.ref e18a_33, .int 0, .int 0])), (e19a_35, .inl ((cy 21), 120, .inr (.inr (.inr (.inr (fun _ => none)))))), (e19b_36, .inl ((cy 15), 100, .inr (.inl (fun _ => 0)))), (e19_34, .inr (0, [.ref e19a_35, .ref e19b_36, .ref x4, .int 0, .long 0]))] ++ va_pl L M_78) := hD
        have hP : va_P D vwCl (([(xa, .inr (11, [.ref x0, .int (nI x1), .ref x2, .int (nI x3), .ref x4, .ref x5, .ref x6, .int x7, .ref x8, .int x9, .int x10])), (q_10, .inr (2, [.int (nI x1), .int k1, .int e2_16, .ref e3_17, .int 0, .int 0, .ref e6_18, .ref e7_19, .ref e8_20, .int 0, .ref e10_21, .int 0, .ref e12_22, .ref e13_23, .long 0, .int 0, .ref e16_24, .ref e17_28, .ref e18_32, .ref e19_34])), (e10_21, .inl ((cy 20), 16, .inr (.inr (.inr (.inr (fun _ => none)))))), (e12_22, .inl ((cy 18), 1000, .inr (.inr (.inr (.inr (fun _ => none)))))), (e13_23, .inl ((cy 15), 1000, .inr (.inl (fun _ => 0)))), (e16a_25, .inl ((cy 22), 120, .inr (.inr (.inr (.inr (fun _ => none)))))), (e16b_26, .inl ((cy 14), 120, .inl (fun _ => 0))), (e16c_27, .inl ((cy 14), 120, .inl (fun _ => 0))), (e16_24, .inr (1, [.ref e16a_25, .ref e16b_26, .ref e16c_27, .int 0])), (e17a_29, .inl ((cy 22), 20, .inr (.inr (.inr (.inr (fun _ => none)))))), (e17b_30, .inl ((cy 14), 20, .inl (fun _ => 0))), (e17c_31, .inl ((cy 14), 20, .inl (fun _ => 0))), (e17_28, .inr (1, [.ref e17a_29, .ref e17b_30, .ref e17c_31, .int 0])), (e18a_33, .inl ((cy 14), 60, .inl (fun _ => 0))), (e18_32, .inr (10, [.ref e18a_33, .int 0, .int 0])), (e19a_35, .inl ((cy 21), 120, .inr (.inr (.inr (.inr (fun _ => none)))))), (e19b_36, .inl ((cy 15), 100, .inr (.inl (fun _ => 0)))), (e19_34, .inr (0, [.ref e19a_35, .ref e19b_36, .ref x4, .int 0, .long 0]))] ++ [(e8_20, .inl ((cy 22), 24, .inr (.inr (.inr (.inr (fun _ => none))))))]) ++ va_pl L M_78) H_12 := hP.part (cx := [(xa, .inr (11, [.ref x0, .int (nI x1), .ref x2, .int (nI x3), .ref x4, .ref x5, .ref x6, .int x7, .ref x8, .int x9, .int x10])), (q_10, .inr (2, [.int (nI x1), .int k1, .int e2_16, .ref e3_17, .int 0, .int 0, .ref e6_18, .ref e7_19, .ref e8_20, .int 0, .ref e10_21, .int 0, .ref e12_22, .ref e13_23, .long 0, .int 0, .ref e16_24, .ref e17_28, .ref e18_32, .ref e19_34])), (e10_21, .inl ((cy 20), 16, .inr (.inr (.inr (.inr (fun _ => none)))))), (e12_22, .inl ((cy 18), 1000, .inr (.inr (.inr (.inr (fun _ => none)))))), (e13_23, .inl ((cy 15), 1000, .inr (.inl (fun _ => 0)))), (e16a_25, .inl ((cy 22), 120, .inr (.inr (.inr (.inr (fun _ => none)))))), (e16b_26, .inl ((cy 14), 120, .inl (fun _ => 0))), (e16c_27, .inl ((cy 14), 120, .inl (fun _ => 0))), (e16_24, .inr (1, [.ref e16a_25, .ref e16b_26, .ref e16c_27, .int 0])), (e17a_29, .inl ((cy 22), 20, .inr (.inr (.inr (.inr (fun _ => none)))))), (e17b_30, .inl ((cy 14), 20, .inl (fun _ => 0))), (e17c_31, .inl ((cy 14), 20, .inl (fun _ => 0))), (e17_28, .inr (1, [.ref e17a_29, .ref e17b_30, .ref e17c_31, .int 0])), (e18a_33, .inl ((cy 14), 60, .inl (fun _ => 0))), (e18_32, .inr (10, [.ref e18a_33, .int 0, .int 0])), (e19a_35, .inl ((cy 21), 120, .inr (.inr (.inr (.inr (fun _ => none)))))), (e19b_36, .inl ((cy 15), 100, .inr (.inl (fun _ => 0)))), (e19_34, .inr (0, [.ref e19a_35, .ref e19b_36, .ref x4, .int 0, .long 0]))] ++ [(e8_20, .inl ((cy 22), 24, .inr (.inr (.inr (.inr (fun _ => none))))))]) [0, 1, 3, 4, 5, 6, 7, 8, 9, 10, 11, 12, 13, 14, 15, 16, 17, 18, 2] rfl
        have hD : va_D A (([(xa, .inr (11, [.ref x0, .int (nI x1), .ref x2, .int (nI x3), .ref x4, .ref x5, .ref x6, .int x7, .ref x8, .int x9, .int x10])), (q_10, .inr (2, [.int (nI x1), .int k1, .int e2_16, .ref e3_17, .int 0, .int 0, .ref e6_18, .ref e7_19, .ref e8_20, .int 0, .ref e10_21, .int 0, .ref e12_22, .ref e13_23, .long 0, .int 0, .ref e16_24, .ref e17_28, .ref e18_32, .ref e19_34])), (e10_21, .inl ((cy 20), 16, .inr (.inr (.inr (.inr (fun _ => none)))))), (e12_22, .inl ((cy 18), 1000, .inr (.inr (.inr (.inr (fun _ => none)))))), (e13_23, .inl ((cy 15), 1000, .inr (.inl (fun _ => 0)))), (e16a_25, .inl ((cy 22), 120, .inr (.inr (.inr (.inr (fun _ => none)))))), (e16b_26, .inl ((cy 14), 120, .inl (fun _ => 0))), (e16c_27, .inl ((cy 14), 120, .inl (fun _ => 0))), (e16_24, .inr (1, [.ref e16a_25, .ref e16b_26, .ref e16c_27, .int 0])), (e17a_29, .inl ((cy 22), 20, .inr (.inr (.inr (.inr (fun _ => none)))))), (e17b_30, .inl ((cy 14), 20, .inl (fun _ => 0))), (e17c_31, .inl ((cy 14), 20, .inl (fun _ => 0))), (e17_28, .inr (1, [.ref e17a_29, .ref e17b_30, .ref e17c_31, .int 0])), (e18a_33, .inl ((cy 14), 60, .inl (fun _ => 0))), (e18_32, .inr (10, [.ref e18a_33, .int 0, .int 0])), (e19a_35, .inl ((cy 21), 120, .inr (.inr (.inr (.inr (fun _ => none)))))), (e19b_36, .inl ((cy 15), 100, .inr (.inl (fun _ => 0)))), (e19_34, .inr (0, [.ref e19a_35, .ref e19b_36, .ref x4, .int 0, .long 0]))] ++ [(e8_20, .inl ((cy 22), 24, .inr (.inr (.inr (.inr (fun _ => none))))))]) ++ va_pl L M_78) := hD.part (cx := [(xa, .inr (11, [.ref x0, .int (nI x1), .ref x2, .int (nI x3), .ref x4, .ref x5, .ref x6, .int x7, .ref x8, .int x9, .int x10])), (q_10, .inr (2, [.int (nI x1), .int k1, .int e2_16, .ref e3_17, .int 0, .int 0, .ref e6_18, .ref e7_19, .ref e8_20, .int 0, .ref e10_21, .int 0, .ref e12_22, .ref e13_23, .long 0, .int 0, .ref e16_24, .ref e17_28, .ref e18_32, .ref e19_34])), (e10_21, .inl ((cy 20), 16, .inr (.inr (.inr (.inr (fun _ => none)))))), (e12_22, .inl ((cy 18), 1000, .inr (.inr (.inr (.inr (fun _ => none)))))), (e13_23, .inl ((cy 15), 1000, .inr (.inl (fun _ => 0)))), (e16a_25, .inl ((cy 22), 120, .inr (.inr (.inr (.inr (fun _ => none)))))), (e16b_26, .inl ((cy 14), 120, .inl (fun _ => 0))), (e16c_27, .inl ((cy 14), 120, .inl (fun _ => 0))), (e16_24, .inr (1, [.ref e16a_25, .ref e16b_26, .ref e16c_27, .int 0])), (e17a_29, .inl ((cy 22), 20, .inr (.inr (.inr (.inr (fun _ => none)))))), (e17b_30, .inl ((cy 14), 20, .inl (fun _ => 0))), (e17c_31, .inl ((cy 14), 20, .inl (fun _ => 0))), (e17_28, .inr (1, [.ref e17a_29, .ref e17b_30, .ref e17c_31, .int 0])), (e18a_33, .inl ((cy 14), 60, .inl (fun _ => 0))), (e18_32, .inr (10, [.ref e18a_33, .int 0, .int 0])), (e19a_35, .inl ((cy 21), 120, .inr (.inr (.inr (.inr (fun _ => none)))))), (e19b_36, .inl ((cy 15), 100, .inr (.inl (fun _ => 0)))), (e19_34, .inr (0, [.ref e19a_35, .ref e19b_36, .ref x4, .int 0, .long 0]))] ++ [(e8_20, .inl ((cy 22), 24, .inr (.inr (.inr (.inr (fun _ => none))))))]) [0, 1, 3, 4, 5, 6, 7, 8, 9, 10, 11, 12, 13, 14, 15, 16, 17, 18, 2] (by decide) rfl
        obtain ⟨K9, L9, M_92, hx9, i_93, hW, hP, hD, hM_94, hfr9, hq9⟩ := adoptE 62 24 hP hD hW (fun K' L' x i => (⟨_, rfl, fun _ _ => iskN.none⟩ : gd_62 cy K' L' 24 _))
        have hM_96 : M_92 x0 = .inl (cy 17, 8, .inr (.inr (.inr (.inr (f1))))) := (hfr9 _ i_83.1).trans hM_82
        have hF : fr K0 L0 [17] M0 M_92 := hF.adX hX0 hfr9
        have hX0 := hX0.tr hx9
        have i_97 := i_83.ext hx9
        have i_98 := i_84.ext hx9
        have i_99 := i_85.ext hx9
        have i_100 := i_86.ext hx9
        have i_101 := i_87.ext hx9
        have i_102 := i_88.ext hx9
        have i_103 := i_89.ext hx9
        have i_104 := i_90.ext hx9
        have i_105 := i_79.ext hx9
        have hf_106 := fun j q => (hf_91 j q).ext hx9
        obtain ⟨K, L, hK9, hL9⟩ : ∃ (K : Kp) (L : List Nat), K = K9 ∧ L = L9 := ⟨_, _, rfl, rfl⟩
        subst hK9
        subst hL9
        have hP : va_P D vwCl ([(xa, .inr (11, [.ref x0, .int (nI x1), .ref x2, .int (nI x3), .ref x4, .ref x5, .ref x6, .int x7, .ref x8, .int x9, .int x10])), (q_10, .inr (2, [.int (nI x1), .int k1, .int e2_16, .ref e3_17, .int 0, .int 0, .ref e6_18, .ref e7_19, .ref e8_20, .int 0, .ref e10_21, .int 0, .ref e12_22, .ref e13_23, .long 0, .int 0, .ref e16_24, .ref e17_28, .ref e18_32, .ref e19_34])), (e10_21, .inl ((cy 20), 16, .inr (.inr (.inr (.inr (fun _ => none)))))), (e12_22, .inl ((cy 18), 1000, .inr (.inr (.inr (.inr (fun _ => none)))))), (e13_23, .inl ((cy 15), 1000, .inr (.inl (fun _ => 0)))), (e16a_25, .inl ((cy 22), 120, .inr (.inr (.inr (.inr (fun _ => none)))))), (e16b_26, .inl ((cy 14), 120, .inl (fun _ => 0))), (e16c_27, .inl ((cy 14), 120, .inl (fun _ => 0))), (e16_24, .inr (1, [.ref e16a_25, .ref e16b_26, .ref e16c_27, .int 0])), (e17a_29, .inl ((cy 22), 20, .inr (.inr (.inr (.inr (fun _ => none)))))), (e17b_30, .inl ((cy 14), 20, .inl (fun _ => 0))), (e17c_31, .inl ((cy 14), 20, .inl (fun _ => 0))), (e17_28, .inr (1, [.ref e17a_29, .ref e17b_30, .ref e17c_31, .int 0])), (e18a_33, .inl ((cy 14), 60, .inl (fun _ => 0))), (e18_32, .inr (10, [.ref e18a_33, .int 0, .int 0])), (e19a_35, .inl ((cy 21), 120, .inr (.inr (.inr (.inr (fun _ => none)))))), (e19b_36, .inl ((cy 15), 100, .inr (.inl (fun _ => 0)))), (e19_34, .inr (0, [.ref e19a_35, .ref e19b_36, .ref x4, .int 0, .long 0]))] ++ va_pl L M_92) H_12 := hP
        have hD : va_D A ([(xa, .inr (11, [.ref x0, .int (nI x1), .ref x2, .int (nI x3), .ref x4, .ref x5, .ref x6, .int x7, .ref x8, .int x9, .int x10])), (q_10, .inr (2, [.int (nI x1), .int k1, .int e2_16, .ref e3_17, .int 0, .int 0, .ref e6_18, .ref e7_19, .ref e8_20, .int 0, .ref e10_21, .int 0, .ref e12_22, .ref e13_23, .long 0, .int 0, .ref e16_24, .ref e17_28, .ref e18_32, .ref e19_34])), (e10_21, .inl ((cy 20), 16, .inr (.inr (.inr (.inr (fun _ => none)))))), (e12_22, .inl ((cy 18), 1000, .inr (.inr (.inr (.inr (fun _ => none)))))), (e13_23, .inl ((cy 15), 1000, .inr (.inl (fun _ => 0)))), (e16a_25, .inl ((cy 22), 120, .inr (.inr (.inr (.inr (fun _ => none)))))), (e16b_26, .inl ((cy 14), 120, .inl (fun _ => 0))), (e16c_27, .inl ((cy 14), 120, .inl (fun _ => 0))), (e16_24, .inr (1, [.ref e16a_25, .ref e16b_26, .ref e16c_27, .int 0])), (e17a_29, .inl ((cy 22), 20, .inr (.inr (.inr (.inr (fun _ => none)))))), (e17b_30, .inl ((cy 14), 20, .inl (fun _ => 0))), (e17c_31, .inl ((cy 14), 20, .inl (fun _ => 0))), (e17_28, .inr (1, [.ref e17a_29, .ref e17b_30, .ref e17c_31, .int 0])), (e18a_33, .inl ((cy 14), 60, .inl (fun _ => 0))), (e18_32, .inr (10, [.ref e18a_33, .int 0, .int 0])), (e19a_35, .inl ((cy 21), 120, .inr (.inr (.inr (.inr (fun _ => none)))))), (e19b_36, .inl ((cy 15), 100, .inr (.inl (fun _ => 0)))), (e19_34, .inr (0, [.ref e19a_35, .ref e19b_36, .ref x4, .int 0, .long 0]))] ++ va_pl L M_92) := hD
        have hP : va_P D vwCl (([(xa, .inr (11, [.ref x0, .int (nI x1), .ref x2, .int (nI x3), .ref x4, .ref x5, .ref x6, .int x7, .ref x8, .int x9, .int x10])), (q_10, .inr (2, [.int (nI x1), .int k1, .int e2_16, .ref e3_17, .int 0, .int 0, .ref e6_18, .ref e7_19, .ref e8_20, .int 0, .ref e10_21, .int 0, .ref e12_22, .ref e13_23, .long 0, .int 0, .ref e16_24, .ref e17_28, .ref e18_32, .ref e19_34])), (e12_22, .inl ((cy 18), 1000, .inr (.inr (.inr (.inr (fun _ => none)))))), (e13_23, .inl ((cy 15), 1000, .inr (.inl (fun _ => 0)))), (e16a_25, .inl ((cy 22), 120, .inr (.inr (.inr (.inr (fun _ => none)))))), (e16b_26, .inl ((cy 14), 120, .inl (fun _ => 0))), (e16c_27, .inl ((cy 14), 120, .inl (fun _ => 0))), (e16_24, .inr (1, [.ref e16a_25, .ref e16b_26, .ref e16c_27, .int 0])), (e17a_29, .inl ((cy 22), 20, .inr (.inr (.inr (.inr (fun _ => none)))))), (e17b_30, .inl ((cy 14), 20, .inl (fun _ => 0))), (e17c_31, .inl ((cy 14), 20, .inl (fun _ => 0))), (e17_28, .inr (1, [.ref e17a_29, .ref e17b_30, .ref e17c_31, .int 0])), (e18a_33, .inl ((cy 14), 60, .inl (fun _ => 0))), (e18_32, .inr (10, [.ref e18a_33, .int 0, .int 0])), (e19a_35, .inl ((cy 21), 120, .inr (.inr (.inr (.inr (fun _ => none)))))), (e19b_36, .inl ((cy 15), 100, .inr (.inl (fun _ => 0)))), (e19_34, .inr (0, [.ref e19a_35, .ref e19b_36, .ref x4, .int 0, .long 0]))] ++ [(e10_21, .inl ((cy 20), 16, .inr (.inr (.inr (.inr (fun _ => none))))))]) ++ va_pl L M_92) H_12 := hP.part (cx := [(xa, .inr (11, [.ref x0, .int (nI x1), .ref x2, .int (nI x3), .ref x4, .ref x5, .ref x6, .int x7, .ref x8, .int x9, .int x10])), (q_10, .inr (2, [.int (nI x1), .int k1, .int e2_16, .ref e3_17, .int 0, .int 0, .ref e6_18, .ref e7_19, .ref e8_20, .int 0, .ref e10_21, .int 0, .ref e12_22, .ref e13_23, .long 0, .int 0, .ref e16_24, .ref e17_28, .ref e18_32, .ref e19_34])), (e12_22, .inl ((cy 18), 1000, .inr (.inr (.inr (.inr (fun _ => none)))))), (e13_23, .inl ((cy 15), 1000, .inr (.inl (fun _ => 0)))), (e16a_25, .inl ((cy 22), 120, .inr (.inr (.inr (.inr (fun _ => none)))))), (e16b_26, .inl ((cy 14), 120, .inl (fun _ => 0))), (e16c_27, .inl ((cy 14), 120, .inl (fun _ => 0))), (e16_24, .inr (1, [.ref e16a_25, .ref e16b_26, .ref e16c_27, .int 0])), (e17a_29, .inl ((cy 22), 20, .inr (.inr (.inr (.inr (fun _ => none)))))), (e17b_30, .inl ((cy 14), 20, .inl (fun _ => 0))), (e17c_31, .inl ((cy 14), 20, .inl (fun _ => 0))), (e17_28, .inr (1, [.ref e17a_29, .ref e17b_30, .ref e17c_31, .int 0])), (e18a_33, .inl ((cy 14), 60, .inl (fun _ => 0))), (e18_32, .inr (10, [.ref e18a_33, .int 0, .int 0])), (e19a_35, .inl ((cy 21), 120, .inr (.inr (.inr (.inr (fun _ => none)))))), (e19b_36, .inl ((cy 15), 100, .inr (.inl (fun _ => 0)))), (e19_34, .inr (0, [.ref e19a_35, .ref e19b_36, .ref x4, .int 0, .long 0]))] ++ [(e10_21, .inl ((cy 20), 16, .inr (.inr (.inr (.inr (fun _ => none))))))]) [0, 1, 3, 4, 5, 6, 7, 8, 9, 10, 11, 12, 13, 14, 15, 16, 17, 2] rfl
        have hD : va_D A (([(xa, .inr (11, [.ref x0, .int (nI x1), .ref x2, .int (nI x3), .ref x4, .ref x5, .ref x6, .int x7, .ref x8, .int x9, .int x10])), (q_10, .inr (2, [.int (nI x1), .int k1, .int e2_16, .ref e3_17, .int 0, .int 0, .ref e6_18, .ref e7_19, .ref e8_20, .int 0, .ref e10_21, .int 0, .ref e12_22, .ref e13_23, .long 0, .int 0, .ref e16_24, .ref e17_28, .ref e18_32, .ref e19_34])), (e12_22, .inl ((cy 18), 1000, .inr (.inr (.inr (.inr (fun _ => none)))))), (e13_23, .inl ((cy 15), 1000, .inr (.inl (fun _ => 0)))), (e16a_25, .inl ((cy 22), 120, .inr (.inr (.inr (.inr (fun _ => none)))))), (e16b_26, .inl ((cy 14), 120, .inl (fun _ => 0))), (e16c_27, .inl ((cy 14), 120, .inl (fun _ => 0))), (e16_24, .inr (1, [.ref e16a_25, .ref e16b_26, .ref e16c_27, .int 0])), (e17a_29, .inl ((cy 22), 20, .inr (.inr (.inr (.inr (fun _ => none)))))), (e17b_30, .inl ((cy 14), 20, .inl (fun _ => 0))), (e17c_31, .inl ((cy 14), 20, .inl (fun _ => 0))), (e17_28, .inr (1, [.ref e17a_29, .ref e17b_30, .ref e17c_31, .int 0])), (e18a_33, .inl ((cy 14), 60, .inl (fun _ => 0))), (e18_32, .inr (10, [.ref e18a_33, .int 0, .int 0])), (e19a_35, .inl ((cy 21), 120, .inr (.inr (.inr (.inr (fun _ => none)))))), (e19b_36, .inl ((cy 15), 100, .inr (.inl (fun _ => 0)))), (e19_34, .inr (0, [.ref e19a_35, .ref e19b_36, .ref x4, .int 0, .long 0]))] ++ [(e10_21, .inl ((cy 20), 16, .inr (.inr (.inr (.inr (fun _ => none))))))]) ++ va_pl L M_92) := hD.part (cx := [(xa, .inr (11, [.ref x0, .int (nI x1), .ref x2, .int (nI x3), .ref x4, .ref x5, .ref x6, .int x7, .ref x8, .int x9, .int x10])), (q_10, .inr (2, [.int (nI x1), .int k1, .int e2_16, .ref e3_17, .int 0, .int 0, .ref e6_18, .ref e7_19, .ref e8_20, .int 0, .ref e10_21, .int 0, .ref e12_22, .ref e13_23, .long 0, .int 0, .ref e16_24, .ref e17_28, .ref e18_32, .ref e19_34])), (e12_22, .inl ((cy 18), 1000, .inr (.inr (.inr (.inr (fun _ => none)))))), (e13_23, .inl ((cy 15), 1000, .inr (.inl (fun _ => 0)))), (e16a_25, .inl ((cy 22), 120, .inr (.inr (.inr (.inr (fun _ => none)))))), (e16b_26, .inl ((cy 14), 120, .inl (fun _ => 0))), (e16c_27, .inl ((cy 14), 120, .inl (fun _ => 0))), (e16_24, .inr (1, [.ref e16a_25, .ref e16b_26, .ref e16c_27, .int 0])), (e17a_29, .inl ((cy 22), 20, .inr (.inr (.inr (.inr (fun _ => none)))))), (e17b_30, .inl ((cy 14), 20, .inl (fun _ => 0))), (e17c_31, .inl ((cy 14), 20, .inl (fun _ => 0))), (e17_28, .inr (1, [.ref e17a_29, .ref e17b_30, .ref e17c_31, .int 0])), (e18a_33, .inl ((cy 14), 60, .inl (fun _ => 0))), (e18_32, .inr (10, [.ref e18a_33, .int 0, .int 0])), (e19a_35, .inl ((cy 21), 120, .inr (.inr (.inr (.inr (fun _ => none)))))), (e19b_36, .inl ((cy 15), 100, .inr (.inl (fun _ => 0)))), (e19_34, .inr (0, [.ref e19a_35, .ref e19b_36, .ref x4, .int 0, .long 0]))] ++ [(e10_21, .inl ((cy 20), 16, .inr (.inr (.inr (.inr (fun _ => none))))))]) [0, 1, 3, 4, 5, 6, 7, 8, 9, 10, 11, 12, 13, 14, 15, 16, 17, 2] (by decide) rfl
        obtain ⟨K9, L9, M_107, hx9, i_108, hW, hP, hD, hM_109, hfr9, hq9⟩ := adoptE 20 16 hP hD hW (fun K' L' x i => (⟨_, rfl, fun _ _ => iskN.none⟩ : gd_20 cy K' L' 16 _))
        have hM_111 : M_107 x0 = .inl (cy 17, 8, .inr (.inr (.inr (.inr (f1))))) := (hfr9 _ i_97.1).trans hM_96
        have hF : fr K0 L0 [17] M0 M_107 := hF.adX hX0 hfr9
        have hX0 := hX0.tr hx9
        have i_112 := i_97.ext hx9
        have i_113 := i_98.ext hx9
        have i_114 := i_99.ext hx9
        have i_115 := i_100.ext hx9
        have i_116 := i_101.ext hx9
        have i_117 := i_102.ext hx9
        have i_118 := i_103.ext hx9
        have i_119 := i_104.ext hx9
        have i_120 := i_105.ext hx9
        have i_121 := i_93.ext hx9
        have hf_122 := fun j q => (hf_106 j q).ext hx9
        obtain ⟨K, L, hK9, hL9⟩ : ∃ (K : Kp) (L : List Nat), K = K9 ∧ L = L9 := ⟨_, _, rfl, rfl⟩
        subst hK9
        subst hL9
        have hP : va_P D vwCl ([(xa, .inr (11, [.ref x0, .int (nI x1), .ref x2, .int (nI x3), .ref x4, .ref x5, .ref x6, .int x7, .ref x8, .int x9, .int x10])), (q_10, .inr (2, [.int (nI x1), .int k1, .int e2_16, .ref e3_17, .int 0, .int 0, .ref e6_18, .ref e7_19, .ref e8_20, .int 0, .ref e10_21, .int 0, .ref e12_22, .ref e13_23, .long 0, .int 0, .ref e16_24, .ref e17_28, .ref e18_32, .ref e19_34])), (e12_22, .inl ((cy 18), 1000, .inr (.inr (.inr (.inr (fun _ => none)))))), (e13_23, .inl ((cy 15), 1000, .inr (.inl (fun _ => 0)))), (e16a_25, .inl ((cy 22), 120, .inr (.inr (.inr (.inr (fun _ => none)))))), (e16b_26, .inl ((cy 14), 120, .inl (fun _ => 0))), (e16c_27, .inl ((cy 14), 120, .inl (fun _ => 0))), (e16_24, .inr (1, [.ref e16a_25, .ref e16b_26, .ref e16c_27, .int 0])), (e17a_29, .inl ((cy 22), 20, .inr (.inr (.inr (.inr (fun _ => none)))))), (e17b_30, .inl ((cy 14), 20, .inl (fun _ => 0))), (e17c_31, .inl ((cy 14), 20, .inl (fun _ => 0))), (e17_28, .inr (1, [.ref e17a_29, .ref e17b_30, .ref e17c_31, .int 0])), (e18a_33, .inl ((cy 14), 60, .inl (fun _ => 0))), (e18_32, .inr (10, [.ref e18a_33, .int 0, .int 0])), (e19a_35, .inl ((cy 21), 120, .inr (.inr (.inr (.inr (fun _ => none)))))), (e19b_36, .inl ((cy 15), 100, .inr (.inl (fun _ => 0)))), (e19_34, .inr (0, [.ref e19a_35, .ref e19b_36, .ref x4, .int 0, .long 0]))] ++ va_pl L M_107) H_12 := hP
        have hD : va_D A ([(xa, .inr (11, [.ref x0, .int (nI x1), .ref x2, .int (nI x3), .ref x4, .ref x5, .ref x6, .int x7, .ref x8, .int x9, .int x10])), (q_10, .inr (2, [.int (nI x1), .int k1, .int e2_16, .ref e3_17, .int 0, .int 0, .ref e6_18, .ref e7_19, .ref e8_20, .int 0, .ref e10_21, .int 0, .ref e12_22, .ref e13_23, .long 0, .int 0, .ref e16_24, .ref e17_28, .ref e18_32, .ref e19_34])), (e12_22, .inl ((cy 18), 1000, .inr (.inr (.inr (.inr (fun _ => none)))))), (e13_23, .inl ((cy 15), 1000, .inr (.inl (fun _ => 0)))), (e16a_25, .inl ((cy 22), 120, .inr (.inr (.inr (.inr (fun _ => none)))))), (e16b_26, .inl ((cy 14), 120, .inl (fun _ => 0))), (e16c_27, .inl ((cy 14), 120, .inl (fun _ => 0))), (e16_24, .inr (1, [.ref e16a_25, .ref e16b_26, .ref e16c_27, .int 0])), (e17a_29, .inl ((cy 22), 20, .inr (.inr (.inr (.inr (fun _ => none)))))), (e17b_30, .inl ((cy 14), 20, .inl (fun _ => 0))), (e17c_31, .inl ((cy 14), 20, .inl (fun _ => 0))), (e17_28, .inr (1, [.ref e17a_29, .ref e17b_30, .ref e17c_31, .int 0])), (e18a_33, .inl ((cy 14), 60, .inl (fun _ => 0))), (e18_32, .inr (10, [.ref e18a_33, .int 0, .int 0])), (e19a_35, .inl ((cy 21), 120, .inr (.inr (.inr (.inr (fun _ => none)))))), (e19b_36, .inl ((cy 15), 100, .inr (.inl (fun _ => 0)))), (e19_34, .inr (0, [.ref e19a_35, .ref e19b_36, .ref x4, .int 0, .long 0]))] ++ va_pl L M_107) := hD
        have hP : va_P D vwCl (([(xa, .inr (11, [.ref x0, .int (nI x1), .ref x2, .int (nI x3), .ref x4, .ref x5, .ref x6, .int x7, .ref x8, .int x9, .int x10])), (q_10, .inr (2, [.int (nI x1), .int k1, .int e2_16, .ref e3_17, .int 0, .int 0, .ref e6_18, .ref e7_19, .ref e8_20, .int 0, .ref e10_21, .int 0, .ref e12_22, .ref e13_23, .long 0, .int 0, .ref e16_24, .ref e17_28, .ref e18_32, .ref e19_34])), (e13_23, .inl ((cy 15), 1000, .inr (.inl (fun _ => 0)))), (e16a_25, .inl ((cy 22), 120, .inr (.inr (.inr (.inr (fun _ => none)))))), (e16b_26, .inl ((cy 14), 120, .inl (fun _ => 0))), (e16c_27, .inl ((cy 14), 120, .inl (fun _ => 0))), (e16_24, .inr (1, [.ref e16a_25, .ref e16b_26, .ref e16c_27, .int 0])), (e17a_29, .inl ((cy 22), 20, .inr (.inr (.inr (.inr (fun _ => none)))))), (e17b_30, .inl ((cy 14), 20, .inl (fun _ => 0))), (e17c_31, .inl ((cy 14), 20, .inl (fun _ => 0))), (e17_28, .inr (1, [.ref e17a_29, .ref e17b_30, .ref e17c_31, .int 0])), (e18a_33, .inl ((cy 14), 60, .inl (fun _ => 0))), (e18_32, .inr (10, [.ref e18a_33, .int 0, .int 0])), (e19a_35, .inl ((cy 21), 120, .inr (.inr (.inr (.inr (fun _ => none)))))), (e19b_36, .inl ((cy 15), 100, .inr (.inl (fun _ => 0)))), (e19_34, .inr (0, [.ref e19a_35, .ref e19b_36, .ref x4, .int 0, .long 0]))] ++ [(e12_22, .inl ((cy 18), 1000, .inr (.inr (.inr (.inr (fun _ => none))))))]) ++ va_pl L M_107) H_12 := hP.part (cx := [(xa, .inr (11, [.ref x0, .int (nI x1), .ref x2, .int (nI x3), .ref x4, .ref x5, .ref x6, .int x7, .ref x8, .int x9, .int x10])), (q_10, .inr (2, [.int (nI x1), .int k1, .int e2_16, .ref e3_17, .int 0, .int 0, .ref e6_18, .ref e7_19, .ref e8_20, .int 0, .ref e10_21, .int 0, .ref e12_22, .ref e13_23, .long 0, .int 0, .ref e16_24, .ref e17_28, .ref e18_32, .ref e19_34])), (e13_23, .inl ((cy 15), 1000, .inr (.inl (fun _ => 0)))), (e16a_25, .inl ((cy 22), 120, .inr (.inr (.inr (.inr (fun _ => none)))))), (e16b_26, .inl ((cy 14), 120, .inl (fun _ => 0))), (e16c_27, .inl ((cy 14), 120, .inl (fun _ => 0))), (e16_24, .inr (1, [.ref e16a_25, .ref e16b_26, .ref e16c_27, .int 0])), (e17a_29, .inl ((cy 22), 20, .inr (.inr (.inr (.inr (fun _ => none)))))), (e17b_30, .inl ((cy 14), 20, .inl (fun _ => 0))), (e17c_31, .inl ((cy 14), 20, .inl (fun _ => 0))), (e17_28, .inr (1, [.ref e17a_29, .ref e17b_30, .ref e17c_31, .int 0])), (e18a_33, .inl ((cy 14), 60, .inl (fun _ => 0))), (e18_32, .inr (10, [.ref e18a_33, .int 0, .int 0])), (e19a_35, .inl ((cy 21), 120, .inr (.inr (.inr (.inr (fun _ => none)))))), (e19b_36, .inl ((cy 15), 100, .inr (.inl (fun _ => 0)))), (e19_34, .inr (0, [.ref e19a_35, .ref e19b_36, .ref x4, .int 0, .long 0]))] ++ [(e12_22, .inl ((cy 18), 1000, .inr (.inr (.inr (.inr (fun _ => none))))))]) [0, 1, 3, 4, 5, 6, 7, 8, 9, 10, 11, 12, 13, 14, 15, 16, 2] rfl
        have hD : va_D A (([(xa, .inr (11, [.ref x0, .int (nI x1), .ref x2, .int (nI x3), .ref x4, .ref x5, .ref x6, .int x7, .ref x8, .int x9, .int x10])), (q_10, .inr (2, [.int (nI x1), .int k1, .int e2_16, .ref e3_17, .int 0, .int 0, .ref e6_18, .ref e7_19, .ref e8_20, .int 0, .ref e10_21, .int 0, .ref e12_22, .ref e13_23, .long 0, .int 0, .ref e16_24, .ref e17_28, .ref e18_32, .ref e19_34])), (e13_23, .inl ((cy 15), 1000, .inr (.inl (fun _ => 0)))), (e16a_25, .inl ((cy 22), 120, .inr (.inr (.inr (.inr (fun _ => none)))))), (e16b_26, .inl ((cy 14), 120, .inl (fun _ => 0))), (e16c_27, .inl ((cy 14), 120, .inl (fun _ => 0))), (e16_24, .inr (1, [.ref e16a_25, .ref e16b_26, .ref e16c_27, .int 0])), (e17a_29, .inl ((cy 22), 20, .inr (.inr (.inr (.inr (fun _ => none)))))), (e17b_30, .inl ((cy 14), 20, .inl (fun _ => 0))), (e17c_31, .inl ((cy 14), 20, .inl (fun _ => 0))), (e17_28, .inr (1, [.ref e17a_29, .ref e17b_30, .ref e17c_31, .int 0])), (e18a_33, .inl ((cy 14), 60, .inl (fun _ => 0))), (e18_32, .inr (10, [.ref e18a_33, .int 0, .int 0])), (e19a_35, .inl ((cy 21), 120, .inr (.inr (.inr (.inr (fun _ => none)))))), (e19b_36, .inl ((cy 15), 100, .inr (.inl (fun _ => 0)))), (e19_34, .inr (0, [.ref e19a_35, .ref e19b_36, .ref x4, .int 0, .long 0]))] ++ [(e12_22, .inl ((cy 18), 1000, .inr (.inr (.inr (.inr (fun _ => none))))))]) ++ va_pl L M_107) := hD.part (cx := [(xa, .inr (11, [.ref x0, .int (nI x1), .ref x2, .int (nI x3), .ref x4, .ref x5, .ref x6, .int x7, .ref x8, .int x9, .int x10])), (q_10, .inr (2, [.int (nI x1), .int k1, .int e2_16, .ref e3_17, .int 0, .int 0, .ref e6_18, .ref e7_19, .ref e8_20, .int 0, .ref e10_21, .int 0, .ref e12_22, .ref e13_23, .long 0, .int 0, .ref e16_24, .ref e17_28, .ref e18_32, .ref e19_34])), (e13_23, .inl ((cy 15), 1000, .inr (.inl (fun _ => 0)))), (e16a_25, .inl ((cy 22), 120, .inr (.inr (.inr (.inr (fun _ => none)))))), (e16b_26, .inl ((cy 14), 120, .inl (fun _ => 0))), (e16c_27, .inl ((cy 14), 120, .inl (fun _ => 0))), (e16_24, .inr (1, [.ref e16a_25, .ref e16b_26, .ref e16c_27, .int 0])), (e17a_29, .inl ((cy 22), 20, .inr (.inr (.inr (.inr (fun _ => none)))))), (e17b_30, .inl ((cy 14), 20, .inl (fun _ => 0))), (e17c_31, .inl ((cy 14), 20, .inl (fun _ => 0))), (e17_28, .inr (1, [.ref e17a_29, .ref e17b_30, .ref e17c_31, .int 0])), (e18a_33, .inl ((cy 14), 60, .inl (fun _ => 0))), (e18_32, .inr (10, [.ref e18a_33, .int 0, .int 0])), (e19a_35, .inl ((cy 21), 120, .inr (.inr (.inr (.inr (fun _ => none)))))), (e19b_36, .inl ((cy 15), 100, .inr (.inl (fun _ => 0)))), (e19_34, .inr (0, [.ref e19a_35, .ref e19b_36, .ref x4, .int 0, .long 0]))] ++ [(e12_22, .inl ((cy 18), 1000, .inr (.inr (.inr (.inr (fun _ => none))))))]) [0, 1, 3, 4, 5, 6, 7, 8, 9, 10, 11, 12, 13, 14, 15, 16, 2] (by decide) rfl
        obtain ⟨K9, L9, M_123, hx9, i_124, hW, hP, hD, hM_125, hfr9, hq9⟩ := adoptE 18 1000 hP hD hW (fun K' L' x i => (⟨_, rfl, fun _ _ => iskN.none⟩ : gd_18 cy K' L' 1000 _))
        have hM_127 : M_123 x0 = .inl (cy 17, 8, .inr (.inr (.inr (.inr (f1))))) := (hfr9 _ i_112.1).trans hM_111
        have hF : fr K0 L0 [17] M0 M_123 := hF.adX hX0 hfr9
        have hX0 := hX0.tr hx9
        have i_128 := i_112.ext hx9
        have i_129 := i_113.ext hx9
        have i_130 := i_114.ext hx9
        have i_131 := i_115.ext hx9
        have i_132 := i_116.ext hx9
        have i_133 := i_117.ext hx9
        have i_134 := i_118.ext hx9
        have i_135 := i_119.ext hx9
        have i_136 := i_120.ext hx9
        have i_137 := i_121.ext hx9
        have i_138 := i_108.ext hx9
        have hf_139 := fun j q => (hf_122 j q).ext hx9
        obtain ⟨K, L, hK9, hL9⟩ : ∃ (K : Kp) (L : List Nat), K = K9 ∧ L = L9 := ⟨_, _, rfl, rfl⟩
        subst hK9
        subst hL9
        have hP : va_P D vwCl ([(xa, .inr (11, [.ref x0, .int (nI x1), .ref x2, .int (nI x3), .ref x4, .ref x5, .ref x6, .int x7, .ref x8, .int x9, .int x10])), (q_10, .inr (2, [.int (nI x1), .int k1, .int e2_16, .ref e3_17, .int 0, .int 0, .ref e6_18, .ref e7_19, .ref e8_20, .int 0, .ref e10_21, .int 0, .ref e12_22, .ref e13_23, .long 0, .int 0, .ref e16_24, .ref e17_28, .ref e18_32, .ref e19_34])), (e13_23, .inl ((cy 15), 1000, .inr (.inl (fun _ => 0)))), (e16a_25, .inl ((cy 22), 120, .inr (.inr (.inr (.inr (fun _ => none)))))), (e16b_26, .inl ((cy 14), 120, .inl (fun _ => 0))), (e16c_27, .inl ((cy 14), 120, .inl (fun _ => 0))), (e16_24, .inr (1, [.ref e16a_25, .ref e16b_26, .ref e16c_27, .int 0])), (e17a_29, .inl ((cy 22), 20, .inr (.inr (.inr (.inr (fun _ => none)))))), (e17b_30, .inl ((cy 14), 20, .inl (fun _ => 0))), (e17c_31, .inl ((cy 14), 20, .inl (fun _ => 0))), (e17_28, .inr (1, [.ref e17a_29, .ref e17b_30, .ref e17c_31, .int 0])), (e18a_33, .inl ((cy 14), 60, .inl (fun _ => 0))), (e18_32, .inr (10, [.ref e18a_33, .int 0, .int 0])), (e19a_35, .inl ((cy 21), 120, .inr (.inr (.inr (.inr (fun _ => none)))))), (e19b_36, .inl ((cy 15), 100, .inr (.inl (fun _ => 0)))), (e19_34, .inr (0, [.ref e19a_35, .ref e19b_36, .ref x4, .int 0, .long 0]))] ++ va_pl L M_123) H_12 := hP
        have hD : va_D A ([(xa, .inr (11, [.ref x0, .int (nI x1), .ref x2, .int (nI x3), .ref x4, .ref x5, .ref x6, .int x7, .ref x8, .int x9, .int x10])), (q_10, .inr (2, [.int (nI x1), .int k1, .int e2_16, .ref e3_17, .int 0, .int 0, .ref e6_18, .ref e7_19, .ref e8_20, .int 0, .ref e10_21, .int 0, .ref e12_22, .ref e13_23, .long 0, .int 0, .ref e16_24, .ref e17_28, .ref e18_32, .ref e19_34])), (e13_23, .inl ((cy 15), 1000, .inr (.inl (fun _ => 0)))), (e16a_25, .inl ((cy 22), 120, .inr (.inr (.inr (.inr (fun _ => none)))))), (e16b_26, .inl ((cy 14), 120, .inl (fun _ => 0))), (e16c_27, .inl ((cy 14), 120, .inl (fun _ => 0))), (e16_24, .inr (1, [.ref e16a_25, .ref e16b_26, .ref e16c_27, .int 0])), (e17a_29, .inl ((cy 22), 20, .inr (.inr (.inr (.inr (fun _ => none)))))), (e17b_30, .inl ((cy 14), 20, .inl (fun _ => 0))), (e17c_31, .inl ((cy 14), 20, .inl (fun _ => 0))), (e17_28, .inr (1, [.ref e17a_29, .ref e17b_30, .ref e17c_31, .int 0])), (e18a_33, .inl ((cy 14), 60, .inl (fun _ => 0))), (e18_32, .inr (10, [.ref e18a_33, .int 0, .int 0])), (e19a_35, .inl ((cy 21), 120, .inr (.inr (.inr (.inr (fun _ => none)))))), (e19b_36, .inl ((cy 15), 100, .inr (.inl (fun _ => 0)))), (e19_34, .inr (0, [.ref e19a_35, .ref e19b_36, .ref x4, .int 0, .long 0]))] ++ va_pl L M_123) := hD
        have hP : va_P D vwCl (([(xa, .inr (11, [.ref x0, .int (nI x1), .ref x2, .int (nI x3), .ref x4, .ref x5, .ref x6, .int x7, .ref x8, .int x9, .int x10])), (q_10, .inr (2, [.int (nI x1), .int k1, .int e2_16, .ref e3_17, .int 0, .int 0, .ref e6_18, .ref e7_19, .ref e8_20, .int 0, .ref e10_21, .int 0, .ref e12_22, .ref e13_23, .long 0, .int 0, .ref e16_24, .ref e17_28, .ref e18_32, .ref e19_34])), (e16a_25, .inl ((cy 22), 120, .inr (.inr (.inr (.inr (fun _ => none)))))), (e16b_26, .inl ((cy 14), 120, .inl (fun _ => 0))), (e16c_27, .inl ((cy 14), 120, .inl (fun _ => 0))), (e16_24, .inr (1, [.ref e16a_25, .ref e16b_26, .ref e16c_27, .int 0])), (e17a_29, .inl ((cy 22), 20, .inr (.inr (.inr (.inr (fun _ => none)))))), (e17b_30, .inl ((cy 14), 20, .inl (fun _ => 0))), (e17c_31, .inl ((cy 14), 20, .inl (fun _ => 0))), (e17_28, .inr (1, [.ref e17a_29, .ref e17b_30, .ref e17c_31, .int 0])), (e18a_33, .inl ((cy 14), 60, .inl (fun _ => 0))), (e18_32, .inr (10, [.ref e18a_33, .int 0, .int 0])), (e19a_35, .inl ((cy 21), 120, .inr (.inr (.inr (.inr (fun _ => none)))))), (e19b_36, .inl ((cy 15), 100, .inr (.inl (fun _ => 0)))), (e19_34, .inr (0, [.ref e19a_35, .ref e19b_36, .ref x4, .int 0, .long 0]))] ++ [(e13_23, .inl ((cy 15), 1000, .inr (.inl (fun _ => 0))))]) ++ va_pl L M_123) H_12 := hP.part (cx := [(xa, .inr (11, [.ref x0, .int (nI x1), .ref x2, .int (nI x3), .ref x4, .ref x5, .ref x6, .int x7, .ref x8, .int x9, .int x10])), (q_10, .inr (2, [.int (nI x1), .int k1, .int e2_16, .ref e3_17, .int 0, .int 0, .ref e6_18, .ref e7_19, .ref e8_20, .int 0, .ref e10_21, .int 0, .ref e12_22, .ref e13_23, .long 0, .int 0, .ref e16_24, .ref e17_28, .ref e18_32, .ref e19_34])), (e16a_25, .inl ((cy 22), 120, .inr (.inr (.inr (.inr (fun _ => none)))))), (e16b_26, .inl ((cy 14), 120, .inl (fun _ => 0))), (e16c_27, .inl ((cy 14), 120, .inl (fun _ => 0))), (e16_24, .inr (1, [.ref e16a_25, .ref e16b_26, .ref e16c_27, .int 0])), (e17a_29, .inl ((cy 22), 20, .inr (.inr (.inr (.inr (fun _ => none)))))), (e17b_30, .inl ((cy 14), 20, .inl (fun _ => 0))), (e17c_31, .inl ((cy 14), 20, .inl (fun _ => 0))), (e17_28, .inr (1, [.ref e17a_29, .ref e17b_30, .ref e17c_31, .int 0])), (e18a_33, .inl ((cy 14), 60, .inl (fun _ => 0))), (e18_32, .inr (10, [.ref e18a_33, .int 0, .int 0])), (e19a_35, .inl ((cy 21), 120, .inr (.inr (.inr (.inr (fun _ => none)))))), (e19b_36, .inl ((cy 15), 100, .inr (.inl (fun _ => 0)))), (e19_34, .inr (0, [.ref e19a_35, .ref e19b_36, .ref x4, .int 0, .long 0]))] ++ [(e13_23, .inl ((cy 15), 1000, .inr (.inl (fun _ => 0))))]) [0, 1, 3, 4, 5, 6, 7, 8, 9, 10, 11, 12, 13, 14, 15, 2] rfl
        have hD : va_D A (([(xa, .inr (11, [.ref x0, .int (nI x1), .ref x2, .int (nI x3), .ref x4, .ref x5, .ref x6, .int x7, .ref x8, .int x9, .int x10])), (q_10, .inr (2, [.int (nI x1), .int k1, .int e2_16, .ref e3_17, .int 0, .int 0, .ref e6_18, .ref e7_19, .ref e8_20, .int 0, .ref e10_21, .int 0, .ref e12_22, .ref e13_23, .long 0, .int 0, .ref e16_24, .ref e17_28, .ref e18_32, .ref e19_34])), (e16a_25, .inl ((cy 22), 120, .inr (.inr (.inr (.inr (fun _ => none)))))), (e16b_26, .inl ((cy 14), 120, .inl (fun _ => 0))), (e16c_27, .inl ((cy 14), 120, .inl (fun _ => 0))), (e16_24, .inr (1, [.ref e16a_25, .ref e16b_26, .ref e16c_27, .int 0])), (e17a_29, .inl ((cy 22), 20, .inr (.inr (.inr (.inr (fun _ => none)))))), (e17b_30, .inl ((cy 14), 20, .inl (fun _ => 0))), (e17c_31, .inl ((cy 14), 20, .inl (fun _ => 0))), (e17_28, .inr (1, [.ref e17a_29, .ref e17b_30, .ref e17c_31, .int 0])), (e18a_33, .inl ((cy 14), 60, .inl (fun _ => 0))), (e18_32, .inr (10, [.ref e18a_33, .int 0, .int 0])), (e19a_35, .inl ((cy 21), 120, .inr (.inr (.inr (.inr (fun _ => none)))))), (e19b_36, .inl ((cy 15), 100, .inr (.inl (fun _ => 0)))), (e19_34, .inr (0, [.ref e19a_35, .ref e19b_36, .ref x4, .int 0, .long 0]))] ++ [(e13_23, .inl ((cy 15), 1000, .inr (.inl (fun _ => 0))))]) ++ va_pl L M_123) := hD.part (cx := [(xa, .inr (11, [.ref x0, .int (nI x1), .ref x2, .int (nI x3), .ref x4, .ref x5, .ref x6, .int x7, .ref x8, .int x9, .int x10])), (q_10, .inr (2, [.int (nI x1), .int k1, .int e2_16, .ref e3_17, .int 0, .int 0, .ref e6_18, .ref e7_19, .ref e8_20, .int 0, .ref e10_21, .int 0, .ref e12_22, .ref e13_23, .long 0, .int 0, .ref e16_24, .ref e17_28, .ref e18_32, .ref e19_34])), (e16a_25, .inl ((cy 22), 120, .inr (.inr (.inr (.inr (fun _ => none)))))), (e16b_26, .inl ((cy 14), 120, .inl (fun _ => 0))), (e16c_27, .inl ((cy 14), 120, .inl (fun _ => 0))), (e16_24, .inr (1, [.ref e16a_25, .ref e16b_26, .ref e16c_27, .int 0])), (e17a_29, .inl ((cy 22), 20, .inr (.inr (.inr (.inr (fun _ => none)))))), (e17b_30, .inl ((cy 14), 20, .inl (fun _ => 0))), (e17c_31, .inl ((cy 14), 20, .inl (fun _ => 0))), (e17_28, .inr (1, [.ref e17a_29, .ref e17b_30, .ref e17c_31, .int 0])), (e18a_33, .inl ((cy 14), 60, .inl (fun _ => 0))), (e18_32, .inr (10, [.ref e18a_33, .int 0, .int 0])), (e19a_35, .inl ((cy 21), 120, .inr (.inr (.inr (.inr (fun _ => none)))))), (e19b_36, .inl ((cy 15), 100, .inr (.inl (fun _ => 0)))), (e19_34, .inr (0, [.ref e19a_35, .ref e19b_36, .ref x4, .int 0, .long 0]))] ++ [(e13_23, .inl ((cy 15), 1000, .inr (.inl (fun _ => 0))))]) [0, 1, 3, 4, 5, 6, 7, 8, 9, 10, 11, 12, 13, 14, 15, 2] (by decide) rfl
        obtain ⟨K9, L9, M_140, hx9, i_141, hW, hP, hD, hM_142, hfr9, hq9⟩ := adoptE 67 1000 hP hD hW (fun K' L' x i => (⟨_, rfl⟩ : gd_67 cy K' L' 1000 _))
        have hM_144 : M_140 x0 = .inl (cy 17, 8, .inr (.inr (.inr (.inr (f1))))) := (hfr9 _ i_128.1).trans hM_127
        have hF : fr K0 L0 [17] M0 M_140 := hF.adX hX0 hfr9
        have hX0 := hX0.tr hx9
        have i_145 := i_128.ext hx9
        have i_146 := i_129.ext hx9
        have i_147 := i_130.ext hx9
        have i_148 := i_131.ext hx9
        have i_149 := i_132.ext hx9
        have i_150 := i_133.ext hx9
        have i_151 := i_134.ext hx9
        have i_152 := i_135.ext hx9
        have i_153 := i_136.ext hx9
        have i_154 := i_137.ext hx9
        have i_155 := i_138.ext hx9
        have i_156 := i_124.ext hx9
        have hf_157 := fun j q => (hf_139 j q).ext hx9
        obtain ⟨K, L, hK9, hL9⟩ : ∃ (K : Kp) (L : List Nat), K = K9 ∧ L = L9 := ⟨_, _, rfl, rfl⟩
        subst hK9
        subst hL9
        have hP : va_P D vwCl ([(xa, .inr (11, [.ref x0, .int (nI x1), .ref x2, .int (nI x3), .ref x4, .ref x5, .ref x6, .int x7, .ref x8, .int x9, .int x10])), (q_10, .inr (2, [.int (nI x1), .int k1, .int e2_16, .ref e3_17, .int 0, .int 0, .ref e6_18, .ref e7_19, .ref e8_20, .int 0, .ref e10_21, .int 0, .ref e12_22, .ref e13_23, .long 0, .int 0, .ref e16_24, .ref e17_28, .ref e18_32, .ref e19_34])), (e16a_25, .inl ((cy 22), 120, .inr (.inr (.inr (.inr (fun _ => none)))))), (e16b_26, .inl ((cy 14), 120, .inl (fun _ => 0))), (e16c_27, .inl ((cy 14), 120, .inl (fun _ => 0))), (e16_24, .inr (1, [.ref e16a_25, .ref e16b_26, .ref e16c_27, .int 0])), (e17a_29, .inl ((cy 22), 20, .inr (.inr (.inr (.inr (fun _ => none)))))), (e17b_30, .inl ((cy 14), 20, .inl (fun _ => 0))), (e17c_31, .inl ((cy 14), 20, .inl (fun _ => 0))), (e17_28, .inr (1, [.ref e17a_29, .ref e17b_30, .ref e17c_31, .int 0])), (e18a_33, .inl ((cy 14), 60, .inl (fun _ => 0))), (e18_32, .inr (10, [.ref e18a_33, .int 0, .int 0])), (e19a_35, .inl ((cy 21), 120, .inr (.inr (.inr (.inr (fun _ => none)))))), (e19b_36, .inl ((cy 15), 100, .inr (.inl (fun _ => 0)))), (e19_34, .inr (0, [.ref e19a_35, .ref e19b_36, .ref x4, .int 0, .long 0]))] ++ va_pl L M_140) H_12 := hP
        have hD : va_D A ([(xa, .inr (11, [.ref x0, .int (nI x1), .ref x2, .int (nI x3), .ref x4, .ref x5, .ref x6, .int x7, .ref x8, .int x9, .int x10])), (q_10, .inr (2, [.int (nI x1), .int k1, .int e2_16, .ref e3_17, .int 0, .int 0, .ref e6_18, .ref e7_19, .ref e8_20, .int 0, .ref e10_21, .int 0, .ref e12_22, .ref e13_23, .long 0, .int 0, .ref e16_24, .ref e17_28, .ref e18_32, .ref e19_34])), (e16a_25, .inl ((cy 22), 120, .inr (.inr (.inr (.inr (fun _ => none)))))), (e16b_26, .inl ((cy 14), 120, .inl (fun _ => 0))), (e16c_27, .inl ((cy 14), 120, .inl (fun _ => 0))), (e16_24, .inr (1, [.ref e16a_25, .ref e16b_26, .ref e16c_27, .int 0])), (e17a_29, .inl ((cy 22), 20, .inr (.inr (.inr (.inr (fun _ => none)))))), (e17b_30, .inl ((cy 14), 20, .inl (fun _ => 0))), (e17c_31, .inl ((cy 14), 20, .inl (fun _ => 0))), (e17_28, .inr (1, [.ref e17a_29, .ref e17b_30, .ref e17c_31, .int 0])), (e18a_33, .inl ((cy 14), 60, .inl (fun _ => 0))), (e18_32, .inr (10, [.ref e18a_33, .int 0, .int 0])), (e19a_35, .inl ((cy 21), 120, .inr (.inr (.inr (.inr (fun _ => none)))))), (e19b_36, .inl ((cy 15), 100, .inr (.inl (fun _ => 0)))), (e19_34, .inr (0, [.ref e19a_35, .ref e19b_36, .ref x4, .int 0, .long 0]))] ++ va_pl L M_140) := hD
        have hP : va_P D vwCl (([(xa, .inr (11, [.ref x0, .int (nI x1), .ref x2, .int (nI x3), .ref x4, .ref x5, .ref x6, .int x7, .ref x8, .int x9, .int x10])), (q_10, .inr (2, [.int (nI x1), .int k1, .int e2_16, .ref e3_17, .int 0, .int 0, .ref e6_18, .ref e7_19, .ref e8_20, .int 0, .ref e10_21, .int 0, .ref e12_22, .ref e13_23, .long 0, .int 0, .ref e16_24, .ref e17_28, .ref e18_32, .ref e19_34])), (e16b_26, .inl ((cy 14), 120, .inl (fun _ => 0))), (e16c_27, .inl ((cy 14), 120, .inl (fun _ => 0))), (e16_24, .inr (1, [.ref e16a_25, .ref e16b_26, .ref e16c_27, .int 0])), (e17a_29, .inl ((cy 22), 20, .inr (.inr (.inr (.inr (fun _ => none)))))), (e17b_30, .inl ((cy 14), 20, .inl (fun _ => 0))), (e17c_31, .inl ((cy 14), 20, .inl (fun _ => 0))), (e17_28, .inr (1, [.ref e17a_29, .ref e17b_30, .ref e17c_31, .int 0])), (e18a_33, .inl ((cy 14), 60, .inl (fun _ => 0))), (e18_32, .inr (10, [.ref e18a_33, .int 0, .int 0])), (e19a_35, .inl ((cy 21), 120, .inr (.inr (.inr (.inr (fun _ => none)))))), (e19b_36, .inl ((cy 15), 100, .inr (.inl (fun _ => 0)))), (e19_34, .inr (0, [.ref e19a_35, .ref e19b_36, .ref x4, .int 0, .long 0]))] ++ [(e16a_25, .inl ((cy 22), 120, .inr (.inr (.inr (.inr (fun _ => none))))))]) ++ va_pl L M_140) H_12 := hP.part (cx := [(xa, .inr (11, [.ref x0, .int (nI x1), .ref x2, .int (nI x3), .ref x4, .ref x5, .ref x6, .int x7, .ref x8, .int x9, .int x10])), (q_10, .inr (2, [.int (nI x1), .int k1, .int e2_16, .ref e3_17, .int 0, .int 0, .ref e6_18, .ref e7_19, .ref e8_20, .int 0, .ref e10_21, .int 0, .ref e12_22, .ref e13_23, .long 0, .int 0, .ref e16_24, .ref e17_28, .ref e18_32, .ref e19_34])), (e16b_26, .inl ((cy 14), 120, .inl (fun _ => 0))), (e16c_27, .inl ((cy 14), 120, .inl (fun _ => 0))), (e16_24, .inr (1, [.ref e16a_25, .ref e16b_26, .ref e16c_27, .int 0])), (e17a_29, .inl ((cy 22), 20, .inr (.inr (.inr (.inr (fun _ => none)))))), (e17b_30, .inl ((cy 14), 20, .inl (fun _ => 0))), (e17c_31, .inl ((cy 14), 20, .inl (fun _ => 0))), (e17_28, .inr (1, [.ref e17a_29, .ref e17b_30, .ref e17c_31, .int 0])), (e18a_33, .inl ((cy 14), 60, .inl (fun _ => 0))), (e18_32, .inr (10, [.ref e18a_33, .int 0, .int 0])), (e19a_35, .inl ((cy 21), 120, .inr (.inr (.inr (.inr (fun _ => none)))))), (e19b_36, .inl ((cy 15), 100, .inr (.inl (fun _ => 0)))), (e19_34, .inr (0, [.ref e19a_35, .ref e19b_36, .ref x4, .int 0, .long 0]))] ++ [(e16a_25, .inl ((cy 22), 120, .inr (.inr (.inr (.inr (fun _ => none))))))]) [0, 1, 3, 4, 5, 6, 7, 8, 9, 10, 11, 12, 13, 14, 2] rfl
        have hD : va_D A (([(xa, .inr (11, [.ref x0, .int (nI x1), .ref x2, .int (nI x3), .ref x4, .ref x5, .ref x6, .int x7, .ref x8, .int x9, .int x10])), (q_10, .inr (2, [.int (nI x1), .int k1, .int e2_16, .ref e3_17, .int 0, .int 0, .ref e6_18, .ref e7_19, .ref e8_20, .int 0, .ref e10_21, .int 0, .ref e12_22, .ref e13_23, .long 0, .int 0, .ref e16_24, .ref e17_28, .ref e18_32, .ref e19_34])), (e16b_26, .inl ((cy 14), 120, .inl (fun _ => 0))), (e16c_27, .inl ((cy 14), 120, .inl (fun _ => 0))), (e16_24, .inr (1, [.ref e16a_25, .ref e16b_26, .ref e16c_27, .int 0])), (e17a_29, .inl ((cy 22), 20, .inr (.inr (.inr (.inr (fun _ => none)))))), (e17b_30, .inl ((cy 14), 20, .inl (fun _ => 0))), (e17c_31, .inl ((cy 14), 20, .inl (fun _ => 0))), (e17_28, .inr (1, [.ref e17a_29, .ref e17b_30, .ref e17c_31, .int 0])), (e18a_33, .inl ((cy 14), 60, .inl (fun _ => 0))), (e18_32, .inr (10, [.ref e18a_33, .int 0, .int 0])), (e19a_35, .inl ((cy 21), 120, .inr (.inr (.inr (.inr (fun _ => none)))))), (e19b_36, .inl ((cy 15), 100, .inr (.inl (fun _ => 0)))), (e19_34, .inr (0, [.ref e19a_35, .ref e19b_36, .ref x4, .int 0, .long 0]))] ++ [(e16a_25, .inl ((cy 22), 120, .inr (.inr (.inr (.inr (fun _ => none))))))]) ++ va_pl L M_140) := hD.part (cx := [(xa, .inr (11, [.ref x0, .int (nI x1), .ref x2, .int (nI x3), .ref x4, .ref x5, .ref x6, .int x7, .ref x8, .int x9, .int x10])), (q_10, .inr (2, [.int (nI x1), .int k1, .int e2_16, .ref e3_17, .int 0, .int 0, .ref e6_18, .ref e7_19, .ref e8_20, .int 0, .ref e10_21, .int 0, .ref e12_22, .ref e13_23, .long 0, .int 0, .ref e16_24, .ref e17_28, .ref e18_32, .ref e19_34])), (e16b_26, .inl ((cy 14), 120, .inl (fun _ => 0))), (e16c_27, .inl ((cy 14), 120, .inl (fun _ => 0))), (e16_24, .inr (1, [.ref e16a_25, .ref e16b_26, .ref e16c_27, .int 0])), (e17a_29, .inl ((cy 22), 20, .inr (.inr (.inr (.inr (fun _ => none)))))), (e17b_30, .inl ((cy 14), 20, .inl (fun _ => 0))), (e17c_31, .inl ((cy 14), 20, .inl (fun _ => 0))), (e17_28, .inr (1, [.ref e17a_29, .ref e17b_30, .ref e17c_31, .int 0])), (e18a_33, .inl ((cy 14), 60, .inl (fun _ => 0))), (e18_32, .inr (10, [.ref e18a_33, .int 0, .int 0])), (e19a_35, .inl ((cy 21), 120, .inr (.inr (.inr (.inr (fun _ => none)))))), (e19b_36, .inl ((cy 15), 100, .inr (.inl (fun _ => 0)))), (e19_34, .inr (0, [.ref e19a_35, .ref e19b_36, .ref x4, .int 0, .long 0]))] ++ [(e16a_25, .inl ((cy 22), 120, .inr (.inr (.inr (.inr (fun _ => none))))))]) [0, 1, 3, 4, 5, 6, 7, 8, 9, 10, 11, 12, 13, 14, 2] (by decide) rfl
        obtain ⟨K9, L9, M_158, hx9, i_159, hW, hP, hD, hM_160, hfr9, hq9⟩ := adoptE 63 120 hP hD hW (fun K' L' x i => (⟨_, rfl, fun _ _ => iskN.none⟩ : gd_63 cy K' L' 120 _))
        have hM_162 : M_158 x0 = .inl (cy 17, 8, .inr (.inr (.inr (.inr (f1))))) := (hfr9 _ i_145.1).trans hM_144
        have hF : fr K0 L0 [17] M0 M_158 := hF.adX hX0 hfr9
        have hX0 := hX0.tr hx9
        have i_163 := i_145.ext hx9
        have i_164 := i_146.ext hx9
        have i_165 := i_147.ext hx9
        have i_166 := i_148.ext hx9
        have i_167 := i_149.ext hx9
        have i_168 := i_150.ext hx9
        have i_169 := i_151.ext hx9
        have i_170 := i_152.ext hx9
        have i_171 := i_153.ext hx9
        have i_172 := i_154.ext hx9
        have i_173 := i_155.ext hx9
        have i_174 := i_156.ext hx9
        have i_175 := i_141.ext hx9
        have hf_176 := fun j q => (hf_157 j q).ext hx9
        obtain ⟨K, L, hK9, hL9⟩ : ∃ (K : Kp) (L : List Nat), K = K9 ∧ L = L9 := ⟨_, _, rfl, rfl⟩
        subst hK9
        subst hL9
        have hP : va_P D vwCl ([(xa, .inr (11, [.ref x0, .int (nI x1), .ref x2, .int (nI x3), .ref x4, .ref x5, .ref x6, .int x7, .ref x8, .int x9, .int x10])), (q_10, .inr (2, [.int (nI x1), .int k1, .int e2_16, .ref e3_17, .int 0, .int 0, .ref e6_18, .ref e7_19, .ref e8_20, .int 0, .ref e10_21, .int 0, .ref e12_22, .ref e13_23, .long 0, .int 0, .ref e16_24, .ref e17_28, .ref e18_32, .ref e19_34])), (e16b_26, .inl ((cy 14), 120, .inl (fun _ => 0))), (e16c_27, .inl ((cy 14), 120, .inl (fun _ => 0))), (e16_24, .inr (1, [.ref e16a_25, .ref e16b_26, .ref e16c_27, .int 0])), (e17a_29, .inl ((cy 22), 20, .inr (.inr (.inr (.inr (fun _ => none)))))), (e17b_30, .inl ((cy 14), 20, .inl (fun _ => 0))), (e17c_31, .inl ((cy 14), 20, .inl (fun _ => 0))), (e17_28, .inr (1, [.ref e17a_29, .ref e17b_30, .ref e17c_31, .int 0])), (e18a_33, .inl ((cy 14), 60, .inl (fun _ => 0))), (e18_32, .inr (10, [.ref e18a_33, .int 0, .int 0])), (e19a_35, .inl ((cy 21), 120, .inr (.inr (.inr (.inr (fun _ => none)))))), (e19b_36, .inl ((cy 15), 100, .inr (.inl (fun _ => 0)))), (e19_34, .inr (0, [.ref e19a_35, .ref e19b_36, .ref x4, .int 0, .long 0]))] ++ va_pl L M_158) H_12 := hP
        have hD : va_D A ([(xa, .inr (11, [.ref x0, .int (nI x1), .ref x2, .int (nI x3), .ref x4, .ref x5, .ref x6, .int x7, .ref x8, .int x9, .int x10])), (q_10, .inr (2, [.int (nI x1), .int k1, .int e2_16, .ref e3_17, .int 0, .int 0, .ref e6_18, .ref e7_19, .ref e8_20, .int 0, .ref e10_21, .int 0, .ref e12_22, .ref e13_23, .long 0, .int 0, .ref e16_24, .ref e17_28, .ref e18_32, .ref e19_34])), (e16b_26, .inl ((cy 14), 120, .inl (fun _ => 0))), (e16c_27, .inl ((cy 14), 120, .inl (fun _ => 0))), (e16_24, .inr (1, [.ref e16a_25, .ref e16b_26, .ref e16c_27, .int 0])), (e17a_29, .inl ((cy 22), 20, .inr (.inr (.inr (.inr (fun _ => none)))))), (e17b_30, .inl ((cy 14), 20, .inl (fun _ => 0))), (e17c_31, .inl ((cy 14), 20, .inl (fun _ => 0))), (e17_28, .inr (1, [.ref e17a_29, .ref e17b_30, .ref e17c_31, .int 0])), (e18a_33, .inl ((cy 14), 60, .inl (fun _ => 0))), (e18_32, .inr (10, [.ref e18a_33, .int 0, .int 0])), (e19a_35, .inl ((cy 21), 120, .inr (.inr (.inr (.inr (fun _ => none)))))), (e19b_36, .inl ((cy 15), 100, .inr (.inl (fun _ => 0)))), (e19_34, .inr (0, [.ref e19a_35, .ref e19b_36, .ref x4, .int 0, .long 0]))] ++ va_pl L M_158) := hD
        have hP : va_P D vwCl (([(xa, .inr (11, [.ref x0, .int (nI x1), .ref x2, .int (nI x3), .ref x4, .ref x5, .ref x6, .int x7, .ref x8, .int x9, .int x10])), (q_10, .inr (2, [.int (nI x1), .int k1, .int e2_16, .ref e3_17, .int 0, .int 0, .ref e6_18, .ref e7_19, .ref e8_20, .int 0, .ref e10_21, .int 0, .ref e12_22, .ref e13_23, .long 0, .int 0, .ref e16_24, .ref e17_28, .ref e18_32, .ref e19_34])), (e16c_27, .inl ((cy 14), 120, .inl (fun _ => 0))), (e16_24, .inr (1, [.ref e16a_25, .ref e16b_26, .ref e16c_27, .int 0])), (e17a_29, .inl ((cy 22), 20, .inr (.inr (.inr (.inr (fun _ => none)))))), (e17b_30, .inl ((cy 14), 20, .inl (fun _ => 0))), (e17c_31, .inl ((cy 14), 20, .inl (fun _ => 0))), (e17_28, .inr (1, [.ref e17a_29, .ref e17b_30, .ref e17c_31, .int 0])), (e18a_33, .inl ((cy 14), 60, .inl (fun _ => 0))), (e18_32, .inr (10, [.ref e18a_33, .int 0, .int 0])), (e19a_35, .inl ((cy 21), 120, .inr (.inr (.inr (.inr (fun _ => none)))))), (e19b_36, .inl ((cy 15), 100, .inr (.inl (fun _ => 0)))), (e19_34, .inr (0, [.ref e19a_35, .ref e19b_36, .ref x4, .int 0, .long 0]))] ++ [(e16b_26, .inl ((cy 14), 120, .inl (fun _ => 0)))]) ++ va_pl L M_158) H_12 := hP.part (cx := [(xa, .inr (11, [.ref x0, .int (nI x1), .ref x2, .int (nI x3), .ref x4, .ref x5, .ref x6, .int x7, .ref x8, .int x9, .int x10])), (q_10, .inr (2, [.int (nI x1), .int k1, .int e2_16, .ref e3_17, .int 0, .int 0, .ref e6_18, .ref e7_19, .ref e8_20, .int 0, .ref e10_21, .int 0, .ref e12_22, .ref e13_23, .long 0, .int 0, .ref e16_24, .ref e17_28, .ref e18_32, .ref e19_34])), (e16c_27, .inl ((cy 14), 120, .inl (fun _ => 0))), (e16_24, .inr (1, [.ref e16a_25, .ref e16b_26, .ref e16c_27, .int 0])), (e17a_29, .inl ((cy 22), 20, .inr (.inr (.inr (.inr (fun _ => none)))))), (e17b_30, .inl ((cy 14), 20, .inl (fun _ => 0))), (e17c_31, .inl ((cy 14), 20, .inl (fun _ => 0))), (e17_28, .inr (1, [.ref e17a_29, .ref e17b_30, .ref e17c_31, .int 0])), (e18a_33, .inl ((cy 14), 60, .inl (fun _ => 0))), (e18_32, .inr (10, [.ref e18a_33, .int 0, .int 0])), (e19a_35, .inl ((cy 21), 120, .inr (.inr (.inr (.inr (fun _ => none)))))), (e19b_36, .inl ((cy 15), 100, .inr (.inl (fun _ => 0)))), (e19_34, .inr (0, [.ref e19a_35, .ref e19b_36, .ref x4, .int 0, .long 0]))] ++ [(e16b_26, .inl ((cy 14), 120, .inl (fun _ => 0)))]) [0, 1, 3, 4, 5, 6, 7, 8, 9, 10, 11, 12, 13, 2] rfl
        have hD : va_D A (([(xa, .inr (11, [.ref x0, .int (nI x1), .ref x2, .int (nI x3), .ref x4, .ref x5, .ref x6, .int x7, .ref x8, .int x9, .int x10])), (q_10, .inr (2, [.int (nI x1), .int k1, .int e2_16, .ref e3_17, .int 0, .int 0, .ref e6_18, .ref e7_19, .ref e8_20, .int 0, .ref e10_21, .int 0, .ref e12_22, .ref e13_23, .long 0, .int 0, .ref e16_24, .ref e17_28, .ref e18_32, .ref e19_34])), (e16c_27, .inl ((cy 14), 120, .inl (fun _ => 0))), (e16_24, .inr (1, [.ref e16a_25, .ref e16b_26, .ref e16c_27, .int 0])), (e17a_29, .inl ((cy 22), 20, .inr (.inr (.inr (.inr (fun _ => none)))))), (e17b_30, .inl ((cy 14), 20, .inl (fun _ => 0))), (e17c_31, .inl ((cy 14), 20, .inl (fun _ => 0))), (e17_28, .inr (1, [.ref e17a_29, .ref e17b_30, .ref e17c_31, .int 0])), (e18a_33, .inl ((cy 14), 60, .inl (fun _ => 0))), (e18_32, .inr (10, [.ref e18a_33, .int 0, .int 0])), (e19a_35, .inl ((cy 21), 120, .inr (.inr (.inr (.inr (fun _ => none)))))), (e19b_36, .inl ((cy 15), 100, .inr (.inl (fun _ => 0)))), (e19_34, .inr (0, [.ref e19a_35, .ref e19b_36, .ref x4, .int 0, .long 0]))] ++ [(e16b_26, .inl ((cy 14), 120, .inl (fun _ => 0)))]) ++ va_pl L M_158) := hD.part (cx := [(xa, .inr (11, [.ref x0, .int (nI x1), .ref x2, .int (nI x3), .ref x4, .ref x5, .ref x6, .int x7, .ref x8, .int x9, .int x10])), (q_10, .inr (2, [.int (nI x1), .int k1, .int e2_16, .ref e3_17, .int 0, .int 0, .ref e6_18, .ref e7_19, .ref e8_20, .int 0, .ref e10_21, .int 0, .ref e12_22, .ref e13_23, .long 0, .int 0, .ref e16_24, .ref e17_28, .ref e18_32, .ref e19_34])), (e16c_27, .inl ((cy 14), 120, .inl (fun _ => 0))), (e16_24, .inr (1, [.ref e16a_25, .ref e16b_26, .ref e16c_27, .int 0])), (e17a_29, .inl ((cy 22), 20, .inr (.inr (.inr (.inr (fun _ => none)))))), (e17b_30, .inl ((cy 14), 20, .inl (fun _ => 0))), (e17c_31, .inl ((cy 14), 20, .inl (fun _ => 0))), (e17_28, .inr (1, [.ref e17a_29, .ref e17b_30, .ref e17c_31, .int 0])), (e18a_33, .inl ((cy 14), 60, .inl (fun _ => 0))), (e18_32, .inr (10, [.ref e18a_33, .int 0, .int 0])), (e19a_35, .inl ((cy 21), 120, .inr (.inr (.inr (.inr (fun _ => none)))))), (e19b_36, .inl ((cy 15), 100, .inr (.inl (fun _ => 0)))), (e19_34, .inr (0, [.ref e19a_35, .ref e19b_36, .ref x4, .int 0, .long 0]))] ++ [(e16b_26, .inl ((cy 14), 120, .inl (fun _ => 0)))]) [0, 1, 3, 4, 5, 6, 7, 8, 9, 10, 11, 12, 13, 2] (by decide) rfl
        obtain ⟨K9, L9, M_177, hx9, i_178, hW, hP, hD, hM_179, hfr9, hq9⟩ := adoptE 56 120 hP hD hW (fun K' L' x i => (⟨_, rfl⟩ : gd_56 cy K' L' 120 _))
        have hM_181 : M_177 x0 = .inl (cy 17, 8, .inr (.inr (.inr (.inr (f1))))) := (hfr9 _ i_163.1).trans hM_162
        have hF : fr K0 L0 [17] M0 M_177 := hF.adX hX0 hfr9
        have hX0 := hX0.tr hx9
        have i_182 := i_163.ext hx9
        have i_183 := i_164.ext hx9
        have i_184 := i_165.ext hx9
        have i_185 := i_166.ext hx9
        have i_186 := i_167.ext hx9
        have i_187 := i_168.ext hx9
        have i_188 := i_169.ext hx9
        have i_189 := i_170.ext hx9
        have i_190 := i_171.ext hx9
        have i_191 := i_172.ext hx9
        have i_192 := i_173.ext hx9
        have i_193 := i_174.ext hx9
        have i_194 := i_175.ext hx9
        have i_195 := i_159.ext hx9
        have hf_196 := fun j q => (hf_176 j q).ext hx9
        obtain ⟨K, L, hK9, hL9⟩ : ∃ (K : Kp) (L : List Nat), K = K9 ∧ L = L9 := ⟨_, _, rfl, rfl⟩
        subst hK9
        subst hL9
        have hP : va_P D vwCl ([(xa, .inr (11, [.ref x0, .int (nI x1), .ref x2, .int (nI x3), .ref x4, .ref x5, .ref x6, .int x7, .ref x8, .int x9, .int x10])), (q_10, .inr (2, [.int (nI x1), .int k1, .int e2_16, .ref e3_17, .int 0, .int 0, .ref e6_18, .ref e7_19, .ref e8_20, .int 0, .ref e10_21, .int 0, .ref e12_22, .ref e13_23, .long 0, .int 0, .ref e16_24, .ref e17_28, .ref e18_32, .ref e19_34])), (e16c_27, .inl ((cy 14), 120, .inl (fun _ => 0))), (e16_24, .inr (1, [.ref e16a_25, .ref e16b_26, .ref e16c_27, .int 0])), (e17a_29, .inl ((cy 22), 20, .inr (.inr (.inr (.inr (fun _ => none)))))), (e17b_30, .inl ((cy 14), 20, .inl (fun _ => 0))), (e17c_31, .inl ((cy 14), 20, .inl (fun _ => 0))), (e17_28, .inr (1, [.ref e17a_29, .ref e17b_30, .ref e17c_31, .int 0])), (e18a_33, .inl ((cy 14), 60, .inl (fun _ => 0))), (e18_32, .inr (10, [.ref e18a_33, .int 0, .int 0])), (e19a_35, .inl ((cy 21), 120, .inr (.inr (.inr (.inr (fun _ => none)))))), (e19b_36, .inl ((cy 15), 100, .inr (.inl (fun _ => 0)))), (e19_34, .inr (0, [.ref e19a_35, .ref e19b_36, .ref x4, .int 0, .long 0]))] ++ va_pl L M_177) H_12 := hP
        have hD : va_D A ([(xa, .inr (11, [.ref x0, .int (nI x1), .ref x2, .int (nI x3), .ref x4, .ref x5, .ref x6, .int x7, .ref x8, .int x9, .int x10])), (q_10, .inr (2, [.int (nI x1), .int k1, .int e2_16, .ref e3_17, .int 0, .int 0, .ref e6_18, .ref e7_19, .ref e8_20, .int 0, .ref e10_21, .int 0, .ref e12_22, .ref e13_23, .long 0, .int 0, .ref e16_24, .ref e17_28, .ref e18_32, .ref e19_34])), (e16c_27, .inl ((cy 14), 120, .inl (fun _ => 0))), (e16_24, .inr (1, [.ref e16a_25, .ref e16b_26, .ref e16c_27, .int 0])), (e17a_29, .inl ((cy 22), 20, .inr (.inr (.inr (.inr (fun _ => none)))))), (e17b_30, .inl ((cy 14), 20, .inl (fun _ => 0))), (e17c_31, .inl ((cy 14), 20, .inl (fun _ => 0))), (e17_28, .inr (1, [.ref e17a_29, .ref e17b_30, .ref e17c_31, .int 0])), (e18a_33, .inl ((cy 14), 60, .inl (fun _ => 0))), (e18_32, .inr (10, [.ref e18a_33, .int 0, .int 0])), (e19a_35, .inl ((cy 21), 120, .inr (.inr (.inr (.inr (fun _ => none)))))), (e19b_36, .inl ((cy 15), 100, .inr (.inl (fun _ => 0)))), (e19_34, .inr (0, [.ref e19a_35, .ref e19b_36, .ref x4, .int 0, .long 0]))] ++ va_pl L M_177) := hD
        have hP : va_P D vwCl (([(xa, .inr (11, [.ref x0, .int (nI x1), .ref x2, .int (nI x3), .ref x4, .ref x5, .ref x6, .int x7, .ref x8, .int x9, .int x10])), (q_10, .inr (2, [.int (nI x1), .int k1, .int e2_16, .ref e3_17, .int 0, .int 0, .ref e6_18, .ref e7_19, .ref e8_20, .int 0, .ref e10_21, .int 0, .ref e12_22, .ref e13_23, .long 0, .int 0, .ref e16_24, .ref e17_28, .ref e18_32, .ref e19_34])), (e16_24, .inr (1, [.ref e16a_25, .ref e16b_26, .ref e16c_27, .int 0])), (e17a_29, .inl ((cy 22), 20, .inr (.inr (.inr (.inr (fun _ => none)))))), (e17b_30, .inl ((cy 14), 20, .inl (fun _ => 0))), (e17c_31, .inl ((cy 14), 20, .inl (fun _ => 0))), (e17_28, .inr (1, [.ref e17a_29, .ref e17b_30, .ref e17c_31, .int 0])), (e18a_33, .inl ((cy 14), 60, .inl (fun _ => 0))), (e18_32, .inr (10, [.ref e18a_33, .int 0, .int 0])), (e19a_35, .inl ((cy 21), 120, .inr (.inr (.inr (.inr (fun _ => none)))))), (e19b_36, .inl ((cy 15), 100, .inr (.inl (fun _ => 0)))), (e19_34, .inr (0, [.ref e19a_35, .ref e19b_36, .ref x4, .int 0, .long 0]))] ++ [(e16c_27, .inl ((cy 14), 120, .inl (fun _ => 0)))]) ++ va_pl L M_177) H_12 := hP.part (cx := [(xa, .inr (11, [.ref x0, .int (nI x1), .ref x2, .int (nI x3), .ref x4, .ref x5, .ref x6, .int x7, .ref x8, .int x9, .int x10])), (q_10, .inr (2, [.int (nI x1), .int k1, .int e2_16, .ref e3_17, .int 0, .int 0, .ref e6_18, .ref e7_19, .ref e8_20, .int 0, .ref e10_21, .int 0, .ref e12_22, .ref e13_23, .long 0, .int 0, .ref e16_24, .ref e17_28, .ref e18_32, .ref e19_34])), (e16_24, .inr (1, [.ref e16a_25, .ref e16b_26, .ref e16c_27, .int 0])), (e17a_29, .inl ((cy 22), 20, .inr (.inr (.inr (.inr (fun _ => none)))))), (e17b_30, .inl ((cy 14), 20, .inl (fun _ => 0))), (e17c_31, .inl ((cy 14), 20, .inl (fun _ => 0))), (e17_28, .inr (1, [.ref e17a_29, .ref e17b_30, .ref e17c_31, .int 0])), (e18a_33, .inl ((cy 14), 60, .inl (fun _ => 0))), (e18_32, .inr (10, [.ref e18a_33, .int 0, .int 0])), (e19a_35, .inl ((cy 21), 120, .inr (.inr (.inr (.inr (fun _ => none)))))), (e19b_36, .inl ((cy 15), 100, .inr (.inl (fun _ => 0)))), (e19_34, .inr (0, [.ref e19a_35, .ref e19b_36, .ref x4, .int 0, .long 0]))] ++ [(e16c_27, .inl ((cy 14), 120, .inl (fun _ => 0)))]) [0, 1, 3, 4, 5, 6, 7, 8, 9, 10, 11, 12, 2] rfl
        have hD : va_D A (([(xa, .inr (11, [.ref x0, .int (nI x1), .ref x2, .int (nI x3), .ref x4, .ref x5, .ref x6, .int x7, .ref x8, .int x9, .int x10])), (q_10, .inr (2, [.int (nI x1), .int k1, .int e2_16, .ref e3_17, .int 0, .int 0, .ref e6_18, .ref e7_19, .ref e8_20, .int 0, .ref e10_21, .int 0, .ref e12_22, .ref e13_23, .long 0, .int 0, .ref e16_24, .ref e17_28, .ref e18_32, .ref e19_34])), (e16_24, .inr (1, [.ref e16a_25, .ref e16b_26, .ref e16c_27, .int 0])), (e17a_29, .inl ((cy 22), 20, .inr (.inr (.inr (.inr (fun _ => none)))))), (e17b_30, .inl ((cy 14), 20, .inl (fun _ => 0))), (e17c_31, .inl ((cy 14), 20, .inl (fun _ => 0))), (e17_28, .inr (1, [.ref e17a_29, .ref e17b_30, .ref e17c_31, .int 0])), (e18a_33, .inl ((cy 14), 60, .inl (fun _ => 0))), (e18_32, .inr (10, [.ref e18a_33, .int 0, .int 0])), (e19a_35, .inl ((cy 21), 120, .inr (.inr (.inr (.inr (fun _ => none)))))), (e19b_36, .inl ((cy 15), 100, .inr (.inl (fun _ => 0)))), (e19_34, .inr (0, [.ref e19a_35, .ref e19b_36, .ref x4, .int 0, .long 0]))] ++ [(e16c_27, .inl ((cy 14), 120, .inl (fun _ => 0)))]) ++ va_pl L M_177) := hD.part (cx := [(xa, .inr (11, [.ref x0, .int (nI x1), .ref x2, .int (nI x3), .ref x4, .ref x5, .ref x6, .int x7, .ref x8, .int x9, .int x10])), (q_10, .inr (2, [.int (nI x1), .int k1, .int e2_16, .ref e3_17, .int 0, .int 0, .ref e6_18, .ref e7_19, .ref e8_20, .int 0, .ref e10_21, .int 0, .ref e12_22, .ref e13_23, .long 0, .int 0, .ref e16_24, .ref e17_28, .ref e18_32, .ref e19_34])), (e16_24, .inr (1, [.ref e16a_25, .ref e16b_26, .ref e16c_27, .int 0])), (e17a_29, .inl ((cy 22), 20, .inr (.inr (.inr (.inr (fun _ => none)))))), (e17b_30, .inl ((cy 14), 20, .inl (fun _ => 0))), (e17c_31, .inl ((cy 14), 20, .inl (fun _ => 0))), (e17_28, .inr (1, [.ref e17a_29, .ref e17b_30, .ref e17c_31, .int 0])), (e18a_33, .inl ((cy 14), 60, .inl (fun _ => 0))), (e18_32, .inr (10, [.ref e18a_33, .int 0, .int 0])), (e19a_35, .inl ((cy 21), 120, .inr (.inr (.inr (.inr (fun _ => none)))))), (e19b_36, .inl ((cy 15), 100, .inr (.inl (fun _ => 0)))), (e19_34, .inr (0, [.ref e19a_35, .ref e19b_36, .ref x4, .int 0, .long 0]))] ++ [(e16c_27, .inl ((cy 14), 120, .inl (fun _ => 0)))]) [0, 1, 3, 4, 5, 6, 7, 8, 9, 10, 11, 12, 2] (by decide) rfl
        obtain ⟨K9, L9, M_197, hx9, i_198, hW, hP, hD, hM_199, hfr9, hq9⟩ := adoptE 57 120 hP hD hW (fun K' L' x i => (⟨_, rfl⟩ : gd_57 cy K' L' 120 _))
        have hM_201 : M_197 x0 = .inl (cy 17, 8, .inr (.inr (.inr (.inr (f1))))) := (hfr9 _ i_182.1).trans hM_181
        have hF : fr K0 L0 [17] M0 M_197 := hF.adX hX0 hfr9
        have hX0 := hX0.tr hx9
        have i_202 := i_182.ext hx9
        have i_203 := i_183.ext hx9
        have i_204 := i_184.ext hx9
        have i_205 := i_185.ext hx9
        have i_206 := i_186.ext hx9
        have i_207 := i_187.ext hx9
        have i_208 := i_188.ext hx9
        have i_209 := i_189.ext hx9
        have i_210 := i_190.ext hx9
        have i_211 := i_191.ext hx9
        have i_212 := i_192.ext hx9
        have i_213 := i_193.ext hx9
        have i_214 := i_194.ext hx9
        have i_215 := i_195.ext hx9
        have i_216 := i_178.ext hx9
        have hf_217 := fun j q => (hf_196 j q).ext hx9
        obtain ⟨K, L, hK9, hL9⟩ : ∃ (K : Kp) (L : List Nat), K = K9 ∧ L = L9 := ⟨_, _, rfl, rfl⟩
        subst hK9
        subst hL9
        have hP : va_P D vwCl ([(xa, .inr (11, [.ref x0, .int (nI x1), .ref x2, .int (nI x3), .ref x4, .ref x5, .ref x6, .int x7, .ref x8, .int x9, .int x10])), (q_10, .inr (2, [.int (nI x1), .int k1, .int e2_16, .ref e3_17, .int 0, .int 0, .ref e6_18, .ref e7_19, .ref e8_20, .int 0, .ref e10_21, .int 0, .ref e12_22, .ref e13_23, .long 0, .int 0, .ref e16_24, .ref e17_28, .ref e18_32, .ref e19_34])), (e16_24, .inr (1, [.ref e16a_25, .ref e16b_26, .ref e16c_27, .int 0])), (e17a_29, .inl ((cy 22), 20, .inr (.inr (.inr (.inr (fun _ => none)))))), (e17b_30, .inl ((cy 14), 20, .inl (fun _ => 0))), (e17c_31, .inl ((cy 14), 20, .inl (fun _ => 0))), (e17_28, .inr (1, [.ref e17a_29, .ref e17b_30, .ref e17c_31, .int 0])), (e18a_33, .inl ((cy 14), 60, .inl (fun _ => 0))), (e18_32, .inr (10, [.ref e18a_33, .int 0, .int 0])), (e19a_35, .inl ((cy 21), 120, .inr (.inr (.inr (.inr (fun _ => none)))))), (e19b_36, .inl ((cy 15), 100, .inr (.inl (fun _ => 0)))), (e19_34, .inr (0, [.ref e19a_35, .ref e19b_36, .ref x4, .int 0, .long 0]))] ++ va_pl L M_197) H_12 := hP
        have hD : va_D A ([(xa, .inr (11, [.ref x0, .int (nI x1), .ref x2, .int (nI x3), .ref x4, .ref x5, .ref x6, .int x7, .ref x8, .int x9, .int x10])), (q_10, .inr (2, [.int (nI x1), .int k1, .int e2_16, .ref e3_17, .int 0, .int 0, .ref e6_18, .ref e7_19, .ref e8_20, .int 0, .ref e10_21, .int 0, .ref e12_22, .ref e13_23, .long 0, .int 0, .ref e16_24, .ref e17_28, .ref e18_32, .ref e19_34])), (e16_24, .inr (1, [.ref e16a_25, .ref e16b_26, .ref e16c_27, .int 0])), (e17a_29, .inl ((cy 22), 20, .inr (.inr (.inr (.inr (fun _ => none)))))), (e17b_30, .inl ((cy 14), 20, .inl (fun _ => 0))), (e17c_31, .inl ((cy 14), 20, .inl (fun _ => 0))), (e17_28, .inr (1, [.ref e17a_29, .ref e17b_30, .ref e17c_31, .int 0])), (e18a_33, .inl ((cy 14), 60, .inl (fun _ => 0))), (e18_32, .inr (10, [.ref e18a_33, .int 0, .int 0])), (e19a_35, .inl ((cy 21), 120, .inr (.inr (.inr (.inr (fun _ => none)))))), (e19b_36, .inl ((cy 15), 100, .inr (.inl (fun _ => 0)))), (e19_34, .inr (0, [.ref e19a_35, .ref e19b_36, .ref x4, .int 0, .long 0]))] ++ va_pl L M_197) := hD
        have hP : va_P D vwCl (([(xa, .inr (11, [.ref x0, .int (nI x1), .ref x2, .int (nI x3), .ref x4, .ref x5, .ref x6, .int x7, .ref x8, .int x9, .int x10])), (q_10, .inr (2, [.int (nI x1), .int k1, .int e2_16, .ref e3_17, .int 0, .int 0, .ref e6_18, .ref e7_19, .ref e8_20, .int 0, .ref e10_21, .int 0, .ref e12_22, .ref e13_23, .long 0, .int 0, .ref e16_24, .ref e17_28, .ref e18_32, .ref e19_34])), (e17a_29, .inl ((cy 22), 20, .inr (.inr (.inr (.inr (fun _ => none)))))), (e17b_30, .inl ((cy 14), 20, .inl (fun _ => 0))), (e17c_31, .inl ((cy 14), 20, .inl (fun _ => 0))), (e17_28, .inr (1, [.ref e17a_29, .ref e17b_30, .ref e17c_31, .int 0])), (e18a_33, .inl ((cy 14), 60, .inl (fun _ => 0))), (e18_32, .inr (10, [.ref e18a_33, .int 0, .int 0])), (e19a_35, .inl ((cy 21), 120, .inr (.inr (.inr (.inr (fun _ => none)))))), (e19b_36, .inl ((cy 15), 100, .inr (.inl (fun _ => 0)))), (e19_34, .inr (0, [.ref e19a_35, .ref e19b_36, .ref x4, .int 0, .long 0]))] ++ [(e16_24, .inr (1, [.ref e16a_25, .ref e16b_26, .ref e16c_27, .int 0]))]) ++ va_pl L M_197) H_12 := hP.part (cx := [(xa, .inr (11, [.ref x0, .int (nI x1), .ref x2, .int (nI x3), .ref x4, .ref x5, .ref x6, .int x7, .ref x8, .int x9, .int x10])), (q_10, .inr (2, [.int (nI x1), .int k1, .int e2_16, .ref e3_17, .int 0, .int 0, .ref e6_18, .ref e7_19, .ref e8_20, .int 0, .ref e10_21, .int 0, .ref e12_22, .ref e13_23, .long 0, .int 0, .ref e16_24, .ref e17_28, .ref e18_32, .ref e19_34])), (e17a_29, .inl ((cy 22), 20, .inr (.inr (.inr (.inr (fun _ => none)))))), (e17b_30, .inl ((cy 14), 20, .inl (fun _ => 0))), (e17c_31, .inl ((cy 14), 20, .inl (fun _ => 0))), (e17_28, .inr (1, [.ref e17a_29, .ref e17b_30, .ref e17c_31, .int 0])), (e18a_33, .inl ((cy 14), 60, .inl (fun _ => 0))), (e18_32, .inr (10, [.ref e18a_33, .int 0, .int 0])), (e19a_35, .inl ((cy 21), 120, .inr (.inr (.inr (.inr (fun _ => none)))))), (e19b_36, .inl ((cy 15), 100, .inr (.inl (fun _ => 0)))), (e19_34, .inr (0, [.ref e19a_35, .ref e19b_36, .ref x4, .int 0, .long 0]))] ++ [(e16_24, .inr (1, [.ref e16a_25, .ref e16b_26, .ref e16c_27, .int 0]))]) [0, 1, 3, 4, 5, 6, 7, 8, 9, 10, 11, 2] rfl
        have hD : va_D A (([(xa, .inr (11, [.ref x0, .int (nI x1), .ref x2, .int (nI x3), .ref x4, .ref x5, .ref x6, .int x7, .ref x8, .int x9, .int x10])), (q_10, .inr (2, [.int (nI x1), .int k1, .int e2_16, .ref e3_17, .int 0, .int 0, .ref e6_18, .ref e7_19, .ref e8_20, .int 0, .ref e10_21, .int 0, .ref e12_22, .ref e13_23, .long 0, .int 0, .ref e16_24, .ref e17_28, .ref e18_32, .ref e19_34])), (e17a_29, .inl ((cy 22), 20, .inr (.inr (.inr (.inr (fun _ => none)))))), (e17b_30, .inl ((cy 14), 20, .inl (fun _ => 0))), (e17c_31, .inl ((cy 14), 20, .inl (fun _ => 0))), (e17_28, .inr (1, [.ref e17a_29, .ref e17b_30, .ref e17c_31, .int 0])), (e18a_33, .inl ((cy 14), 60, .inl (fun _ => 0))), (e18_32, .inr (10, [.ref e18a_33, .int 0, .int 0])), (e19a_35, .inl ((cy 21), 120, .inr (.inr (.inr (.inr (fun _ => none)))))), (e19b_36, .inl ((cy 15), 100, .inr (.inl (fun _ => 0)))), (e19_34, .inr (0, [.ref e19a_35, .ref e19b_36, .ref x4, .int 0, .long 0]))] ++ [(e16_24, .inr (1, [.ref e16a_25, .ref e16b_26, .ref e16c_27, .int 0]))]) ++ va_pl L M_197) := hD.part (cx := [(xa, .inr (11, [.ref x0, .int (nI x1), .ref x2, .int (nI x3), .ref x4, .ref x5, .ref x6, .int x7, .ref x8, .int x9, .int x10])), (q_10, .inr (2, [.int (nI x1), .int k1, .int e2_16, .ref e3_17, .int 0, .int 0, .ref e6_18, .ref e7_19, .ref e8_20, .int 0, .ref e10_21, .int 0, .ref e12_22, .ref e13_23, .long 0, .int 0, .ref e16_24, .ref e17_28, .ref e18_32, .ref e19_34])), (e17a_29, .inl ((cy 22), 20, .inr (.inr (.inr (.inr (fun _ => none)))))), (e17b_30, .inl ((cy 14), 20, .inl (fun _ => 0))), (e17c_31, .inl ((cy 14), 20, .inl (fun _ => 0))), (e17_28, .inr (1, [.ref e17a_29, .ref e17b_30, .ref e17c_31, .int 0])), (e18a_33, .inl ((cy 14), 60, .inl (fun _ => 0))), (e18_32, .inr (10, [.ref e18a_33, .int 0, .int 0])), (e19a_35, .inl ((cy 21), 120, .inr (.inr (.inr (.inr (fun _ => none)))))), (e19b_36, .inl ((cy 15), 100, .inr (.inl (fun _ => 0)))), (e19_34, .inr (0, [.ref e19a_35, .ref e19b_36, .ref x4, .int 0, .long 0]))] ++ [(e16_24, .inr (1, [.ref e16a_25, .ref e16b_26, .ref e16c_27, .int 0]))]) [0, 1, 3, 4, 5, 6, 7, 8, 9, 10, 11, 2] (by decide) rfl
        obtain ⟨K9, L9, M_218, hx9, i_219, hW, hP, hD, hM_220, hfr9, hq9⟩ := adoptE 1 0 hP hD hW (fun K' L' x i => (⟨120, e16a_25, e16b_26, e16c_27, 0, rfl, i_215.ext x, i_216.ext x, i_198.ext x, (by omega), (by decide)⟩ : gd_1 K' L' _))
        have hM_221 : M_218 x0 = .inl (cy 17, 8, .inr (.inr (.inr (.inr (f1))))) := (hfr9 _ i_202.1).trans hM_201
        have hF : fr K0 L0 [17] M0 M_218 := hF.adX hX0 hfr9
        have hX0 := hX0.tr hx9
        have i_222 := i_202.ext hx9
        have i_223 := i_203.ext hx9
        have i_224 := i_204.ext hx9
        have i_225 := i_205.ext hx9
        have i_226 := i_206.ext hx9
        have i_227 := i_207.ext hx9
        have i_228 := i_208.ext hx9
        have i_229 := i_209.ext hx9
        have i_230 := i_210.ext hx9
        have i_231 := i_211.ext hx9
        have i_232 := i_212.ext hx9
        have i_233 := i_213.ext hx9
        have i_234 := i_214.ext hx9
        have hf_235 := fun j q => (hf_217 j q).ext hx9
        obtain ⟨K, L, hK9, hL9⟩ : ∃ (K : Kp) (L : List Nat), K = K9 ∧ L = L9 := ⟨_, _, rfl, rfl⟩
        subst hK9
        subst hL9
        have hP : va_P D vwCl ([(xa, .inr (11, [.ref x0, .int (nI x1), .ref x2, .int (nI x3), .ref x4, .ref x5, .ref x6, .int x7, .ref x8, .int x9, .int x10])), (q_10, .inr (2, [.int (nI x1), .int k1, .int e2_16, .ref e3_17, .int 0, .int 0, .ref e6_18, .ref e7_19, .ref e8_20, .int 0, .ref e10_21, .int 0, .ref e12_22, .ref e13_23, .long 0, .int 0, .ref e16_24, .ref e17_28, .ref e18_32, .ref e19_34])), (e17a_29, .inl ((cy 22), 20, .inr (.inr (.inr (.inr (fun _ => none)))))), (e17b_30, .inl ((cy 14), 20, .inl (fun _ => 0))), (e17c_31, .inl ((cy 14), 20, .inl (fun _ => 0))), (e17_28, .inr (1, [.ref e17a_29, .ref e17b_30, .ref e17c_31, .int 0])), (e18a_33, .inl ((cy 14), 60, .inl (fun _ => 0))), (e18_32, .inr (10, [.ref e18a_33, .int 0, .int 0])), (e19a_35, .inl ((cy 21), 120, .inr (.inr (.inr (.inr (fun _ => none)))))), (e19b_36, .inl ((cy 15), 100, .inr (.inl (fun _ => 0)))), (e19_34, .inr (0, [.ref e19a_35, .ref e19b_36, .ref x4, .int 0, .long 0]))] ++ va_pl L M_218) H_12 := hP
        have hD : va_D A ([(xa, .inr (11, [.ref x0, .int (nI x1), .ref x2, .int (nI x3), .ref x4, .ref x5, .ref x6, .int x7, .ref x8, .int x9, .int x10])), (q_10, .inr (2, [.int (nI x1), .int k1, .int e2_16, .ref e3_17, .int 0, .int 0, .ref e6_18, .ref e7_19, .ref e8_20, .int 0, .ref e10_21, .int 0, .ref e12_22, .ref e13_23, .long 0, .int 0, .ref e16_24, .ref e17_28, .ref e18_32, .ref e19_34])), (e17a_29, .inl ((cy 22), 20, .inr (.inr (.inr (.inr (fun _ => none)))))), (e17b_30, .inl ((cy 14), 20, .inl (fun _ => 0))), (e17c_31, .inl ((cy 14), 20, .inl (fun _ => 0))), (e17_28, .inr (1, [.ref e17a_29, .ref e17b_30, .ref e17c_31, .int 0])), (e18a_33, .inl ((cy 14), 60, .inl (fun _ => 0))), (e18_32, .inr (10, [.ref e18a_33, .int 0, .int 0])), (e19a_35, .inl ((cy 21), 120, .inr (.inr (.inr (.inr (fun _ => none)))))), (e19b_36, .inl ((cy 15), 100, .inr (.inl (fun _ => 0)))), (e19_34, .inr (0, [.ref e19a_35, .ref e19b_36, .ref x4, .int 0, .long 0]))] ++ va_pl L M_218) := hD
        have hP : va_P D vwCl (([(xa, .inr (11, [.ref x0, .int (nI x1), .ref x2, .int (nI x3), .ref x4, .ref x5, .ref x6, .int x7, .ref x8, .int x9, .int x10])), (q_10, .inr (2, [.int (nI x1), .int k1, .int e2_16, .ref e3_17, .int 0, .int 0, .ref e6_18, .ref e7_19, .ref e8_20, .int 0, .ref e10_21, .int 0, .ref e12_22, .ref e13_23, .long 0, .int 0, .ref e16_24, .ref e17_28, .ref e18_32, .ref e19_34])), (e17b_30, .inl ((cy 14), 20, .inl (fun _ => 0))), (e17c_31, .inl ((cy 14), 20, .inl (fun _ => 0))), (e17_28, .inr (1, [.ref e17a_29, .ref e17b_30, .ref e17c_31, .int 0])), (e18a_33, .inl ((cy 14), 60, .inl (fun _ => 0))), (e18_32, .inr (10, [.ref e18a_33, .int 0, .int 0])), (e19a_35, .inl ((cy 21), 120, .inr (.inr (.inr (.inr (fun _ => none)))))), (e19b_36, .inl ((cy 15), 100, .inr (.inl (fun _ => 0)))), (e19_34, .inr (0, [.ref e19a_35, .ref e19b_36, .ref x4, .int 0, .long 0]))] ++ [(e17a_29, .inl ((cy 22), 20, .inr (.inr (.inr (.inr (fun _ => none))))))]) ++ va_pl L M_218) H_12 := hP.part (cx := [(xa, .inr (11, [.ref x0, .int (nI x1), .ref x2, .int (nI x3), .ref x4, .ref x5, .ref x6, .int x7, .ref x8, .int x9, .int x10])), (q_10, .inr (2, [.int (nI x1), .int k1, .int e2_16, .ref e3_17, .int 0, .int 0, .ref e6_18, .ref e7_19, .ref e8_20, .int 0, .ref e10_21, .int 0, .ref e12_22, .ref e13_23, .long 0, .int 0, .ref e16_24, .ref e17_28, .ref e18_32, .ref e19_34])), (e17b_30, .inl ((cy 14), 20, .inl (fun _ => 0))), (e17c_31, .inl ((cy 14), 20, .inl (fun _ => 0))), (e17_28, .inr (1, [.ref e17a_29, .ref e17b_30, .ref e17c_31, .int 0])), (e18a_33, .inl ((cy 14), 60, .inl (fun _ => 0))), (e18_32, .inr (10, [.ref e18a_33, .int 0, .int 0])), (e19a_35, .inl ((cy 21), 120, .inr (.inr (.inr (.inr (fun _ => none)))))), (e19b_36, .inl ((cy 15), 100, .inr (.inl (fun _ => 0)))), (e19_34, .inr (0, [.ref e19a_35, .ref e19b_36, .ref x4, .int 0, .long 0]))] ++ [(e17a_29, .inl ((cy 22), 20, .inr (.inr (.inr (.inr (fun _ => none))))))]) [0, 1, 3, 4, 5, 6, 7, 8, 9, 10, 2] rfl
        have hD : va_D A (([(xa, .inr (11, [.ref x0, .int (nI x1), .ref x2, .int (nI x3), .ref x4, .ref x5, .ref x6, .int x7, .ref x8, .int x9, .int x10])), (q_10, .inr (2, [.int (nI x1), .int k1, .int e2_16, .ref e3_17, .int 0, .int 0, .ref e6_18, .ref e7_19, .ref e8_20, .int 0, .ref e10_21, .int 0, .ref e12_22, .ref e13_23, .long 0, .int 0, .ref e16_24, .ref e17_28, .ref e18_32, .ref e19_34])), (e17b_30, .inl ((cy 14), 20, .inl (fun _ => 0))), (e17c_31, .inl ((cy 14), 20, .inl (fun _ => 0))), (e17_28, .inr (1, [.ref e17a_29, .ref e17b_30, .ref e17c_31, .int 0])), (e18a_33, .inl ((cy 14), 60, .inl (fun _ => 0))), (e18_32, .inr (10, [.ref e18a_33, .int 0, .int 0])), (e19a_35, .inl ((cy 21), 120, .inr (.inr (.inr (.inr (fun _ => none)))))), (e19b_36, .inl ((cy 15), 100, .inr (.inl (fun _ => 0)))), (e19_34, .inr (0, [.ref e19a_35, .ref e19b_36, .ref x4, .int 0, .long 0]))] ++ [(e17a_29, .inl ((cy 22), 20, .inr (.inr (.inr (.inr (fun _ => none))))))]) ++ va_pl L M_218) := hD.part (cx := [(xa, .inr (11, [.ref x0, .int (nI x1), .ref x2, .int (nI x3), .ref x4, .ref x5, .ref x6, .int x7, .ref x8, .int x9, .int x10])), (q_10, .inr (2, [.int (nI x1), .int k1, .int e2_16, .ref e3_17, .int 0, .int 0, .ref e6_18, .ref e7_19, .ref e8_20, .int 0, .ref e10_21, .int 0, .ref e12_22, .ref e13_23, .long 0, .int 0, .ref e16_24, .ref e17_28, .ref e18_32, .ref e19_34])), (e17b_30, .inl ((cy 14), 20, .inl (fun _ => 0))), (e17c_31, .inl ((cy 14), 20, .inl (fun _ => 0))), (e17_28, .inr (1, [.ref e17a_29, .ref e17b_30, .ref e17c_31, .int 0])), (e18a_33, .inl ((cy 14), 60, .inl (fun _ => 0))), (e18_32, .inr (10, [.ref e18a_33, .int 0, .int 0])), (e19a_35, .inl ((cy 21), 120, .inr (.inr (.inr (.inr (fun _ => none)))))), (e19b_36, .inl ((cy 15), 100, .inr (.inl (fun _ => 0)))), (e19_34, .inr (0, [.ref e19a_35, .ref e19b_36, .ref x4, .int 0, .long 0]))] ++ [(e17a_29, .inl ((cy 22), 20, .inr (.inr (.inr (.inr (fun _ => none))))))]) [0, 1, 3, 4, 5, 6, 7, 8, 9, 10, 2] (by decide) rfl
        obtain ⟨K9, L9, M_236, hx9, i_237, hW, hP, hD, hM_238, hfr9, hq9⟩ := adoptE 63 20 hP hD hW (fun K' L' x i => (⟨_, rfl, fun _ _ => iskN.none⟩ : gd_63 cy K' L' 20 _))
        have hM_240 : M_236 x0 = .inl (cy 17, 8, .inr (.inr (.inr (.inr (f1))))) := (hfr9 _ i_222.1).trans hM_221
        have hF : fr K0 L0 [17] M0 M_236 := hF.adX hX0 hfr9
        have hX0 := hX0.tr hx9
        have i_241 := i_222.ext hx9
        have i_242 := i_223.ext hx9
        have i_243 := i_224.ext hx9
        have i_244 := i_225.ext hx9
        have i_245 := i_226.ext hx9
        have i_246 := i_227.ext hx9
        have i_247 := i_228.ext hx9
        have i_248 := i_229.ext hx9
        have i_249 := i_230.ext hx9
        have i_250 := i_231.ext hx9
        have i_251 := i_232.ext hx9
        have i_252 := i_233.ext hx9
        have i_253 := i_234.ext hx9
        have i_254 := i_219.ext hx9
        have hf_255 := fun j q => (hf_235 j q).ext hx9
        obtain ⟨K, L, hK9, hL9⟩ : ∃ (K : Kp) (L : List Nat), K = K9 ∧ L = L9 := ⟨_, _, rfl, rfl⟩
        subst hK9
        subst hL9
        have hP : va_P D vwCl ([(xa, .inr (11, [.ref x0, .int (nI x1), .ref x2, .int (nI x3), .ref x4, .ref x5, .ref x6, .int x7, .ref x8, .int x9, .int x10])), (q_10, .inr (2, [.int (nI x1), .int k1, .int e2_16, .ref e3_17, .int 0, .int 0, .ref e6_18, .ref e7_19, .ref e8_20, .int 0, .ref e10_21, .int 0, .ref e12_22, .ref e13_23, .long 0, .int 0, .ref e16_24, .ref e17_28, .ref e18_32, .ref e19_34])), (e17b_30, .inl ((cy 14), 20, .inl (fun _ => 0))), (e17c_31, .inl ((cy 14), 20, .inl (fun _ => 0))), (e17_28, .inr (1, [.ref e17a_29, .ref e17b_30, .ref e17c_31, .int 0])), (e18a_33, .inl ((cy 14), 60, .inl (fun _ => 0))), (e18_32, .inr (10, [.ref e18a_33, .int 0, .int 0])), (e19a_35, .inl ((cy 21), 120, .inr (.inr (.inr (.inr (fun _ => none)))))), (e19b_36, .inl ((cy 15), 100, .inr (.inl (fun _ => 0)))), (e19_34, .inr (0, [.ref e19a_35, .ref e19b_36, .ref x4, .int 0, .long 0]))] ++ va_pl L M_236) H_12 := hP
        have hD : va_D A ([(xa, .inr (11, [.ref x0, .int (nI x1), .ref x2, .int (nI x3), .ref x4, .ref x5, .ref x6, .int x7, .ref x8, .int x9, .int x10])), (q_10, .inr (2, [.int (nI x1), .int k1, .int e2_16, .ref e3_17, .int 0, .int 0, .ref e6_18, .ref e7_19, .ref e8_20, .int 0, .ref e10_21, .int 0, .ref e12_22, .ref e13_23, .long 0, .int 0, .ref e16_24, .ref e17_28, .ref e18_32, .ref e19_34])), (e17b_30, .inl ((cy 14), 20, .inl (fun _ => 0))), (e17c_31, .inl ((cy 14), 20, .inl (fun _ => 0))), (e17_28, .inr (1, [.ref e17a_29, .ref e17b_30, .ref e17c_31, .int 0])), (e18a_33, .inl ((cy 14), 60, .inl (fun _ => 0))), (e18_32, .inr (10, [.ref e18a_33, .int 0, .int 0])), (e19a_35, .inl ((cy 21), 120, .inr (.inr (.inr (.inr (fun _ => none)))))), (e19b_36, .inl ((cy 15), 100, .inr (.inl (fun _ => 0)))), (e19_34, .inr (0, [.ref e19a_35, .ref e19b_36, .ref x4, .int 0, .long 0]))] ++ va_pl L M_236) := hD
        have hP : va_P D vwCl (([(xa, .inr (11, [.ref x0, .int (nI x1), .ref x2, .int (nI x3), .ref x4, .ref x5, .ref x6, .int x7, .ref x8, .int x9, .int x10])), (q_10, .inr (2, [.int (nI x1), .int k1, .int e2_16, .ref e3_17, .int 0, .int 0, .ref e6_18, .ref e7_19, .ref e8_20, .int 0, .ref e10_21, .int 0, .ref e12_22, .ref e13_23, .long 0, .int 0, .ref e16_24, .ref e17_28, .ref e18_32, .ref e19_34])), (e17c_31, .inl ((cy 14), 20, .inl (fun _ => 0))), (e17_28, .inr (1, [.ref e17a_29, .ref e17b_30, .ref e17c_31, .int 0])), (e18a_33, .inl ((cy 14), 60, .inl (fun _ => 0))), (e18_32, .inr (10, [.ref e18a_33, .int 0, .int 0])), (e19a_35, .inl ((cy 21), 120, .inr (.inr (.inr (.inr (fun _ => none)))))), (e19b_36, .inl ((cy 15), 100, .inr (.inl (fun _ => 0)))), (e19_34, .inr (0, [.ref e19a_35, .ref e19b_36, .ref x4, .int 0, .long 0]))] ++ [(e17b_30, .inl ((cy 14), 20, .inl (fun _ => 0)))]) ++ va_pl L M_236) H_12 := hP.part (cx := [(xa, .inr (11, [.ref x0, .int (nI x1), .ref x2, .int (nI x3), .ref x4, .ref x5, .ref x6, .int x7, .ref x8, .int x9, .int x10])), (q_10, .inr (2, [.int (nI x1), .int k1, .int e2_16, .ref e3_17, .int 0, .int 0, .ref e6_18, .ref e7_19, .ref e8_20, .int 0, .ref e10_21, .int 0, .ref e12_22, .ref e13_23, .long 0, .int 0, .ref e16_24, .ref e17_28, .ref e18_32, .ref e19_34])), (e17c_31, .inl ((cy 14), 20, .inl (fun _ => 0))), (e17_28, .inr (1, [.ref e17a_29, .ref e17b_30, .ref e17c_31, .int 0])), (e18a_33, .inl ((cy 14), 60, .inl (fun _ => 0))), (e18_32, .inr (10, [.ref e18a_33, .int 0, .int 0])), (e19a_35, .inl ((cy 21), 120, .inr (.inr (.inr (.inr (fun _ => none)))))), (e19b_36, .inl ((cy 15), 100, .inr (.inl (fun _ => 0)))), (e19_34, .inr (0, [.ref e19a_35, .ref e19b_36, .ref x4, .int 0, .long 0]))] ++ [(e17b_30, .inl ((cy 14), 20, .inl (fun _ => 0)))]) [0, 1, 3, 4, 5, 6, 7, 8, 9, 2] rfl
        have hD : va_D A (([(xa, .inr (11, [.ref x0, .int (nI x1), .ref x2, .int (nI x3), .ref x4, .ref x5, .ref x6, .int x7, .ref x8, .int x9, .int x10])), (q_10, .inr (2, [.int (nI x1), .int k1, .int e2_16, .ref e3_17, .int 0, .int 0, .ref e6_18, .ref e7_19, .ref e8_20, .int 0, .ref e10_21, .int 0, .ref e12_22, .ref e13_23, .long 0, .int 0, .ref e16_24, .ref e17_28, .ref e18_32, .ref e19_34])), (e17c_31, .inl ((cy 14), 20, .inl (fun _ => 0))), (e17_28, .inr (1, [.ref e17a_29, .ref e17b_30, .ref e17c_31, .int 0])), (e18a_33, .inl ((cy 14), 60, .inl (fun _ => 0))), (e18_32, .inr (10, [.ref e18a_33, .int 0, .int 0])), (e19a_35, .inl ((cy 21), 120, .inr (.inr (.inr (.inr (fun _ => none)))))), (e19b_36, .inl ((cy 15), 100, .inr (.inl (fun _ => 0)))), (e19_34, .inr (0, [.ref e19a_35, .ref e19b_36, .ref x4, .int 0, .long 0]))] ++ [(e17b_30, .inl ((cy 14), 20, .inl (fun _ => 0)))]) ++ va_pl L M_236) := hD.part (cx := [(xa, .inr (11, [.ref x0, .int (nI x1), .ref x2, .int (nI x3), .ref x4, .ref x5, .ref x6, .int x7, .ref x8, .int x9, .int x10])), (q_10, .inr (2, [.int (nI x1), .int k1, .int e2_16, .ref e3_17, .int 0, .int 0, .ref e6_18, .ref e7_19, .ref e8_20, .int 0, .ref e10_21, .int 0, .ref e12_22, .ref e13_23, .long 0, .int 0, .ref e16_24, .ref e17_28, .ref e18_32, .ref e19_34])), (e17c_31, .inl ((cy 14), 20, .inl (fun _ => 0))), (e17_28, .inr (1, [.ref e17a_29, .ref e17b_30, .ref e17c_31, .int 0])), (e18a_33, .inl ((cy 14), 60, .inl (fun _ => 0))), (e18_32, .inr (10, [.ref e18a_33, .int 0, .int 0])), (e19a_35, .inl ((cy 21), 120, .inr (.inr (.inr (.inr (fun _ => none)))))), (e19b_36, .inl ((cy 15), 100, .inr (.inl (fun _ => 0)))), (e19_34, .inr (0, [.ref e19a_35, .ref e19b_36, .ref x4, .int 0, .long 0]))] ++ [(e17b_30, .inl ((cy 14), 20, .inl (fun _ => 0)))]) [0, 1, 3, 4, 5, 6, 7, 8, 9, 2] (by decide) rfl
        obtain ⟨K9, L9, M_256, hx9, i_257, hW, hP, hD, hM_258, hfr9, hq9⟩ := adoptE 56 20 hP hD hW (fun K' L' x i => (⟨_, rfl⟩ : gd_56 cy K' L' 20 _))
        have hM_260 : M_256 x0 = .inl (cy 17, 8, .inr (.inr (.inr (.inr (f1))))) := (hfr9 _ i_241.1).trans hM_240
        have hF : fr K0 L0 [17] M0 M_256 := hF.adX hX0 hfr9
        have hX0 := hX0.tr hx9
        have i_261 := i_241.ext hx9
        have i_262 := i_242.ext hx9
        have i_263 := i_243.ext hx9
        have i_264 := i_244.ext hx9
        have i_265 := i_245.ext hx9
        have i_266 := i_246.ext hx9
        have i_267 := i_247.ext hx9
        have i_268 := i_248.ext hx9
        have i_269 := i_249.ext hx9
        have i_270 := i_250.ext hx9
        have i_271 := i_251.ext hx9
        have i_272 := i_252.ext hx9
        have i_273 := i_253.ext hx9
        have i_274 := i_254.ext hx9
        have i_275 := i_237.ext hx9
        have hf_276 := fun j q => (hf_255 j q).ext hx9
        obtain ⟨K, L, hK9, hL9⟩ : ∃ (K : Kp) (L : List Nat), K = K9 ∧ L = L9 := ⟨_, _, rfl, rfl⟩
        subst hK9
        subst hL9
        have hP : va_P D vwCl ([(xa, .inr (11, [.ref x0, .int (nI x1), .ref x2, .int (nI x3), .ref x4, .ref x5, .ref x6, .int x7, .ref x8, .int x9, .int x10])), (q_10, .inr (2, [.int (nI x1), .int k1, .int e2_16, .ref e3_17, .int 0, .int 0, .ref e6_18, .ref e7_19, .ref e8_20, .int 0, .ref e10_21, .int 0, .ref e12_22, .ref e13_23, .long 0, .int 0, .ref e16_24, .ref e17_28, .ref e18_32, .ref e19_34])), (e17c_31, .inl ((cy 14), 20, .inl (fun _ => 0))), (e17_28, .inr (1, [.ref e17a_29, .ref e17b_30, .ref e17c_31, .int 0])), (e18a_33, .inl ((cy 14), 60, .inl (fun _ => 0))), (e18_32, .inr (10, [.ref e18a_33, .int 0, .int 0])), (e19a_35, .inl ((cy 21), 120, .inr (.inr (.inr (.inr (fun _ => none)))))), (e19b_36, .inl ((cy 15), 100, .inr (.inl (fun _ => 0)))), (e19_34, .inr (0, [.ref e19a_35, .ref e19b_36, .ref x4, .int 0, .long 0]))] ++ va_pl L M_256) H_12 := hP
        have hD : va_D A ([(xa, .inr (11, [.ref x0, .int (nI x1), .ref x2, .int (nI x3), .ref x4, .ref x5, .ref x6, .int x7, .ref x8, .int x9, .int x10])), (q_10, .inr (2, [.int (nI x1), .int k1, .int e2_16, .ref e3_17, .int 0, .int 0, .ref e6_18, .ref e7_19, .ref e8_20, .int 0, .ref e10_21, .int 0, .ref e12_22, .ref e13_23, .long 0, .int 0, .ref e16_24, .ref e17_28, .ref e18_32, .ref e19_34])), (e17c_31, .inl ((cy 14), 20, .inl (fun _ => 0))), (e17_28, .inr (1, [.ref e17a_29, .ref e17b_30, .ref e17c_31, .int 0])), (e18a_33, .inl ((cy 14), 60, .inl (fun _ => 0))), (e18_32, .inr (10, [.ref e18a_33, .int 0, .int 0])), (e19a_35, .inl ((cy 21), 120, .inr (.inr (.inr (.inr (fun _ => none)))))), (e19b_36, .inl ((cy 15), 100, .inr (.inl (fun _ => 0)))), (e19_34, .inr (0, [.ref e19a_35, .ref e19b_36, .ref x4, .int 0, .long 0]))] ++ va_pl L M_256) := hD
        have hP : va_P D vwCl (([(xa, .inr (11, [.ref x0, .int (nI x1), .ref x2, .int (nI x3), .ref x4, .ref x5, .ref x6, .int x7, .ref x8, .int x9, .int x10])), (q_10, .inr (2, [.int (nI x1), .int k1, .int e2_16, .ref e3_17, .int 0, .int 0, .ref e6_18, .ref e7_19, .ref e8_20, .int 0, .ref e10_21, .int 0, .ref e12_22, .ref e13_23, .long 0, .int 0, .ref e16_24, .ref e17_28, .ref e18_32, .ref e19_34])), (e17_28, .inr (1, [.ref e17a_29, .ref e17b_30, .ref e17c_31, .int 0])), (e18a_33, .inl ((cy 14), 60, .inl (fun _ => 0))), (e18_32, .inr (10, [.ref e18a_33, .int 0, .int 0])), (e19a_35, .inl ((cy 21), 120, .inr (.inr (.inr (.inr (fun _ => none)))))), (e19b_36, .inl ((cy 15), 100, .inr (.inl (fun _ => 0)))), (e19_34, .inr (0, [.ref e19a_35, .ref e19b_36, .ref x4, .int 0, .long 0]))] ++ [(e17c_31, .inl ((cy 14), 20, .inl (fun _ => 0)))]) ++ va_pl L M_256) H_12 := hP.part (cx := [(xa, .inr (11, [.ref x0, .int (nI x1), .ref x2, .int (nI x3), .ref x4, .ref x5, .ref x6, .int x7, .ref x8, .int x9, .int x10])), (q_10, .inr (2, [.int (nI x1), .int k1, .int e2_16, .ref e3_17, .int 0, .int 0, .ref e6_18, .ref e7_19, .ref e8_20, .int 0, .ref e10_21, .int 0, .ref e12_22, .ref e13_23, .long 0, .int 0, .ref e16_24, .ref e17_28, .ref e18_32, .ref e19_34])), (e17_28, .inr (1, [.ref e17a_29, .ref e17b_30, .ref e17c_31, .int 0])), (e18a_33, .inl ((cy 14), 60, .inl (fun _ => 0))), (e18_32, .inr (10, [.ref e18a_33, .int 0, .int 0])), (e19a_35, .inl ((cy 21), 120, .inr (.inr (.inr (.inr (fun _ => none)))))), (e19b_36, .inl ((cy 15), 100, .inr (.inl (fun _ => 0)))), (e19_34, .inr (0, [.ref e19a_35, .ref e19b_36, .ref x4, .int 0, .long 0]))] ++ [(e17c_31, .inl ((cy 14), 20, .inl (fun _ => 0)))]) [0, 1, 3, 4, 5, 6, 7, 8, 2] rfl
        have hD : va_D A (([(xa, .inr (11, [.ref x0, .int (nI x1), .ref x2, .int (nI x3), .ref x4, .ref x5, .ref x6, .int x7, .ref x8, .int x9, .int x10])), (q_10, .inr (2, [.int (nI x1), .int k1, .int e2_16, .ref e3_17, .int 0, .int 0, .ref e6_18, .ref e7_19, .ref e8_20, .int 0, .ref e10_21, .int 0, .ref e12_22, .ref e13_23, .long 0, .int 0, .ref e16_24, .ref e17_28, .ref e18_32, .ref e19_34])), (e17_28, .inr (1, [.ref e17a_29, .ref e17b_30, .ref e17c_31, .int 0])), (e18a_33, .inl ((cy 14), 60, .inl (fun _ => 0))), (e18_32, .inr (10, [.ref e18a_33, .int 0, .int 0])), (e19a_35, .inl ((cy 21), 120, .inr (.inr (.inr (.inr (fun _ => none)))))), (e19b_36, .inl ((cy 15), 100, .inr (.inl (fun _ => 0)))), (e19_34, .inr (0, [.ref e19a_35, .ref e19b_36, .ref x4, .int 0, .long 0]))] ++ [(e17c_31, .inl ((cy 14), 20, .inl (fun _ => 0)))]) ++ va_pl L M_256) := hD.part (cx := [(xa, .inr (11, [.ref x0, .int (nI x1), .ref x2, .int (nI x3), .ref x4, .ref x5, .ref x6, .int x7, .ref x8, .int x9, .int x10])), (q_10, .inr (2, [.int (nI x1), .int k1, .int e2_16, .ref e3_17, .int 0, .int 0, .ref e6_18, .ref e7_19, .ref e8_20, .int 0, .ref e10_21, .int 0, .ref e12_22, .ref e13_23, .long 0, .int 0, .ref e16_24, .ref e17_28, .ref e18_32, .ref e19_34])), (e17_28, .inr (1, [.ref e17a_29, .ref e17b_30, .ref e17c_31, .int 0])), (e18a_33, .inl ((cy 14), 60, .inl (fun _ => 0))), (e18_32, .inr (10, [.ref e18a_33, .int 0, .int 0])), (e19a_35, .inl ((cy 21), 120, .inr (.inr (.inr (.inr (fun _ => none)))))), (e19b_36, .inl ((cy 15), 100, .inr (.inl (fun _ => 0)))), (e19_34, .inr (0, [.ref e19a_35, .ref e19b_36, .ref x4, .int 0, .long 0]))] ++ [(e17c_31, .inl ((cy 14), 20, .inl (fun _ => 0)))]) [0, 1, 3, 4, 5, 6, 7, 8, 2] (by decide) rfl
        obtain ⟨K9, L9, M_277, hx9, i_278, hW, hP, hD, hM_279, hfr9, hq9⟩ := adoptE 57 20 hP hD hW (fun K' L' x i => (⟨_, rfl⟩ : gd_57 cy K' L' 20 _))
        have hM_281 : M_277 x0 = .inl (cy 17, 8, .inr (.inr (.inr (.inr (f1))))) := (hfr9 _ i_261.1).trans hM_260
        have hF : fr K0 L0 [17] M0 M_277 := hF.adX hX0 hfr9
        have hX0 := hX0.tr hx9
        have i_282 := i_261.ext hx9
        have i_283 := i_262.ext hx9
        have i_284 := i_263.ext hx9
        have i_285 := i_264.ext hx9
        have i_286 := i_265.ext hx9
        have i_287 := i_266.ext hx9
        have i_288 := i_267.ext hx9
        have i_289 := i_268.ext hx9
        have i_290 := i_269.ext hx9
        have i_291 := i_270.ext hx9
        have i_292 := i_271.ext hx9
        have i_293 := i_272.ext hx9
        have i_294 := i_273.ext hx9
        have i_295 := i_274.ext hx9
        have i_296 := i_275.ext hx9
        have i_297 := i_257.ext hx9
        have hf_298 := fun j q => (hf_276 j q).ext hx9
        obtain ⟨K, L, hK9, hL9⟩ : ∃ (K : Kp) (L : List Nat), K = K9 ∧ L = L9 := ⟨_, _, rfl, rfl⟩
        subst hK9
        subst hL9
        have hP : va_P D vwCl ([(xa, .inr (11, [.ref x0, .int (nI x1), .ref x2, .int (nI x3), .ref x4, .ref x5, .ref x6, .int x7, .ref x8, .int x9, .int x10])), (q_10, .inr (2, [.int (nI x1), .int k1, .int e2_16, .ref e3_17, .int 0, .int 0, .ref e6_18, .ref e7_19, .ref e8_20, .int 0, .ref e10_21, .int 0, .ref e12_22, .ref e13_23, .long 0, .int 0, .ref e16_24, .ref e17_28, .ref e18_32, .ref e19_34])), (e17_28, .inr (1, [.ref e17a_29, .ref e17b_30, .ref e17c_31, .int 0])), (e18a_33, .inl ((cy 14), 60, .inl (fun _ => 0))), (e18_32, .inr (10, [.ref e18a_33, .int 0, .int 0])), (e19a_35, .inl ((cy 21), 120, .inr (.inr (.inr (.inr (fun _ => none)))))), (e19b_36, .inl ((cy 15), 100, .inr (.inl (fun _ => 0)))), (e19_34, .inr (0, [.ref e19a_35, .ref e19b_36, .ref x4, .int 0, .long 0]))] ++ va_pl L M_277) H_12 := hP
        have hD : va_D A ([(xa, .inr (11, [.ref x0, .int (nI x1), .ref x2, .int (nI x3), .ref x4, .ref x5, .ref x6, .int x7, .ref x8, .int x9, .int x10])), (q_10, .inr (2, [.int (nI x1), .int k1, .int e2_16, .ref e3_17, .int 0, .int 0, .ref e6_18, .ref e7_19, .ref e8_20, .int 0, .ref e10_21, .int 0, .ref e12_22, .ref e13_23, .long 0, .int 0, .ref e16_24, .ref e17_28, .ref e18_32, .ref e19_34])), (e17_28, .inr (1, [.ref e17a_29, .ref e17b_30, .ref e17c_31, .int 0])), (e18a_33, .inl ((cy 14), 60, .inl (fun _ => 0))), (e18_32, .inr (10, [.ref e18a_33, .int 0, .int 0])), (e19a_35, .inl ((cy 21), 120, .inr (.inr (.inr (.inr (fun _ => none)))))), (e19b_36, .inl ((cy 15), 100, .inr (.inl (fun _ => 0)))), (e19_34, .inr (0, [.ref e19a_35, .ref e19b_36, .ref x4, .int 0, .long 0]))] ++ va_pl L M_277) := hD
        have hP : va_P D vwCl (([(xa, .inr (11, [.ref x0, .int (nI x1), .ref x2, .int (nI x3), .ref x4, .ref x5, .ref x6, .int x7, .ref x8, .int x9, .int x10])), (q_10, .inr (2, [.int (nI x1), .int k1, .int e2_16, .ref e3_17, .int 0, .int 0, .ref e6_18, .ref e7_19, .ref e8_20, .int 0, .ref e10_21, .int 0, .ref e12_22, .ref e13_23, .long 0, .int 0, .ref e16_24, .ref e17_28, .ref e18_32, .ref e19_34])), (e18a_33, .inl ((cy 14), 60, .inl (fun _ => 0))), (e18_32, .inr (10, [.ref e18a_33, .int 0, .int 0])), (e19a_35, .inl ((cy 21), 120, .inr (.inr (.inr (.inr (fun _ => none)))))), (e19b_36, .inl ((cy 15), 100, .inr (.inl (fun _ => 0)))), (e19_34, .inr (0, [.ref e19a_35, .ref e19b_36, .ref x4, .int 0, .long 0]))] ++ [(e17_28, .inr (1, [.ref e17a_29, .ref e17b_30, .ref e17c_31, .int 0]))]) ++ va_pl L M_277) H_12 := hP.part (cx := [(xa, .inr (11, [.ref x0, .int (nI x1), .ref x2, .int (nI x3), .ref x4, .ref x5, .ref x6, .int x7, .ref x8, .int x9, .int x10])), (q_10, .inr (2, [.int (nI x1), .int k1, .int e2_16, .ref e3_17, .int 0, .int 0, .ref e6_18, .ref e7_19, .ref e8_20, .int 0, .ref e10_21, .int 0, .ref e12_22, .ref e13_23, .long 0, .int 0, .ref e16_24, .ref e17_28, .ref e18_32, .ref e19_34])), (e18a_33, .inl ((cy 14), 60, .inl (fun _ => 0))), (e18_32, .inr (10, [.ref e18a_33, .int 0, .int 0])), (e19a_35, .inl ((cy 21), 120, .inr (.inr (.inr (.inr (fun _ => none)))))), (e19b_36, .inl ((cy 15), 100, .inr (.inl (fun _ => 0)))), (e19_34, .inr (0, [.ref e19a_35, .ref e19b_36, .ref x4, .int 0, .long 0]))] ++ [(e17_28, .inr (1, [.ref e17a_29, .ref e17b_30, .ref e17c_31, .int 0]))]) [0, 1, 3, 4, 5, 6, 7, 2] rfl
        have hD : va_D A (([(xa, .inr (11, [.ref x0, .int (nI x1), .ref x2, .int (nI x3), .ref x4, .ref x5, .ref x6, .int x7, .ref x8, .int x9, .int x10])), (q_10, .inr (2, [.int (nI x1), .int k1, .int e2_16, .ref e3_17, .int 0, .int 0, .ref e6_18, .ref e7_19, .ref e8_20, .int 0, .ref e10_21, .int 0, .ref e12_22, .ref e13_23, .long 0, .int 0, .ref e16_24, .ref e17_28, .ref e18_32, .ref e19_34])), (e18a_33, .inl ((cy 14), 60, .inl (fun _ => 0))), (e18_32, .inr (10, [.ref e18a_33, .int 0, .int 0])), (e19a_35, .inl ((cy 21), 120, .inr (.inr (.inr (.inr (fun _ => none)))))), (e19b_36, .inl ((cy 15), 100, .inr (.inl (fun _ => 0)))), (e19_34, .inr (0, [.ref e19a_35, .ref e19b_36, .ref x4, .int 0, .long 0]))] ++ [(e17_28, .inr (1, [.ref e17a_29, .ref e17b_30, .ref e17c_31, .int 0]))]) ++ va_pl L M_277) := hD.part (cx := [(xa, .inr (11, [.ref x0, .int (nI x1), .ref x2, .int (nI x3), .ref x4, .ref x5, .ref x6, .int x7, .ref x8, .int x9, .int x10])), (q_10, .inr (2, [.int (nI x1), .int k1, .int e2_16, .ref e3_17, .int 0, .int 0, .ref e6_18, .ref e7_19, .ref e8_20, .int 0, .ref e10_21, .int 0, .ref e12_22, .ref e13_23, .long 0, .int 0, .ref e16_24, .ref e17_28, .ref e18_32, .ref e19_34])), (e18a_33, .inl ((cy 14), 60, .inl (fun _ => 0))), (e18_32, .inr (10, [.ref e18a_33, .int 0, .int 0])), (e19a_35, .inl ((cy 21), 120, .inr (.inr (.inr (.inr (fun _ => none)))))), (e19b_36, .inl ((cy 15), 100, .inr (.inl (fun _ => 0)))), (e19_34, .inr (0, [.ref e19a_35, .ref e19b_36, .ref x4, .int 0, .long 0]))] ++ [(e17_28, .inr (1, [.ref e17a_29, .ref e17b_30, .ref e17c_31, .int 0]))]) [0, 1, 3, 4, 5, 6, 7, 2] (by decide) rfl
        obtain ⟨K9, L9, M_299, hx9, i_300, hW, hP, hD, hM_301, hfr9, hq9⟩ := adoptE 1 0 hP hD hW (fun K' L' x i => (⟨20, e17a_29, e17b_30, e17c_31, 0, rfl, i_296.ext x, i_297.ext x, i_278.ext x, (by omega), (by decide)⟩ : gd_1 K' L' _))
        have hM_302 : M_299 x0 = .inl (cy 17, 8, .inr (.inr (.inr (.inr (f1))))) := (hfr9 _ i_282.1).trans hM_281
        have hF : fr K0 L0 [17] M0 M_299 := hF.adX hX0 hfr9
        have hX0 := hX0.tr hx9
        have i_303 := i_282.ext hx9
        have i_304 := i_283.ext hx9
        have i_305 := i_284.ext hx9
        have i_306 := i_285.ext hx9
        have i_307 := i_286.ext hx9
        have i_308 := i_287.ext hx9
        have i_309 := i_288.ext hx9
        have i_310 := i_289.ext hx9
        have i_311 := i_290.ext hx9
        have i_312 := i_291.ext hx9
        have i_313 := i_292.ext hx9
        have i_314 := i_293.ext hx9
        have i_315 := i_294.ext hx9
        have i_316 := i_295.ext hx9
        have hf_317 := fun j q => (hf_298 j q).ext hx9
        obtain ⟨K, L, hK9, hL9⟩ : ∃ (K : Kp) (L : List Nat), K = K9 ∧ L = L9 := ⟨_, _, rfl, rfl⟩
        subst hK9
        subst hL9
        have hP : va_P D vwCl ([(xa, .inr (11, [.ref x0, .int (nI x1), .ref x2, .int (nI x3), .ref x4, .ref x5, .ref x6, .int x7, .ref x8, .int x9, .int x10])), (q_10, .inr (2, [.int (nI x1), .int k1, .int e2_16, .ref e3_17, .int 0, .int 0, .ref e6_18, .ref e7_19, .ref e8_20, .int 0, .ref e10_21, .int 0, .ref e12_22, .ref e13_23, .long 0, .int 0, .ref e16_24, .ref e17_28, .ref e18_32, .ref e19_34])), (e18a_33, .inl ((cy 14), 60, .inl (fun _ => 0))), (e18_32, .inr (10, [.ref e18a_33, .int 0, .int 0])), (e19a_35, .inl ((cy 21), 120, .inr (.inr (.inr (.inr (fun _ => none)))))), (e19b_36, .inl ((cy 15), 100, .inr (.inl (fun _ => 0)))), (e19_34, .inr (0, [.ref e19a_35, .ref e19b_36, .ref x4, .int 0, .long 0]))] ++ va_pl L M_299) H_12 := hP
        have hD : va_D A ([(xa, .inr (11, [.ref x0, .int (nI x1), .ref x2, .int (nI x3), .ref x4, .ref x5, .ref x6, .int x7, .ref x8, .int x9, .int x10])), (q_10, .inr (2, [.int (nI x1), .int k1, .int e2_16, .ref e3_17, .int 0, .int 0, .ref e6_18, .ref e7_19, .ref e8_20, .int 0, .ref e10_21, .int 0, .ref e12_22, .ref e13_23, .long 0, .int 0, .ref e16_24, .ref e17_28, .ref e18_32, .ref e19_34])), (e18a_33, .inl ((cy 14), 60, .inl (fun _ => 0))), (e18_32, .inr (10, [.ref e18a_33, .int 0, .int 0])), (e19a_35, .inl ((cy 21), 120, .inr (.inr (.inr (.inr (fun _ => none)))))), (e19b_36, .inl ((cy 15), 100, .inr (.inl (fun _ => 0)))), (e19_34, .inr (0, [.ref e19a_35, .ref e19b_36, .ref x4, .int 0, .long 0]))] ++ va_pl L M_299) := hD
        have hP : va_P D vwCl (([(xa, .inr (11, [.ref x0, .int (nI x1), .ref x2, .int (nI x3), .ref x4, .ref x5, .ref x6, .int x7, .ref x8, .int x9, .int x10])), (q_10, .inr (2, [.int (nI x1), .int k1, .int e2_16, .ref e3_17, .int 0, .int 0, .ref e6_18, .ref e7_19, .ref e8_20, .int 0, .ref e10_21, .int 0, .ref e12_22, .ref e13_23, .long 0, .int 0, .ref e16_24, .ref e17_28, .ref e18_32, .ref e19_34])), (e18_32, .inr (10, [.ref e18a_33, .int 0, .int 0])), (e19a_35, .inl ((cy 21), 120, .inr (.inr (.inr (.inr (fun _ => none)))))), (e19b_36, .inl ((cy 15), 100, .inr (.inl (fun _ => 0)))), (e19_34, .inr (0, [.ref e19a_35, .ref e19b_36, .ref x4, .int 0, .long 0]))] ++ [(e18a_33, .inl ((cy 14), 60, .inl (fun _ => 0)))]) ++ va_pl L M_299) H_12 := hP.part (cx := [(xa, .inr (11, [.ref x0, .int (nI x1), .ref x2, .int (nI x3), .ref x4, .ref x5, .ref x6, .int x7, .ref x8, .int x9, .int x10])), (q_10, .inr (2, [.int (nI x1), .int k1, .int e2_16, .ref e3_17, .int 0, .int 0, .ref e6_18, .ref e7_19, .ref e8_20, .int 0, .ref e10_21, .int 0, .ref e12_22, .ref e13_23, .long 0, .int 0, .ref e16_24, .ref e17_28, .ref e18_32, .ref e19_34])), (e18_32, .inr (10, [.ref e18a_33, .int 0, .int 0])), (e19a_35, .inl ((cy 21), 120, .inr (.inr (.inr (.inr (fun _ => none)))))), (e19b_36, .inl ((cy 15), 100, .inr (.inl (fun _ => 0)))), (e19_34, .inr (0, [.ref e19a_35, .ref e19b_36, .ref x4, .int 0, .long 0]))] ++ [(e18a_33, .inl ((cy 14), 60, .inl (fun _ => 0)))]) [0, 1, 3, 4, 5, 6, 2] rfl
        have hD : va_D A (([(xa, .inr (11, [.ref x0, .int (nI x1), .ref x2, .int (nI x3), .ref x4, .ref x5, .ref x6, .int x7, .ref x8, .int x9, .int x10])), (q_10, .inr (2, [.int (nI x1), .int k1, .int e2_16, .ref e3_17, .int 0, .int 0, .ref e6_18, .ref e7_19, .ref e8_20, .int 0, .ref e10_21, .int 0, .ref e12_22, .ref e13_23, .long 0, .int 0, .ref e16_24, .ref e17_28, .ref e18_32, .ref e19_34])), (e18_32, .inr (10, [.ref e18a_33, .int 0, .int 0])), (e19a_35, .inl ((cy 21), 120, .inr (.inr (.inr (.inr (fun _ => none)))))), (e19b_36, .inl ((cy 15), 100, .inr (.inl (fun _ => 0)))), (e19_34, .inr (0, [.ref e19a_35, .ref e19b_36, .ref x4, .int 0, .long 0]))] ++ [(e18a_33, .inl ((cy 14), 60, .inl (fun _ => 0)))]) ++ va_pl L M_299) := hD.part (cx := [(xa, .inr (11, [.ref x0, .int (nI x1), .ref x2, .int (nI x3), .ref x4, .ref x5, .ref x6, .int x7, .ref x8, .int x9, .int x10])), (q_10, .inr (2, [.int (nI x1), .int k1, .int e2_16, .ref e3_17, .int 0, .int 0, .ref e6_18, .ref e7_19, .ref e8_20, .int 0, .ref e10_21, .int 0, .ref e12_22, .ref e13_23, .long 0, .int 0, .ref e16_24, .ref e17_28, .ref e18_32, .ref e19_34])), (e18_32, .inr (10, [.ref e18a_33, .int 0, .int 0])), (e19a_35, .inl ((cy 21), 120, .inr (.inr (.inr (.inr (fun _ => none)))))), (e19b_36, .inl ((cy 15), 100, .inr (.inl (fun _ => 0)))), (e19_34, .inr (0, [.ref e19a_35, .ref e19b_36, .ref x4, .int 0, .long 0]))] ++ [(e18a_33, .inl ((cy 14), 60, .inl (fun _ => 0)))]) [0, 1, 3, 4, 5, 6, 2] (by decide) rfl
        obtain ⟨K9, L9, M_318, hx9, i_319, hW, hP, hD, hM_320, hfr9, hq9⟩ := adoptE 55 60 hP hD hW (fun K' L' x i => (⟨_, rfl⟩ : gd_55 cy K' L' 60 _))
        have hM_322 : M_318 x0 = .inl (cy 17, 8, .inr (.inr (.inr (.inr (f1))))) := (hfr9 _ i_303.1).trans hM_302
        have hF : fr K0 L0 [17] M0 M_318 := hF.adX hX0 hfr9
        have hX0 := hX0.tr hx9
        have i_323 := i_303.ext hx9
        have i_324 := i_304.ext hx9
        have i_325 := i_305.ext hx9
        have i_326 := i_306.ext hx9
        have i_327 := i_307.ext hx9
        have i_328 := i_308.ext hx9
        have i_329 := i_309.ext hx9
        have i_330 := i_310.ext hx9
        have i_331 := i_311.ext hx9
        have i_332 := i_312.ext hx9
        have i_333 := i_313.ext hx9
        have i_334 := i_314.ext hx9
        have i_335 := i_315.ext hx9
        have i_336 := i_316.ext hx9
        have i_337 := i_300.ext hx9
        have hf_338 := fun j q => (hf_317 j q).ext hx9
        obtain ⟨K, L, hK9, hL9⟩ : ∃ (K : Kp) (L : List Nat), K = K9 ∧ L = L9 := ⟨_, _, rfl, rfl⟩
        subst hK9
        subst hL9
        have hP : va_P D vwCl ([(xa, .inr (11, [.ref x0, .int (nI x1), .ref x2, .int (nI x3), .ref x4, .ref x5, .ref x6, .int x7, .ref x8, .int x9, .int x10])), (q_10, .inr (2, [.int (nI x1), .int k1, .int e2_16, .ref e3_17, .int 0, .int 0, .ref e6_18, .ref e7_19, .ref e8_20, .int 0, .ref e10_21, .int 0, .ref e12_22, .ref e13_23, .long 0, .int 0, .ref e16_24, .ref e17_28, .ref e18_32, .ref e19_34])), (e18_32, .inr (10, [.ref e18a_33, .int 0, .int 0])), (e19a_35, .inl ((cy 21), 120, .inr (.inr (.inr (.inr (fun _ => none)))))), (e19b_36, .inl ((cy 15), 100, .inr (.inl (fun _ => 0)))), (e19_34, .inr (0, [.ref e19a_35, .ref e19b_36, .ref x4, .int 0, .long 0]))] ++ va_pl L M_318) H_12 := hP
        have hD : va_D A ([(xa, .inr (11, [.ref x0, .int (nI x1), .ref x2, .int (nI x3), .ref x4, .ref x5, .ref x6, .int x7, .ref x8, .int x9, .int x10])), (q_10, .inr (2, [.int (nI x1), .int k1, .int e2_16, .ref e3_17, .int 0, .int 0, .ref e6_18, .ref e7_19, .ref e8_20, .int 0, .ref e10_21, .int 0, .ref e12_22, .ref e13_23, .long 0, .int 0, .ref e16_24, .ref e17_28, .ref e18_32, .ref e19_34])), (e18_32, .inr (10, [.ref e18a_33, .int 0, .int 0])), (e19a_35, .inl ((cy 21), 120, .inr (.inr (.inr (.inr (fun _ => none)))))), (e19b_36, .inl ((cy 15), 100, .inr (.inl (fun _ => 0)))), (e19_34, .inr (0, [.ref e19a_35, .ref e19b_36, .ref x4, .int 0, .long 0]))] ++ va_pl L M_318) := hD
        have hP : va_P D vwCl (([(xa, .inr (11, [.ref x0, .int (nI x1), .ref x2, .int (nI x3), .ref x4, .ref x5, .ref x6, .int x7, .ref x8, .int x9, .int x10])), (q_10, .inr (2, [.int (nI x1), .int k1, .int e2_16, .ref e3_17, .int 0, .int 0, .ref e6_18, .ref e7_19, .ref e8_20, .int 0, .ref e10_21, .int 0, .ref e12_22, .ref e13_23, .long 0, .int 0, .ref e16_24, .ref e17_28, .ref e18_32, .ref e19_34])), (e19a_35, .inl ((cy 21), 120, .inr (.inr (.inr (.inr (fun _ => none)))))), (e19b_36, .inl ((cy 15), 100, .inr (.inl (fun _ => 0)))), (e19_34, .inr (0, [.ref e19a_35, .ref e19b_36, .ref x4, .int 0, .long 0]))] ++ [(e18_32, .inr (10, [.ref e18a_33, .int 0, .int 0]))]) ++ va_pl L M_318) H_12 := hP.part (cx := [(xa, .inr (11, [.ref x0, .int (nI x1), .ref x2, .int (nI x3), .ref x4, .ref x5, .ref x6, .int x7, .ref x8, .int x9, .int x10])), (q_10, .inr (2, [.int (nI x1), .int k1, .int e2_16, .ref e3_17, .int 0, .int 0, .ref e6_18, .ref e7_19, .ref e8_20, .int 0, .ref e10_21, .int 0, .ref e12_22, .ref e13_23, .long 0, .int 0, .ref e16_24, .ref e17_28, .ref e18_32, .ref e19_34])), (e19a_35, .inl ((cy 21), 120, .inr (.inr (.inr (.inr (fun _ => none)))))), (e19b_36, .inl ((cy 15), 100, .inr (.inl (fun _ => 0)))), (e19_34, .inr (0, [.ref e19a_35, .ref e19b_36, .ref x4, .int 0, .long 0]))] ++ [(e18_32, .inr (10, [.ref e18a_33, .int 0, .int 0]))]) [0, 1, 3, 4, 5, 2] rfl
        have hD : va_D A (([(xa, .inr (11, [.ref x0, .int (nI x1), .ref x2, .int (nI x3), .ref x4, .ref x5, .ref x6, .int x7, .ref x8, .int x9, .int x10])), (q_10, .inr (2, [.int (nI x1), .int k1, .int e2_16, .ref e3_17, .int 0, .int 0, .ref e6_18, .ref e7_19, .ref e8_20, .int 0, .ref e10_21, .int 0, .ref e12_22, .ref e13_23, .long 0, .int 0, .ref e16_24, .ref e17_28, .ref e18_32, .ref e19_34])), (e19a_35, .inl ((cy 21), 120, .inr (.inr (.inr (.inr (fun _ => none)))))), (e19b_36, .inl ((cy 15), 100, .inr (.inl (fun _ => 0)))), (e19_34, .inr (0, [.ref e19a_35, .ref e19b_36, .ref x4, .int 0, .long 0]))] ++ [(e18_32, .inr (10, [.ref e18a_33, .int 0, .int 0]))]) ++ va_pl L M_318) := hD.part (cx := [(xa, .inr (11, [.ref x0, .int (nI x1), .ref x2, .int (nI x3), .ref x4, .ref x5, .ref x6, .int x7, .ref x8, .int x9, .int x10])), (q_10, .inr (2, [.int (nI x1), .int k1, .int e2_16, .ref e3_17, .int 0, .int 0, .ref e6_18, .ref e7_19, .ref e8_20, .int 0, .ref e10_21, .int 0, .ref e12_22, .ref e13_23, .long 0, .int 0, .ref e16_24, .ref e17_28, .ref e18_32, .ref e19_34])), (e19a_35, .inl ((cy 21), 120, .inr (.inr (.inr (.inr (fun _ => none)))))), (e19b_36, .inl ((cy 15), 100, .inr (.inl (fun _ => 0)))), (e19_34, .inr (0, [.ref e19a_35, .ref e19b_36, .ref x4, .int 0, .long 0]))] ++ [(e18_32, .inr (10, [.ref e18a_33, .int 0, .int 0]))]) [0, 1, 3, 4, 5, 2] (by decide) rfl
        obtain ⟨K9, L9, M_339, hx9, i_340, hW, hP, hD, hM_341, hfr9, hq9⟩ := adoptE 10 0 hP hD hW (fun K' L' x i => (⟨e18a_33, 0, 0, rfl, i_319.ext x⟩ : gd_10 K' L' _))
        have hM_342 : M_339 x0 = .inl (cy 17, 8, .inr (.inr (.inr (.inr (f1))))) := (hfr9 _ i_323.1).trans hM_322
        have hF : fr K0 L0 [17] M0 M_339 := hF.adX hX0 hfr9
        have hX0 := hX0.tr hx9
        have i_343 := i_323.ext hx9
        have i_344 := i_324.ext hx9
        have i_345 := i_325.ext hx9
        have i_346 := i_326.ext hx9
        have i_347 := i_327.ext hx9
        have i_348 := i_328.ext hx9
        have i_349 := i_329.ext hx9
        have i_350 := i_330.ext hx9
        have i_351 := i_331.ext hx9
        have i_352 := i_332.ext hx9
        have i_353 := i_333.ext hx9
        have i_354 := i_334.ext hx9
        have i_355 := i_335.ext hx9
        have i_356 := i_336.ext hx9
        have i_357 := i_337.ext hx9
        have hf_358 := fun j q => (hf_338 j q).ext hx9
        obtain ⟨K, L, hK9, hL9⟩ : ∃ (K : Kp) (L : List Nat), K = K9 ∧ L = L9 := ⟨_, _, rfl, rfl⟩
        subst hK9
        subst hL9
        have hP : va_P D vwCl ([(xa, .inr (11, [.ref x0, .int (nI x1), .ref x2, .int (nI x3), .ref x4, .ref x5, .ref x6, .int x7, .ref x8, .int x9, .int x10])), (q_10, .inr (2, [.int (nI x1), .int k1, .int e2_16, .ref e3_17, .int 0, .int 0, .ref e6_18, .ref e7_19, .ref e8_20, .int 0, .ref e10_21, .int 0, .ref e12_22, .ref e13_23, .long 0, .int 0, .ref e16_24, .ref e17_28, .ref e18_32, .ref e19_34])), (e19a_35, .inl ((cy 21), 120, .inr (.inr (.inr (.inr (fun _ => none)))))), (e19b_36, .inl ((cy 15), 100, .inr (.inl (fun _ => 0)))), (e19_34, .inr (0, [.ref e19a_35, .ref e19b_36, .ref x4, .int 0, .long 0]))] ++ va_pl L M_339) H_12 := hP
        have hD : va_D A ([(xa, .inr (11, [.ref x0, .int (nI x1), .ref x2, .int (nI x3), .ref x4, .ref x5, .ref x6, .int x7, .ref x8, .int x9, .int x10])), (q_10, .inr (2, [.int (nI x1), .int k1, .int e2_16, .ref e3_17, .int 0, .int 0, .ref e6_18, .ref e7_19, .ref e8_20, .int 0, .ref e10_21, .int 0, .ref e12_22, .ref e13_23, .long 0, .int 0, .ref e16_24, .ref e17_28, .ref e18_32, .ref e19_34])), (e19a_35, .inl ((cy 21), 120, .inr (.inr (.inr (.inr (fun _ => none)))))), (e19b_36, .inl ((cy 15), 100, .inr (.inl (fun _ => 0)))), (e19_34, .inr (0, [.ref e19a_35, .ref e19b_36, .ref x4, .int 0, .long 0]))] ++ va_pl L M_339) := hD
        have hP : va_P D vwCl (([(xa, .inr (11, [.ref x0, .int (nI x1), .ref x2, .int (nI x3), .ref x4, .ref x5, .ref x6, .int x7, .ref x8, .int x9, .int x10])), (q_10, .inr (2, [.int (nI x1), .int k1, .int e2_16, .ref e3_17, .int 0, .int 0, .ref e6_18, .ref e7_19, .ref e8_20, .int 0, .ref e10_21, .int 0, .ref e12_22, .ref e13_23, .long 0, .int 0, .ref e16_24, .ref e17_28, .ref e18_32, .ref e19_34])), (e19b_36, .inl ((cy 15), 100, .inr (.inl (fun _ => 0)))), (e19_34, .inr (0, [.ref e19a_35, .ref e19b_36, .ref x4, .int 0, .long 0]))] ++ [(e19a_35, .inl ((cy 21), 120, .inr (.inr (.inr (.inr (fun _ => none))))))]) ++ va_pl L M_339) H_12 := hP.part (cx := [(xa, .inr (11, [.ref x0, .int (nI x1), .ref x2, .int (nI x3), .ref x4, .ref x5, .ref x6, .int x7, .ref x8, .int x9, .int x10])), (q_10, .inr (2, [.int (nI x1), .int k1, .int e2_16, .ref e3_17, .int 0, .int 0, .ref e6_18, .ref e7_19, .ref e8_20, .int 0, .ref e10_21, .int 0, .ref e12_22, .ref e13_23, .long 0, .int 0, .ref e16_24, .ref e17_28, .ref e18_32, .ref e19_34])), (e19b_36, .inl ((cy 15), 100, .inr (.inl (fun _ => 0)))), (e19_34, .inr (0, [.ref e19a_35, .ref e19b_36, .ref x4, .int 0, .long 0]))] ++ [(e19a_35, .inl ((cy 21), 120, .inr (.inr (.inr (.inr (fun _ => none))))))]) [0, 1, 3, 4, 2] rfl
        have hD : va_D A (([(xa, .inr (11, [.ref x0, .int (nI x1), .ref x2, .int (nI x3), .ref x4, .ref x5, .ref x6, .int x7, .ref x8, .int x9, .int x10])), (q_10, .inr (2, [.int (nI x1), .int k1, .int e2_16, .ref e3_17, .int 0, .int 0, .ref e6_18, .ref e7_19, .ref e8_20, .int 0, .ref e10_21, .int 0, .ref e12_22, .ref e13_23, .long 0, .int 0, .ref e16_24, .ref e17_28, .ref e18_32, .ref e19_34])), (e19b_36, .inl ((cy 15), 100, .inr (.inl (fun _ => 0)))), (e19_34, .inr (0, [.ref e19a_35, .ref e19b_36, .ref x4, .int 0, .long 0]))] ++ [(e19a_35, .inl ((cy 21), 120, .inr (.inr (.inr (.inr (fun _ => none))))))]) ++ va_pl L M_339) := hD.part (cx := [(xa, .inr (11, [.ref x0, .int (nI x1), .ref x2, .int (nI x3), .ref x4, .ref x5, .ref x6, .int x7, .ref x8, .int x9, .int x10])), (q_10, .inr (2, [.int (nI x1), .int k1, .int e2_16, .ref e3_17, .int 0, .int 0, .ref e6_18, .ref e7_19, .ref e8_20, .int 0, .ref e10_21, .int 0, .ref e12_22, .ref e13_23, .long 0, .int 0, .ref e16_24, .ref e17_28, .ref e18_32, .ref e19_34])), (e19b_36, .inl ((cy 15), 100, .inr (.inl (fun _ => 0)))), (e19_34, .inr (0, [.ref e19a_35, .ref e19b_36, .ref x4, .int 0, .long 0]))] ++ [(e19a_35, .inl ((cy 21), 120, .inr (.inr (.inr (.inr (fun _ => none))))))]) [0, 1, 3, 4, 2] (by decide) rfl
        obtain ⟨K9, L9, M_359, hx9, i_360, hW, hP, hD, hM_361, hfr9, hq9⟩ := adoptE 21 120 hP hD hW (fun K' L' x i => (⟨_, rfl, fun _ _ => iskN.none⟩ : gd_21 cy K' L' 120 _))
        have hM_363 : M_359 x0 = .inl (cy 17, 8, .inr (.inr (.inr (.inr (f1))))) := (hfr9 _ i_343.1).trans hM_342
        have hF : fr K0 L0 [17] M0 M_359 := hF.adX hX0 hfr9
        have hX0 := hX0.tr hx9
        have i_364 := i_343.ext hx9
        have i_365 := i_344.ext hx9
        have i_366 := i_345.ext hx9
        have i_367 := i_346.ext hx9
        have i_368 := i_347.ext hx9
        have i_369 := i_348.ext hx9
        have i_370 := i_349.ext hx9
        have i_371 := i_350.ext hx9
        have i_372 := i_351.ext hx9
        have i_373 := i_352.ext hx9
        have i_374 := i_353.ext hx9
        have i_375 := i_354.ext hx9
        have i_376 := i_355.ext hx9
        have i_377 := i_356.ext hx9
        have i_378 := i_357.ext hx9
        have i_379 := i_340.ext hx9
        have hf_380 := fun j q => (hf_358 j q).ext hx9
        obtain ⟨K, L, hK9, hL9⟩ : ∃ (K : Kp) (L : List Nat), K = K9 ∧ L = L9 := ⟨_, _, rfl, rfl⟩
        subst hK9
        subst hL9
        have hP : va_P D vwCl ([(xa, .inr (11, [.ref x0, .int (nI x1), .ref x2, .int (nI x3), .ref x4, .ref x5, .ref x6, .int x7, .ref x8, .int x9, .int x10])), (q_10, .inr (2, [.int (nI x1), .int k1, .int e2_16, .ref e3_17, .int 0, .int 0, .ref e6_18, .ref e7_19, .ref e8_20, .int 0, .ref e10_21, .int 0, .ref e12_22, .ref e13_23, .long 0, .int 0, .ref e16_24, .ref e17_28, .ref e18_32, .ref e19_34])), (e19b_36, .inl ((cy 15), 100, .inr (.inl (fun _ => 0)))), (e19_34, .inr (0, [.ref e19a_35, .ref e19b_36, .ref x4, .int 0, .long 0]))] ++ va_pl L M_359) H_12 := hP
        have hD : va_D A ([(xa, .inr (11, [.ref x0, .int (nI x1), .ref x2, .int (nI x3), .ref x4, .ref x5, .ref x6, .int x7, .ref x8, .int x9, .int x10])), (q_10, .inr (2, [.int (nI x1), .int k1, .int e2_16, .ref e3_17, .int 0, .int 0, .ref e6_18, .ref e7_19, .ref e8_20, .int 0, .ref e10_21, .int 0, .ref e12_22, .ref e13_23, .long 0, .int 0, .ref e16_24, .ref e17_28, .ref e18_32, .ref e19_34])), (e19b_36, .inl ((cy 15), 100, .inr (.inl (fun _ => 0)))), (e19_34, .inr (0, [.ref e19a_35, .ref e19b_36, .ref x4, .int 0, .long 0]))] ++ va_pl L M_359) := hD
        have hP : va_P D vwCl (([(xa, .inr (11, [.ref x0, .int (nI x1), .ref x2, .int (nI x3), .ref x4, .ref x5, .ref x6, .int x7, .ref x8, .int x9, .int x10])), (q_10, .inr (2, [.int (nI x1), .int k1, .int e2_16, .ref e3_17, .int 0, .int 0, .ref e6_18, .ref e7_19, .ref e8_20, .int 0, .ref e10_21, .int 0, .ref e12_22, .ref e13_23, .long 0, .int 0, .ref e16_24, .ref e17_28, .ref e18_32, .ref e19_34])), (e19_34, .inr (0, [.ref e19a_35, .ref e19b_36, .ref x4, .int 0, .long 0]))] ++ [(e19b_36, .inl ((cy 15), 100, .inr (.inl (fun _ => 0))))]) ++ va_pl L M_359) H_12 := hP.part (cx := [(xa, .inr (11, [.ref x0, .int (nI x1), .ref x2, .int (nI x3), .ref x4, .ref x5, .ref x6, .int x7, .ref x8, .int x9, .int x10])), (q_10, .inr (2, [.int (nI x1), .int k1, .int e2_16, .ref e3_17, .int 0, .int 0, .ref e6_18, .ref e7_19, .ref e8_20, .int 0, .ref e10_21, .int 0, .ref e12_22, .ref e13_23, .long 0, .int 0, .ref e16_24, .ref e17_28, .ref e18_32, .ref e19_34])), (e19_34, .inr (0, [.ref e19a_35, .ref e19b_36, .ref x4, .int 0, .long 0]))] ++ [(e19b_36, .inl ((cy 15), 100, .inr (.inl (fun _ => 0))))]) [0, 1, 3, 2] rfl
        have hD : va_D A (([(xa, .inr (11, [.ref x0, .int (nI x1), .ref x2, .int (nI x3), .ref x4, .ref x5, .ref x6, .int x7, .ref x8, .int x9, .int x10])), (q_10, .inr (2, [.int (nI x1), .int k1, .int e2_16, .ref e3_17, .int 0, .int 0, .ref e6_18, .ref e7_19, .ref e8_20, .int 0, .ref e10_21, .int 0, .ref e12_22, .ref e13_23, .long 0, .int 0, .ref e16_24, .ref e17_28, .ref e18_32, .ref e19_34])), (e19_34, .inr (0, [.ref e19a_35, .ref e19b_36, .ref x4, .int 0, .long 0]))] ++ [(e19b_36, .inl ((cy 15), 100, .inr (.inl (fun _ => 0))))]) ++ va_pl L M_359) := hD.part (cx := [(xa, .inr (11, [.ref x0, .int (nI x1), .ref x2, .int (nI x3), .ref x4, .ref x5, .ref x6, .int x7, .ref x8, .int x9, .int x10])), (q_10, .inr (2, [.int (nI x1), .int k1, .int e2_16, .ref e3_17, .int 0, .int 0, .ref e6_18, .ref e7_19, .ref e8_20, .int 0, .ref e10_21, .int 0, .ref e12_22, .ref e13_23, .long 0, .int 0, .ref e16_24, .ref e17_28, .ref e18_32, .ref e19_34])), (e19_34, .inr (0, [.ref e19a_35, .ref e19b_36, .ref x4, .int 0, .long 0]))] ++ [(e19b_36, .inl ((cy 15), 100, .inr (.inl (fun _ => 0))))]) [0, 1, 3, 2] (by decide) rfl
        obtain ⟨K9, L9, M_381, hx9, i_382, hW, hP, hD, hM_383, hfr9, hq9⟩ := adoptE 66 100 hP hD hW (fun K' L' x i => (⟨_, rfl⟩ : gd_66 cy K' L' 100 _))
        have hM_385 : M_381 x0 = .inl (cy 17, 8, .inr (.inr (.inr (.inr (f1))))) := (hfr9 _ i_364.1).trans hM_363
        have hF : fr K0 L0 [17] M0 M_381 := hF.adX hX0 hfr9
        have hX0 := hX0.tr hx9
        have i_386 := i_364.ext hx9
        have i_387 := i_365.ext hx9
        have i_388 := i_366.ext hx9
        have i_389 := i_367.ext hx9
        have i_390 := i_368.ext hx9
        have i_391 := i_369.ext hx9
        have i_392 := i_370.ext hx9
        have i_393 := i_371.ext hx9
        have i_394 := i_372.ext hx9
        have i_395 := i_373.ext hx9
        have i_396 := i_374.ext hx9
        have i_397 := i_375.ext hx9
        have i_398 := i_376.ext hx9
        have i_399 := i_377.ext hx9
        have i_400 := i_378.ext hx9
        have i_401 := i_379.ext hx9
        have i_402 := i_360.ext hx9
        have hf_403 := fun j q => (hf_380 j q).ext hx9
        obtain ⟨K, L, hK9, hL9⟩ : ∃ (K : Kp) (L : List Nat), K = K9 ∧ L = L9 := ⟨_, _, rfl, rfl⟩
        subst hK9
        subst hL9
        have hP : va_P D vwCl ([(xa, .inr (11, [.ref x0, .int (nI x1), .ref x2, .int (nI x3), .ref x4, .ref x5, .ref x6, .int x7, .ref x8, .int x9, .int x10])), (q_10, .inr (2, [.int (nI x1), .int k1, .int e2_16, .ref e3_17, .int 0, .int 0, .ref e6_18, .ref e7_19, .ref e8_20, .int 0, .ref e10_21, .int 0, .ref e12_22, .ref e13_23, .long 0, .int 0, .ref e16_24, .ref e17_28, .ref e18_32, .ref e19_34])), (e19_34, .inr (0, [.ref e19a_35, .ref e19b_36, .ref x4, .int 0, .long 0]))] ++ va_pl L M_381) H_12 := hP
        have hD : va_D A ([(xa, .inr (11, [.ref x0, .int (nI x1), .ref x2, .int (nI x3), .ref x4, .ref x5, .ref x6, .int x7, .ref x8, .int x9, .int x10])), (q_10, .inr (2, [.int (nI x1), .int k1, .int e2_16, .ref e3_17, .int 0, .int 0, .ref e6_18, .ref e7_19, .ref e8_20, .int 0, .ref e10_21, .int 0, .ref e12_22, .ref e13_23, .long 0, .int 0, .ref e16_24, .ref e17_28, .ref e18_32, .ref e19_34])), (e19_34, .inr (0, [.ref e19a_35, .ref e19b_36, .ref x4, .int 0, .long 0]))] ++ va_pl L M_381) := hD
        have hP : va_P D vwCl (([(xa, .inr (11, [.ref x0, .int (nI x1), .ref x2, .int (nI x3), .ref x4, .ref x5, .ref x6, .int x7, .ref x8, .int x9, .int x10])), (q_10, .inr (2, [.int (nI x1), .int k1, .int e2_16, .ref e3_17, .int 0, .int 0, .ref e6_18, .ref e7_19, .ref e8_20, .int 0, .ref e10_21, .int 0, .ref e12_22, .ref e13_23, .long 0, .int 0, .ref e16_24, .ref e17_28, .ref e18_32, .ref e19_34]))] ++ [(e19_34, .inr (0, [.ref e19a_35, .ref e19b_36, .ref x4, .int 0, .long 0]))]) ++ va_pl L M_381) H_12 := hP.part (cx := [(xa, .inr (11, [.ref x0, .int (nI x1), .ref x2, .int (nI x3), .ref x4, .ref x5, .ref x6, .int x7, .ref x8, .int x9, .int x10])), (q_10, .inr (2, [.int (nI x1), .int k1, .int e2_16, .ref e3_17, .int 0, .int 0, .ref e6_18, .ref e7_19, .ref e8_20, .int 0, .ref e10_21, .int 0, .ref e12_22, .ref e13_23, .long 0, .int 0, .ref e16_24, .ref e17_28, .ref e18_32, .ref e19_34]))] ++ [(e19_34, .inr (0, [.ref e19a_35, .ref e19b_36, .ref x4, .int 0, .long 0]))]) [0, 1, 2] rfl
        have hD : va_D A (([(xa, .inr (11, [.ref x0, .int (nI x1), .ref x2, .int (nI x3), .ref x4, .ref x5, .ref x6, .int x7, .ref x8, .int x9, .int x10])), (q_10, .inr (2, [.int (nI x1), .int k1, .int e2_16, .ref e3_17, .int 0, .int 0, .ref e6_18, .ref e7_19, .ref e8_20, .int 0, .ref e10_21, .int 0, .ref e12_22, .ref e13_23, .long 0, .int 0, .ref e16_24, .ref e17_28, .ref e18_32, .ref e19_34]))] ++ [(e19_34, .inr (0, [.ref e19a_35, .ref e19b_36, .ref x4, .int 0, .long 0]))]) ++ va_pl L M_381) := hD.part (cx := [(xa, .inr (11, [.ref x0, .int (nI x1), .ref x2, .int (nI x3), .ref x4, .ref x5, .ref x6, .int x7, .ref x8, .int x9, .int x10])), (q_10, .inr (2, [.int (nI x1), .int k1, .int e2_16, .ref e3_17, .int 0, .int 0, .ref e6_18, .ref e7_19, .ref e8_20, .int 0, .ref e10_21, .int 0, .ref e12_22, .ref e13_23, .long 0, .int 0, .ref e16_24, .ref e17_28, .ref e18_32, .ref e19_34]))] ++ [(e19_34, .inr (0, [.ref e19a_35, .ref e19b_36, .ref x4, .int 0, .long 0]))]) [0, 1, 2] (by decide) rfl
        obtain ⟨K9, L9, M_404, hx9, i_405, hW, hP, hD, hM_406, hfr9, hq9⟩ := adoptE 0 0 hP hD hW (fun K' L' x i => (⟨e19a_35, e19b_36, x4, 0, 0, rfl, i_402.ext x, i_382.ext x, i_388.ext x, (by omega)⟩ : gd_0 K' L' _))
        have hM_407 : M_404 x0 = .inl (cy 17, 8, .inr (.inr (.inr (.inr (f1))))) := (hfr9 _ i_386.1).trans hM_385
        have hF : fr K0 L0 [17] M0 M_404 := hF.adX hX0 hfr9
        have hX0 := hX0.tr hx9
        have i_408 := i_386.ext hx9
        have i_409 := i_387.ext hx9
        have i_410 := i_388.ext hx9
        have i_411 := i_389.ext hx9
        have i_412 := i_390.ext hx9
        have i_413 := i_391.ext hx9
        have i_414 := i_392.ext hx9
        have i_415 := i_393.ext hx9
        have i_416 := i_394.ext hx9
        have i_417 := i_395.ext hx9
        have i_418 := i_396.ext hx9
        have i_419 := i_397.ext hx9
        have i_420 := i_398.ext hx9
        have i_421 := i_399.ext hx9
        have i_422 := i_400.ext hx9
        have i_423 := i_401.ext hx9
        have hf_424 := fun j q => (hf_403 j q).ext hx9
        obtain ⟨K, L, hK9, hL9⟩ : ∃ (K : Kp) (L : List Nat), K = K9 ∧ L = L9 := ⟨_, _, rfl, rfl⟩
        subst hK9
        subst hL9
        have hP : va_P D vwCl ([(xa, .inr (11, [.ref x0, .int (nI x1), .ref x2, .int (nI x3), .ref x4, .ref x5, .ref x6, .int x7, .ref x8, .int x9, .int x10])), (q_10, .inr (2, [.int (nI x1), .int k1, .int e2_16, .ref e3_17, .int 0, .int 0, .ref e6_18, .ref e7_19, .ref e8_20, .int 0, .ref e10_21, .int 0, .ref e12_22, .ref e13_23, .long 0, .int 0, .ref e16_24, .ref e17_28, .ref e18_32, .ref e19_34]))] ++ va_pl L M_404) H_12 := hP
        have hD : va_D A ([(xa, .inr (11, [.ref x0, .int (nI x1), .ref x2, .int (nI x3), .ref x4, .ref x5, .ref x6, .int x7, .ref x8, .int x9, .int x10])), (q_10, .inr (2, [.int (nI x1), .int k1, .int e2_16, .ref e3_17, .int 0, .int 0, .ref e6_18, .ref e7_19, .ref e8_20, .int 0, .ref e10_21, .int 0, .ref e12_22, .ref e13_23, .long 0, .int 0, .ref e16_24, .ref e17_28, .ref e18_32, .ref e19_34]))] ++ va_pl L M_404) := hD
        have hP : va_P D vwCl (([(xa, .inr (11, [.ref x0, .int (nI x1), .ref x2, .int (nI x3), .ref x4, .ref x5, .ref x6, .int x7, .ref x8, .int x9, .int x10]))] ++ [(q_10, .inr (2, [.int (nI x1), .int k1, .int e2_16, .ref e3_17, .int 0, .int 0, .ref e6_18, .ref e7_19, .ref e8_20, .int 0, .ref e10_21, .int 0, .ref e12_22, .ref e13_23, .long 0, .int 0, .ref e16_24, .ref e17_28, .ref e18_32, .ref e19_34]))]) ++ va_pl L M_404) H_12 := hP.part (cx := [(xa, .inr (11, [.ref x0, .int (nI x1), .ref x2, .int (nI x3), .ref x4, .ref x5, .ref x6, .int x7, .ref x8, .int x9, .int x10]))] ++ [(q_10, .inr (2, [.int (nI x1), .int k1, .int e2_16, .ref e3_17, .int 0, .int 0, .ref e6_18, .ref e7_19, .ref e8_20, .int 0, .ref e10_21, .int 0, .ref e12_22, .ref e13_23, .long 0, .int 0, .ref e16_24, .ref e17_28, .ref e18_32, .ref e19_34]))]) [0, 1] rfl
        have hD : va_D A (([(xa, .inr (11, [.ref x0, .int (nI x1), .ref x2, .int (nI x3), .ref x4, .ref x5, .ref x6, .int x7, .ref x8, .int x9, .int x10]))] ++ [(q_10, .inr (2, [.int (nI x1), .int k1, .int e2_16, .ref e3_17, .int 0, .int 0, .ref e6_18, .ref e7_19, .ref e8_20, .int 0, .ref e10_21, .int 0, .ref e12_22, .ref e13_23, .long 0, .int 0, .ref e16_24, .ref e17_28, .ref e18_32, .ref e19_34]))]) ++ va_pl L M_404) := hD.part (cx := [(xa, .inr (11, [.ref x0, .int (nI x1), .ref x2, .int (nI x3), .ref x4, .ref x5, .ref x6, .int x7, .ref x8, .int x9, .int x10]))] ++ [(q_10, .inr (2, [.int (nI x1), .int k1, .int e2_16, .ref e3_17, .int 0, .int 0, .ref e6_18, .ref e7_19, .ref e8_20, .int 0, .ref e10_21, .int 0, .ref e12_22, .ref e13_23, .long 0, .int 0, .ref e16_24, .ref e17_28, .ref e18_32, .ref e19_34]))]) [0, 1] (by decide) rfl
        obtain ⟨K9, L9, M_425, hx9, i_426, hW, hP, hD, hM_427, hfr9, hq9⟩ := adoptE 2 0 hP hD hW (fun K' L' x i => (⟨(nI x1), k1, e2_16, e3_17, 0, 0, e6_18, e7_19, e8_20, 0, e10_21, 0, e12_22, e13_23, 0, 0, e16_24, e17_28, e18_32, e19_34, rfl, i_414.ext x, (by omega), (by omega), i_415.ext x, i_416.ext x, i_417.ext x, (by omega), i_418.ext x, (by omega), i_419.ext x, i_420.ext x, i_421.ext x, i_422.ext x, i_423.ext x, i_405.ext x⟩ : gd_2 K' L' _))
        have hM_428 : M_425 x0 = .inl (cy 17, 8, .inr (.inr (.inr (.inr (f1))))) := (hfr9 _ i_408.1).trans hM_407
        have hF : fr K0 L0 [17] M0 M_425 := hF.adX hX0 hfr9
        have hX0 := hX0.tr hx9
        have i_429 := i_408.ext hx9
        have i_430 := i_409.ext hx9
        have i_431 := i_410.ext hx9
        have i_432 := i_411.ext hx9
        have i_433 := i_412.ext hx9
        have i_434 := i_413.ext hx9
        have hf_435 := fun j q => (hf_424 j q).ext hx9
        obtain ⟨K, L, hK9, hL9⟩ : ∃ (K : Kp) (L : List Nat), K = K9 ∧ L = L9 := ⟨_, _, rfl, rfl⟩
        subst hK9
        subst hL9
        have hP : va_P D vwCl ([(xa, .inr (11, [.ref x0, .int (nI x1), .ref x2, .int (nI x3), .ref x4, .ref x5, .ref x6, .int x7, .ref x8, .int x9, .int x10]))] ++ va_pl L M_425) H_12 := hP
        have hD : va_D A ([(xa, .inr (11, [.ref x0, .int (nI x1), .ref x2, .int (nI x3), .ref x4, .ref x5, .ref x6, .int x7, .ref x8, .int x9, .int x10]))] ++ va_pl L M_425) := hD
        obtain ⟨v437_0, v437_1, v437_2, v437_3, v437_4, v437_5, v437_6, v437_7, v437_8, v437_9, v437_10, v437_11, v437_12, v437_13, v437_14, v437_15, v437_16, v437_17, v437_18, v437_19, hM437, h437_3, h437_4, h437_5, h437_6, h437_7, h437_8, h437_9, h437_10, h437_11, h437_12, h437_13, h437_16, h437_17, h437_18, h437_19⟩ := hW.open_2 i_426
        refine pg_astq (r := (RX2, TX2, 20)) hx hb hK hP hD hS i_429.1 3 2 hM_428 rfl i_426.1 hM437 rfl (inbN x1 8 (by omega) (by omega)) dX11_house_57 (fun H_436 locs hP hD hS => ?_)
        obtain ⟨M_438, eM_438⟩ : ∃ M1 : Hp, M1 = va_up M_425 x0 (.inl (cy 17, 8, .inr (.inr (.inr (.inr (va_up f1 ((nI x1) : Int32).toNatClampNeg (some q_10))))))) := ⟨_, rfl⟩
        have hP : va_P D vwCl ([(xa, .inr (11, [.ref x0, .int (nI x1), .ref x2, .int (nI x3), .ref x4, .ref x5, .ref x6, .int x7, .ref x8, .int x9, .int x10]))] ++ va_pl L M_438) H_436 := by rw [eM_438]; exact hP
        have hD : va_D A ([(xa, .inr (11, [.ref x0, .int (nI x1), .ref x2, .int (nI x3), .ref x4, .ref x5, .ref x6, .int x7, .ref x8, .int x9, .int x10]))] ++ va_pl L M_438) := by rw [eM_438]; exact hD
        have hW : WOK cy K L M_438 := by rw [eM_438]; exact hW.up_17 i_429 ⟨_, rfl, (upN hf_435 i_426)⟩
        have hF : fr K0 L0 [17] M0 M_438 := by rw [eM_438]; exact hF.upX hX0 i_429 (by decide)
        have hM_439 : M_438 x0 = .inl (cy 17, 8, .inr (.inr (.inr (.inr (va_up f1 ((nI x1) : Int32).toNatClampNeg (some q_10)))))) := by rw [eM_438]; exact va_up_self _ _ _
        have hM_440 : M_438 q_10 = .inr (2, [.int v437_0, .int v437_1, .int v437_2, .ref v437_3, .int (nI v437_4), .int (nI v437_5), .ref v437_6, .ref v437_7, .ref v437_8, .int (nI v437_9), .ref v437_10, .int (nI v437_11), .ref v437_12, .ref v437_13, .long v437_14, .int v437_15, .ref v437_16, .ref v437_17, .ref v437_18, .ref v437_19]) := by rw [eM_438, va_up_ne _ _ (i_426.neT i_429 (by decide))]; exact hM437
        have hf_442 : ∀ j, j < 8 → iskN K L ((va_up f1 ((nI x1) : Int32).toNatClampNeg (some q_10)) j) 2 0 := (upN hf_435 i_426)
        obtain ⟨f_441, ef_441⟩ : ∃ f : Nat → Option Nat, f = va_up f1 ((nI x1) : Int32).toNatClampNeg (some q_10) := ⟨_, rfl⟩
        rw [← ef_441] at hM_439 hf_442
        have hk_443 : f_441 ((nI x1) : Int32).toNatClampNeg = some q_10 := by rw [ef_441]; exact va_up_self _ _ _
        refine lv_aload_n hx hb dX11_house_58 rfl (lv_at hl 0 rfl) ?_
        refine lv_dup hx hb dX11_house_59 rfl ?_
        refine va_get (D := D) (ci := 11) (v := .int (nI x1)) (C := RX11) (T := TX11) (N := 11) hx hb hg inG11 hown hK hP 0 rfl rfl 1 (by decide) (hg _ wd_336) (fun _ h9 => h9) rfl dX11_house_60 ?_
        refine lv_iconst (v := 1) hx hb dX11_house_63 (by decide) ?_
        refine lv_iadd hx hb dX11_house_64 ?_
        refine lv_topi (fun f_444 ef_444 => ?_)
        obtain rfl : f_444 = (nI (x1 + 1)) := ef_444.trans (nI_add x1 1)
        refine va_put (D := D) (ci := 11) (v := .int (nI (x1 + 1))) (ty := .int) (C := RX11) (T := TX11) (N := 11) hx hb hg inG11 tyX11 tyX11_ok nmX11 hown hK hP hD hS 0 rfl rfl 1 (by decide) (hg _ wd_336) (fun _ h9 => h9) rfl (by decide +kernel) rfl rfl (Nat.le_of_ble_eq_true rfl) dX11_house_65 (fun H_445 locs hP hD hS => ?_)
        have hP : va_P D vwCl ([(xa, .inr (11, [.ref x0, .int (nI (x1 + 1)), .ref x2, .int (nI x3), .ref x4, .ref x5, .ref x6, .int x7, .ref x8, .int x9, .int x10]))] ++ va_pl L M_438) H_445 := hP
        have hD : va_D A ([(xa, .inr (11, [.ref x0, .int (nI (x1 + 1)), .ref x2, .int (nI x3), .ref x4, .ref x5, .ref x6, .int x7, .ref x8, .int x9, .int x10]))] ++ va_pl L M_438) := hD
        refine lv_aload_n hx hb dX11_house_68 rfl (lv_at hl 0 rfl) ?_
        refine lv_aload_n hx hb dX11_house_69 rfl (lv_at hl 0 rfl) ?_
        refine va_get (D := D) (ci := 11) (v := .int (nI (x1 + 1))) (C := RX11) (T := TX11) (N := 11) hx hb hg inG11 hown hK hP 0 rfl rfl 1 (by decide) (hg _ wd_336) (fun _ h9 => h9) rfl dX11_house_70 ?_
        refine lv_iconst (v := 1) hx hb dX11_house_73 (by decide) ?_
        refine lv_isub hx hb dX11_house_74 ?_
        refine lv_topi (fun f_446 ef_446 => ?_)
        obtain rfl : f_446 = (nI ((x1 + 1) - 1)) := ef_446.trans (nI_prd (by omega))
        have hPc := hP.sub (ws' := [(xa, .inr (11, [.ref x0, .int (nI (x1 + 1)), .ref x2, .int (nI x3), .ref x4, .ref x5, .ref x6, .int x7, .ref x8, .int x9, .int x10]))]) [0] rfl
        have hDc := hD.sub (ws' := [(xa, .inr (11, [.ref x0, .int (nI (x1 + 1)), .ref x2, .int (nI x3), .ref x4, .ref x5, .ref x6, .int x7, .ref x8, .int x9, .int x10]))]) [0] (by decide) rfl
        have hKc := hK.sub (tys' := []) [] rfl
        have hFc := va_free (wc := [(xa, .inr (11, [.ref x0, .int (nI (x1 + 1)), .ref x2, .int (nI x3), .ref x4, .ref x5, .ref x6, .int x7, .ref x8, .int x9, .int x10]))]) hD hS hA [0] rfl
        refine va_calli (va_runV (As := [.int (nI ((x1 + 1) - 1))]) (rest := []) ⟨hx, hb, hml, hown, hg⟩ (k_accept l D H_445.size xa x0 (nI (x1 + 1)) x2 (nI x3) x4 x5 x6 x7 x8 x9 x10 (nI ((x1 + 1) - 1))) (cwV 1 hg (gV wd_356 wd_357 wd_358 wd_3 wd_359) rfl rfl rfl (by decide +kernel) ⟨(Nat.le_trans (Nat.le_of_ble_eq_true rfl) hRf), (Nat.le_trans (Nat.le_of_ble_eq_true rfl) hRl)⟩) ⟨Pr.blind, va_recv hK hP (ci := 11) (q0 := 0) rfl rfl, fun U hU hW => ⟨rfl, Pr.at hPc hKc hDc hN hU hW⟩⟩ rfl rfl hl.1 rfl (lv_room (Nat.le_of_ble_eq_true rfl)) dX11_house_75 ⟨(Nat.le_trans (Nat.le_of_ble_eq_true rfl) hRc), (Nat.le_trans (Nat.le_of_ble_eq_true rfl) hRs)⟩) hS (fun q _ h => hFc q h) hFc (fun r_448 M_449 t H_447 locs ht hvm hw hB hz1 hk1 hS => ?_)
        have hp_450 := hw
        obtain ⟨hP1, hK1, hD1⟩ := hB
        rw [ht] at hP1
        obtain ⟨hP, hD⟩ := va_joinQ (X := [(xa, .inr (11, [.ref x0, .int (nI (x1 + 1)), .ref x2, .int (nI x3), .ref x4, .ref x5, .ref x6, .int x7, .ref x8, .int x9, .int x10]))]) (cx := [(xa, .inr (11, [.ref x0, .int (nI (x1 + 1)), .ref x2, .int (nI x3), .ref x4, .ref x5, .ref x6, .int x7, .ref x8, .int x9, .int x10]))]) (wr := []) (w1 := [(xa, .inr (11, [.ref x0, .int (nI (x1 + 1)), .ref x2, .int (nI x3), .ref x4, .ref x5, .ref x6, .int x7, .ref x8, .int 0, .int (-1)]))]) (pl := va_pl L M_438) hP hD [0] [] rfl rfl (by decide) (by decide) hk1 hFc hP1 hD1
        have hP : va_P D vwCl ([(xa, .inr (11, [.ref x0, .int (nI (x1 + 1)), .ref x2, .int (nI x3), .ref x4, .ref x5, .ref x6, .int x7, .ref x8, .int 0, .int (-1)]))] ++ va_pl L M_438) H_447 := hP
        have hD : va_D A ([(xa, .inr (11, [.ref x0, .int (nI (x1 + 1)), .ref x2, .int (nI x3), .ref x4, .ref x5, .ref x6, .int x7, .ref x8, .int 0, .int (-1)]))] ++ va_pl L M_438) := hD
        have hq := Eq.symm hp_450
        subst hq
        have hE : cntH k1 x1 = (x1 + 1) := by unfold cntH; rw [if_neg c_2, if_pos c_7, if_neg (by omega)]
        have hP : va_P D vwCl ([(xa, .inr (11, [.ref x0, .int (nI (cntH k1 x1)), .ref x2, .int (nI x3), .ref x4, .ref x5, .ref x6, .int x7, .ref x8, .int 0, .int (-1)]))] ++ va_pl L M_438) H_447 := by rw [hE]; exact hP
        have hD : va_D A ([(xa, .inr (11, [.ref x0, .int (nI (cntH k1 x1)), .ref x2, .int (nI x3), .ref x4, .ref x5, .ref x6, .int x7, .ref x8, .int 0, .int (-1)]))] ++ va_pl L M_438) := by rw [hE]; exact hD
        rw [hQ]
        exact W.iret (v := (nI ((x1 + 1) - 1))) hx hb hr (fun t ht hW9 => ⟨⟨(nI ((x1 + 1) - 1)), (K, L, M_438), rfl, ⟨hX0, hW, hF, (by unfold ansH; rw [if_neg c_2, if_pos c_7, if_neg (by omega)]; first | done | rfl)⟩, ⟨0, (-1), (by rw [hE]; exact NN.put hNN hM0x hM_439 ef_441 (nI_cl (by omega))), by rw [ht]; exact hP, hD⟩⟩, hS.F ht⟩) hS.2.2 dX11_house_78
      · have hz := rfl (a := 0)
        have n_451 : ¬ (x1 < 8) := fun q => c_8 ((iLT (a := x1) (b := 8) (by omega) (by omega)).mpr q)
        refine lv_aload_n hx hb dX11_house_26 rfl (lv_at hl 0 rfl) ?_
        refine lv_bipush (v := 9) hx hb dX11_house_27 (by decide) ?_
        have hPc := hP.sub (ws' := [(xa, .inr (11, [.ref x0, .int (nI x1), .ref x2, .int (nI x3), .ref x4, .ref x5, .ref x6, .int x7, .ref x8, .int x9, .int x10]))]) [0] rfl
        have hDc := hD.sub (ws' := [(xa, .inr (11, [.ref x0, .int (nI x1), .ref x2, .int (nI x3), .ref x4, .ref x5, .ref x6, .int x7, .ref x8, .int x9, .int x10]))]) [0] (by decide) rfl
        have hKc := hK.sub (tys' := []) [] rfl
        have hFc := va_free (wc := [(xa, .inr (11, [.ref x0, .int (nI x1), .ref x2, .int (nI x3), .ref x4, .ref x5, .ref x6, .int x7, .ref x8, .int x9, .int x10]))]) hD hS hA [0] rfl
        refine va_calli (va_runV (As := [.int 9]) (rest := []) ⟨hx, hb, hml, hown, hg⟩ (k_refuse l D s.heap.size xa x0 (nI x1) x2 (nI x3) x4 x5 x6 x7 x8 x9 x10 9) (cwV 1 hg (gV wd_344 wd_345 wd_346 wd_3 wd_347) rfl rfl rfl (by decide +kernel) ⟨(Nat.le_trans (Nat.le_of_ble_eq_true rfl) hRf), (Nat.le_trans (Nat.le_of_ble_eq_true rfl) hRl)⟩) ⟨Pr.blind, va_recv hK hP (ci := 11) (q0 := 0) rfl rfl, fun U hU hW => ⟨rfl, Pr.at hPc hKc hDc hN hU hW⟩⟩ rfl rfl hl.1 rfl (lv_room (Nat.le_of_ble_eq_true rfl)) dX11_house_29 ⟨(Nat.le_trans (Nat.le_of_ble_eq_true rfl) hRc), (Nat.le_trans (Nat.le_of_ble_eq_true rfl) hRs)⟩) hS (fun q _ h => hFc q h) hFc (fun r_453 M_454 t H_452 locs ht hvm hw hB hz1 hk1 hS => ?_)
        have hp_455 := hw
        obtain ⟨hP1, hK1, hD1⟩ := hB
        rw [ht] at hP1
        obtain ⟨hP, hD⟩ := va_joinQ (X := [(xa, .inr (11, [.ref x0, .int (nI x1), .ref x2, .int (nI x3), .ref x4, .ref x5, .ref x6, .int x7, .ref x8, .int x9, .int x10]))]) (cx := [(xa, .inr (11, [.ref x0, .int (nI x1), .ref x2, .int (nI x3), .ref x4, .ref x5, .ref x6, .int x7, .ref x8, .int x9, .int x10]))]) (wr := []) (w1 := [(xa, .inr (11, [.ref x0, .int (nI x1), .ref x2, .int (nI x3), .ref x4, .ref x5, .ref x6, .int x7, .ref x8, .int 9, .int (-1)]))]) (pl := va_pl L M) hP hD [0] [] rfl rfl (by decide) (by decide) hk1 hFc hP1 hD1
        have hP : va_P D vwCl ([(xa, .inr (11, [.ref x0, .int (nI x1), .ref x2, .int (nI x3), .ref x4, .ref x5, .ref x6, .int x7, .ref x8, .int 9, .int (-1)]))] ++ va_pl L M) H_452 := hP
        have hD : va_D A ([(xa, .inr (11, [.ref x0, .int (nI x1), .ref x2, .int (nI x3), .ref x4, .ref x5, .ref x6, .int x7, .ref x8, .int 9, .int (-1)]))] ++ va_pl L M) := hD
        have hq := Eq.symm hp_455
        subst hq
        refine W.widen (k := 21) (n := 2800) (Nat.le_of_ble_eq_true rfl) (Nat.le_of_ble_eq_true rfl) ?_
        have hE : cntH k1 x1 = x1 := by unfold cntH; rw [if_neg c_2, if_pos c_7, if_pos (by omega)]
        have hP : va_P D vwCl ([(xa, .inr (11, [.ref x0, .int (nI (cntH k1 x1)), .ref x2, .int (nI x3), .ref x4, .ref x5, .ref x6, .int x7, .ref x8, .int 9, .int (-1)]))] ++ va_pl L M) H_452 := by rw [hE]; exact hP
        have hD : va_D A ([(xa, .inr (11, [.ref x0, .int (nI (cntH k1 x1)), .ref x2, .int (nI x3), .ref x4, .ref x5, .ref x6, .int x7, .ref x8, .int 9, .int (-1)]))] ++ va_pl L M) := by rw [hE]; exact hD
        rw [hQ]
        exact W.iret (v := (-1)) hx hb hr (fun t ht hW9 => ⟨⟨(-1), (K, L, M), rfl, ⟨hX0, hW, hF, (by unfold ansH; rw [if_neg c_2, if_pos c_7, if_pos (by omega)]; first | done | rfl)⟩, ⟨9, (-1), (by rw [hE]; exact hNN), by rw [ht]; exact hP, hD⟩⟩, hS.F ht⟩) hS.2.2 dX11_house_32
    · have hz := rfl (a := 0)
      refine lv_aload_n hx hb dX11_house_11 rfl (lv_at hl 0 rfl) ?_
      refine lv_iconst (v := 2) hx hb dX11_house_12 (by decide) ?_
      have hPc := hP.sub (ws' := [(xa, .inr (11, [.ref x0, .int (nI x1), .ref x2, .int (nI x3), .ref x4, .ref x5, .ref x6, .int x7, .ref x8, .int x9, .int x10]))]) [0] rfl
      have hDc := hD.sub (ws' := [(xa, .inr (11, [.ref x0, .int (nI x1), .ref x2, .int (nI x3), .ref x4, .ref x5, .ref x6, .int x7, .ref x8, .int x9, .int x10]))]) [0] (by decide) rfl
      have hKc := hK.sub (tys' := []) [] rfl
      have hFc := va_free (wc := [(xa, .inr (11, [.ref x0, .int (nI x1), .ref x2, .int (nI x3), .ref x4, .ref x5, .ref x6, .int x7, .ref x8, .int x9, .int x10]))]) hD hS hA [0] rfl
      refine va_calli (va_runV (As := [.int 2]) (rest := []) ⟨hx, hb, hml, hown, hg⟩ (k_refuse l D s.heap.size xa x0 (nI x1) x2 (nI x3) x4 x5 x6 x7 x8 x9 x10 2) (cwV 1 hg (gV wd_344 wd_345 wd_346 wd_3 wd_347) rfl rfl rfl (by decide +kernel) ⟨(Nat.le_trans (Nat.le_of_ble_eq_true rfl) hRf), (Nat.le_trans (Nat.le_of_ble_eq_true rfl) hRl)⟩) ⟨Pr.blind, va_recv hK hP (ci := 11) (q0 := 0) rfl rfl, fun U hU hW => ⟨rfl, Pr.at hPc hKc hDc hN hU hW⟩⟩ rfl rfl hl.1 rfl (lv_room (Nat.le_of_ble_eq_true rfl)) dX11_house_13 ⟨(Nat.le_trans (Nat.le_of_ble_eq_true rfl) hRc), (Nat.le_trans (Nat.le_of_ble_eq_true rfl) hRs)⟩) hS (fun q _ h => hFc q h) hFc (fun r_457 M_458 t H_456 locs ht hvm hw hB hz1 hk1 hS => ?_)
      have hp_459 := hw
      obtain ⟨hP1, hK1, hD1⟩ := hB
      rw [ht] at hP1
      obtain ⟨hP, hD⟩ := va_joinQ (X := [(xa, .inr (11, [.ref x0, .int (nI x1), .ref x2, .int (nI x3), .ref x4, .ref x5, .ref x6, .int x7, .ref x8, .int x9, .int x10]))]) (cx := [(xa, .inr (11, [.ref x0, .int (nI x1), .ref x2, .int (nI x3), .ref x4, .ref x5, .ref x6, .int x7, .ref x8, .int x9, .int x10]))]) (wr := []) (w1 := [(xa, .inr (11, [.ref x0, .int (nI x1), .ref x2, .int (nI x3), .ref x4, .ref x5, .ref x6, .int x7, .ref x8, .int 2, .int (-1)]))]) (pl := va_pl L M) hP hD [0] [] rfl rfl (by decide) (by decide) hk1 hFc hP1 hD1
      have hP : va_P D vwCl ([(xa, .inr (11, [.ref x0, .int (nI x1), .ref x2, .int (nI x3), .ref x4, .ref x5, .ref x6, .int x7, .ref x8, .int 2, .int (-1)]))] ++ va_pl L M) H_456 := hP
      have hD : va_D A ([(xa, .inr (11, [.ref x0, .int (nI x1), .ref x2, .int (nI x3), .ref x4, .ref x5, .ref x6, .int x7, .ref x8, .int 2, .int (-1)]))] ++ va_pl L M) := hD
      have hq := Eq.symm hp_459
      subst hq
      refine W.widen (k := 21) (n := 2800) (Nat.le_of_ble_eq_true rfl) (Nat.le_of_ble_eq_true rfl) ?_
      have hE : cntH k1 x1 = x1 := by unfold cntH; rw [if_neg c_2, if_neg c_7]
      have hP : va_P D vwCl ([(xa, .inr (11, [.ref x0, .int (nI (cntH k1 x1)), .ref x2, .int (nI x3), .ref x4, .ref x5, .ref x6, .int x7, .ref x8, .int 2, .int (-1)]))] ++ va_pl L M) H_456 := by rw [hE]; exact hP
      have hD : va_D A ([(xa, .inr (11, [.ref x0, .int (nI (cntH k1 x1)), .ref x2, .int (nI x3), .ref x4, .ref x5, .ref x6, .int x7, .ref x8, .int 2, .int (-1)]))] ++ va_pl L M) := by rw [hE]; exact hD
      rw [hQ]
      exact W.iret (v := (-1)) hx hb hr (fun t ht hW9 => ⟨⟨(-1), (K, L, M), rfl, ⟨hX0, hW, hF, (by unfold ansH; rw [if_neg c_2, if_neg c_7]; first | done | rfl)⟩, ⟨2, (-1), (by rw [hE]; exact hNN), by rw [ht]; exact hP, hD⟩⟩, hS.F ht⟩) hS.2.2 dX11_house_16
set_option maxHeartbeats 4000000 in
set_option maxRecDepth 100000 in
theorem s_partnerE (l : Launch) (D : va_G) (cy : Nat → ClassId) (K0 : Kp) (L0 : List Nat) (M0 : Hp) (sz : Nat) (xa : Nat) (x0 : Nat) (x1 : Nat) (x2 : Nat) (x3 : Nat) (x4 : Nat) (x5 : Nat) (x6 : Nat) (x7 : Int32) (x8 : Nat) (x9 : Int32) (x10 : Int32) (k1 : Int32) (k2 : Int32) (hW : WOK cy K0 L0 M0) (i0 : isk K0 L0 x0 17 8) (b1 : x1 ≤ 8) (i2 : isk K0 L0 x2 19 40) (b3 : x3 ≤ 40) (i4 : isk K0 L0 x4 7 0) (i5 : isk K0 L0 x5 5 0) (i6 : isk K0 L0 x6 60 24) (i8 : isk K0 L0 x8 73 25) (hNN : NN x0 x1 M0) : Met l yX11_partner (wsM yX11_partner cX11_partner 4 (some .int)) ({ frames := 2, cells := 1, slots := 4, locals := 43 }) (va_Pc [.ref xa, .int k1, .int k2] (PG D cy [(xa, .inr (11, [.ref x0, .int (nI x1), .ref x2, .int (nI x3), .ref x4, .ref x5, .ref x6, .int x7, .ref x8, .int x9, .int x10]))] L0 M0 sz)) (va_Qi (fun (r : Int32) (u : Kp × List Nat × Hp) => ext K0 L0 u.1 u.2.1 ∧ WOK cy u.1 u.2.1 u.2.2 ∧ fr K0 L0 [19] M0 u.2.2 ∧ ((r = ansP k1 k2 x1 x3))) (fun u t => ∃ (w9 : Int32) (w10 : Int32), PQ D [(xa, .inr (11, [.ref x0, .int (nI x1), .ref x2, .int (nI (cntQ k1 k2 x1 x3)), .ref x4, .ref x5, .ref x6, .int x7, .ref x8, .int w9, .int w10]))] u.2.1 u.2.2 (va_A ([(xa, .inr (11, [.ref x0, .int (nI x1), .ref x2, .int (nI x3), .ref x4, .ref x5, .ref x6, .int x7, .ref x8, .int x9, .int x10]))] ++ va_pl L0 M0) sz) t) (va_A ([(xa, .inr (11, [.ref x0, .int (nI x1), .ref x2, .int (nI x3), .ref x4, .ref x5, .ref x6, .int x7, .ref x8, .int x9, .int x10]))] ++ va_pl L0 M0) sz)) 1 4 (va_A ([(xa, .inr (11, [.ref x0, .int (nI x1), .ref x2, .int (nI x3), .ref x4, .ref x5, .ref x6, .int x7, .ref x8, .int x9, .int x10]))] ++ va_pl L0 M0) sz) := by
  refine Met.ofW (cc := cX11_partner) (maxL := 4) (ret := (some .int)) (by decide) rfl ?_
  intro p e s m args below meth c s₁ B hml hv
  obtain ⟨rfl, hsz, hP, hK, hD0, hN⟩ := hv
  have hx := B.exec
  have hb := B.bytes
  have hr := B.returns
  have hts := atoms_spec (ws := (wsM yX11_partner cX11_partner 4 (some .int))) B.pre
  have hg : ∀ w ∈ lw_good, w.before _ s = true := fun w h => hts w (List.mem_cons_of_mem _ h)
  have hown : s.vm.findClass RX11 = some m.cls := findClass_of_methodNamed B.named
  have hlocks := B.notSynchronized
  subst hsz
  have hD := hD0.self (sz := s.heap.size)
  generalize hAe : va_A ([(xa, .inr (11, [.ref x0, .int (nI x1), .ref x2, .int (nI x3), .ref x4, .ref x5, .ref x6, .int x7, .ref x8, .int x9, .int x10]))] ++ va_pl L0 M0) s.heap.size = A at hD ⊢
  have hA : ∀ q : Nat, s.heap.size ≤ q → A q := fun q h => by rw [← hAe]; exact Or.inr h
  have hS : va_S A s.heap s.heap [] := va_S.rf
  have hl := lv_entry ([.ref xa, .int k1, .int k2]) (n := 4) (Nat.le_of_ble_eq_true rfl)
  rw [lg_entry_eq]
  generalize (lg_sl ([.ref xa, .int k1, .int k2]) ++ List.replicate (4 - (lg_sl ([.ref xa, .int k1, .int k2])).length) Slot.unset).toArray = ls at hl ⊢
  refine W.nameQ (fun Q hQ => ?_)
  refine W.nameR (fun R hR => ?_)
  have hRf : 2 ≤ R.frames := by rw [hR]; exact Nat.le_of_ble_eq_true rfl
  have hRl : 43 ≤ R.locals := by rw [hR]; exact Nat.le_of_ble_eq_true rfl
  have hRc : 1 ≤ R.cells := by rw [hR]; exact Nat.le_of_ble_eq_true rfl
  have hRs : 4 ≤ R.slots := by rw [hR]; exact Nat.le_of_ble_eq_true rfl
  obtain ⟨K, L, M, hX0, hF, hW, hP, hD, i0, i2, i4, i5, i6, i8, hNN⟩ : ∃ (K : Kp) (L : List Nat) (M : Hp), ext K0 L0 K L ∧ fr K0 L0 [19] M0 M ∧ WOK cy K L M ∧ va_P D vwCl ([(xa, .inr (11, [.ref x0, .int (nI x1), .ref x2, .int (nI x3), .ref x4, .ref x5, .ref x6, .int x7, .ref x8, .int x9, .int x10]))] ++ va_pl L M) s.heap ∧ va_D A ([(xa, .inr (11, [.ref x0, .int (nI x1), .ref x2, .int (nI x3), .ref x4, .ref x5, .ref x6, .int x7, .ref x8, .int x9, .int x10]))] ++ va_pl L M) ∧ isk K L x0 17 8 ∧ isk K L x2 19 40 ∧ isk K L x4 7 0 ∧ isk K L x5 5 0 ∧ isk K L x6 60 24 ∧ isk K L x8 73 25 ∧ NN x0 x1 M := ⟨K0, L0, M0, ext.rf, fr.rf, hW, hP, hD, i0, i2, i4, i5, i6, i8, hNN⟩
  have hl : lv_has ls 4 [(0, .ref xa), (1, .int k1), (2, .int k2)] := hl
  refine lv_iload_n hx hb dX11_partner_0 rfl (lv_at hl 1 rfl) ?_
  refine lv_if_lt (tgt := 10) hx hb dX11_partner_1 (by decide) (fun c_1 => ?_) (fun c_1 => ?_)
  · have hz := rfl (a := 0)
    refine lv_aload_n hx hb dX11_partner_10 rfl (lv_at hl 0 rfl) ?_
    refine lv_iconst (v := 2) hx hb dX11_partner_11 (by decide) ?_
    have hPc := hP.sub (ws' := [(xa, .inr (11, [.ref x0, .int (nI x1), .ref x2, .int (nI x3), .ref x4, .ref x5, .ref x6, .int x7, .ref x8, .int x9, .int x10]))]) [0] rfl
    have hDc := hD.sub (ws' := [(xa, .inr (11, [.ref x0, .int (nI x1), .ref x2, .int (nI x3), .ref x4, .ref x5, .ref x6, .int x7, .ref x8, .int x9, .int x10]))]) [0] (by decide) rfl
    have hKc := hK.sub (tys' := []) [] rfl
    have hFc := va_free (wc := [(xa, .inr (11, [.ref x0, .int (nI x1), .ref x2, .int (nI x3), .ref x4, .ref x5, .ref x6, .int x7, .ref x8, .int x9, .int x10]))]) hD hS hA [0] rfl
    refine va_calli (va_runV (As := [.int 2]) (rest := []) ⟨hx, hb, hml, hown, hg⟩ (k_refuse l D s.heap.size xa x0 (nI x1) x2 (nI x3) x4 x5 x6 x7 x8 x9 x10 2) (cwV 1 hg (gV wd_344 wd_345 wd_346 wd_3 wd_347) rfl rfl rfl (by decide +kernel) ⟨(Nat.le_trans (Nat.le_of_ble_eq_true rfl) hRf), (Nat.le_trans (Nat.le_of_ble_eq_true rfl) hRl)⟩) ⟨Pr.blind, va_recv hK hP (ci := 11) (q0 := 0) rfl rfl, fun U hU hW => ⟨rfl, Pr.at hPc hKc hDc hN hU hW⟩⟩ rfl rfl hl.1 rfl (lv_room (Nat.le_of_ble_eq_true rfl)) dX11_partner_12 ⟨(Nat.le_trans (Nat.le_of_ble_eq_true rfl) hRc), (Nat.le_trans (Nat.le_of_ble_eq_true rfl) hRs)⟩) hS (fun q _ h => hFc q h) hFc (fun r_3 M_4 t H_2 locs ht hvm hw hB hz1 hk1 hS => ?_)
    have hp_5 := hw
    obtain ⟨hP1, hK1, hD1⟩ := hB
    rw [ht] at hP1
    obtain ⟨hP, hD⟩ := va_joinQ (X := [(xa, .inr (11, [.ref x0, .int (nI x1), .ref x2, .int (nI x3), .ref x4, .ref x5, .ref x6, .int x7, .ref x8, .int x9, .int x10]))]) (cx := [(xa, .inr (11, [.ref x0, .int (nI x1), .ref x2, .int (nI x3), .ref x4, .ref x5, .ref x6, .int x7, .ref x8, .int x9, .int x10]))]) (wr := []) (w1 := [(xa, .inr (11, [.ref x0, .int (nI x1), .ref x2, .int (nI x3), .ref x4, .ref x5, .ref x6, .int x7, .ref x8, .int 2, .int (-1)]))]) (pl := va_pl L M) hP hD [0] [] rfl rfl (by decide) (by decide) hk1 hFc hP1 hD1
    have hP : va_P D vwCl ([(xa, .inr (11, [.ref x0, .int (nI x1), .ref x2, .int (nI x3), .ref x4, .ref x5, .ref x6, .int x7, .ref x8, .int 2, .int (-1)]))] ++ va_pl L M) H_2 := hP
    have hD : va_D A ([(xa, .inr (11, [.ref x0, .int (nI x1), .ref x2, .int (nI x3), .ref x4, .ref x5, .ref x6, .int x7, .ref x8, .int 2, .int (-1)]))] ++ va_pl L M) := hD
    have hq := Eq.symm hp_5
    subst hq
    refine W.widen (k := 1) (n := 4) (Nat.le_of_ble_eq_true rfl) (Nat.le_of_ble_eq_true rfl) ?_
    have hE : cntQ k1 k2 x1 x3 = x3 := by unfold cntQ; rw [if_neg (fun q => q.1.1 c_1)]
    have hP : va_P D vwCl ([(xa, .inr (11, [.ref x0, .int (nI x1), .ref x2, .int (nI (cntQ k1 k2 x1 x3)), .ref x4, .ref x5, .ref x6, .int x7, .ref x8, .int 2, .int (-1)]))] ++ va_pl L M) H_2 := by rw [hE]; exact hP
    have hD : va_D A ([(xa, .inr (11, [.ref x0, .int (nI x1), .ref x2, .int (nI (cntQ k1 k2 x1 x3)), .ref x4, .ref x5, .ref x6, .int x7, .ref x8, .int 2, .int (-1)]))] ++ va_pl L M) := by rw [hE]; exact hD
    rw [hQ]
    exact W.iret (v := (-1)) hx hb hr (fun t ht hW9 => ⟨⟨(-1), (K, L, M), rfl, ⟨hX0, hW, hF, (by unfold ansP; rw [if_neg (fun q => q.1.1 c_1)]; first | done | rfl)⟩, ⟨2, (-1), by rw [ht]; exact hP, hD⟩⟩, hS.F ht⟩) hS.2.2 dX11_partner_15
  · have hz := rfl (a := 0)
    refine lv_iload_n hx hb dX11_partner_4 rfl (lv_at hl 1 rfl) ?_
    refine lv_bipush (v := 6) hx hb dX11_partner_5 (by decide) ?_
    refine lv_icmp_lt (tgt := 16) hx hb dX11_partner_7 (by decide) (fun c_6 => ?_) (fun c_6 => ?_)
    · have hz := rfl (a := 0)
      refine lv_iload_n hx hb dX11_partner_16 rfl (lv_at hl 1 rfl) ?_
      have hPc : va_P D vwCl ([] ++ va_pl L M) s.heap := hP.part (cx := []) [] rfl
      have hDc : va_D A ([] ++ va_pl L M) := hD.part (cx := []) [] (by decide) rfl
      have hFc : ∀ q, va_A ([] ++ va_pl L M) s.heap.size q → A q := pg_free hDc hS hA
      refine va_calli (va_runS (As := [.int k1]) (rest := []) ⟨hx, hb, hml, hown, hg⟩ (s_limE l D cy K L M s.heap.size k1  hW ) (va_cwS 1 hg (gS wd_586 wd_4 wd_3 wd_2) rfl rfl rfl (by decide +kernel) ⟨(Nat.le_trans (Nat.le_of_ble_eq_true rfl) hRf), (Nat.le_trans (Nat.le_of_ble_eq_true rfl) hRl)⟩) ⟨PG.blind, fun U hU hW => ⟨rfl, PG.at hPc hK hDc hN hU hW⟩⟩ rfl rfl hl.1 rfl (lv_room (Nat.le_of_ble_eq_true rfl)) dX11_partner_17 ⟨(Nat.le_trans (Nat.le_of_ble_eq_true rfl) hRc), (Nat.le_trans (Nat.le_of_ble_eq_true rfl) hRs)⟩) hS (fun q _ h => hFc q h) hFc (fun r_8 M_9 t H_7 locs ht hvm hw hB hz1 hk1 hS => ?_)
      have hp_10 := hw
      obtain ⟨hP1, hD1⟩ := hB
      rw [ht] at hP1
      obtain ⟨hP, hD⟩ := va_joinP (X := [(xa, .inr (11, [.ref x0, .int (nI x1), .ref x2, .int (nI x3), .ref x4, .ref x5, .ref x6, .int x7, .ref x8, .int x9, .int x10]))]) (cx := []) (wr := [(xa, .inr (11, [.ref x0, .int (nI x1), .ref x2, .int (nI x3), .ref x4, .ref x5, .ref x6, .int x7, .ref x8, .int x9, .int x10]))]) (rx := []) (pl := va_pl L M) (pl1 := va_pl L M) hP hD [] [0] rfl rfl (by decide) (by decide) hk1 hFc hP1 hD1
      have hP : va_P D vwCl ([(xa, .inr (11, [.ref x0, .int (nI x1), .ref x2, .int (nI x3), .ref x4, .ref x5, .ref x6, .int x7, .ref x8, .int x9, .int x10]))] ++ va_pl L M) H_7 := hP
      have hD : va_D A ([(xa, .inr (11, [.ref x0, .int (nI x1), .ref x2, .int (nI x3), .ref x4, .ref x5, .ref x6, .int x7, .ref x8, .int x9, .int x10]))] ++ va_pl L M) := hD
      rcases hp_10 with ⟨rfl, c_11⟩ | ⟨rfl, c_12⟩
      · have hz := rfl (a := 0)
        refine lv_if_eq (tgt := 39) hx hb dX11_partner_20 (by decide) (fun c_13 => absurd c_13 (by decide)) (fun _ => ?_)
        refine lv_iload_n hx hb dX11_partner_23 rfl (lv_at hl 2 rfl) ?_
        refine lv_if_lt (tgt := 33) hx hb dX11_partner_24 (by decide) (fun c_14 => ?_) (fun c_14 => ?_)
        · have hz := rfl (a := 0)
          refine lv_aload_n hx hb dX11_partner_33 rfl (lv_at hl 0 rfl) ?_
          refine lv_iconst (v := 2) hx hb dX11_partner_34 (by decide) ?_
          have hPc := hP.sub (ws' := [(xa, .inr (11, [.ref x0, .int (nI x1), .ref x2, .int (nI x3), .ref x4, .ref x5, .ref x6, .int x7, .ref x8, .int x9, .int x10]))]) [0] rfl
          have hDc := hD.sub (ws' := [(xa, .inr (11, [.ref x0, .int (nI x1), .ref x2, .int (nI x3), .ref x4, .ref x5, .ref x6, .int x7, .ref x8, .int x9, .int x10]))]) [0] (by decide) rfl
          have hKc := hK.sub (tys' := []) [] rfl
          have hFc := va_free (wc := [(xa, .inr (11, [.ref x0, .int (nI x1), .ref x2, .int (nI x3), .ref x4, .ref x5, .ref x6, .int x7, .ref x8, .int x9, .int x10]))]) hD hS hA [0] rfl
          refine va_calli (va_runV (As := [.int 2]) (rest := []) ⟨hx, hb, hml, hown, hg⟩ (k_refuse l D H_7.size xa x0 (nI x1) x2 (nI x3) x4 x5 x6 x7 x8 x9 x10 2) (cwV 1 hg (gV wd_344 wd_345 wd_346 wd_3 wd_347) rfl rfl rfl (by decide +kernel) ⟨(Nat.le_trans (Nat.le_of_ble_eq_true rfl) hRf), (Nat.le_trans (Nat.le_of_ble_eq_true rfl) hRl)⟩) ⟨Pr.blind, va_recv hK hP (ci := 11) (q0 := 0) rfl rfl, fun U hU hW => ⟨rfl, Pr.at hPc hKc hDc hN hU hW⟩⟩ rfl rfl hl.1 rfl (lv_room (Nat.le_of_ble_eq_true rfl)) dX11_partner_35 ⟨(Nat.le_trans (Nat.le_of_ble_eq_true rfl) hRc), (Nat.le_trans (Nat.le_of_ble_eq_true rfl) hRs)⟩) hS (fun q _ h => hFc q h) hFc (fun r_16 M_17 t H_15 locs ht hvm hw hB hz1 hk1 hS => ?_)
          have hp_18 := hw
          obtain ⟨hP1, hK1, hD1⟩ := hB
          rw [ht] at hP1
          obtain ⟨hP, hD⟩ := va_joinQ (X := [(xa, .inr (11, [.ref x0, .int (nI x1), .ref x2, .int (nI x3), .ref x4, .ref x5, .ref x6, .int x7, .ref x8, .int x9, .int x10]))]) (cx := [(xa, .inr (11, [.ref x0, .int (nI x1), .ref x2, .int (nI x3), .ref x4, .ref x5, .ref x6, .int x7, .ref x8, .int x9, .int x10]))]) (wr := []) (w1 := [(xa, .inr (11, [.ref x0, .int (nI x1), .ref x2, .int (nI x3), .ref x4, .ref x5, .ref x6, .int x7, .ref x8, .int 2, .int (-1)]))]) (pl := va_pl L M) hP hD [0] [] rfl rfl (by decide) (by decide) hk1 hFc hP1 hD1
          have hP : va_P D vwCl ([(xa, .inr (11, [.ref x0, .int (nI x1), .ref x2, .int (nI x3), .ref x4, .ref x5, .ref x6, .int x7, .ref x8, .int 2, .int (-1)]))] ++ va_pl L M) H_15 := hP
          have hD : va_D A ([(xa, .inr (11, [.ref x0, .int (nI x1), .ref x2, .int (nI x3), .ref x4, .ref x5, .ref x6, .int x7, .ref x8, .int 2, .int (-1)]))] ++ va_pl L M) := hD
          have hq := Eq.symm hp_18
          subst hq
          refine W.widen (k := 1) (n := 4) (Nat.le_of_ble_eq_true rfl) (Nat.le_of_ble_eq_true rfl) ?_
          have hE : cntQ k1 k2 x1 x3 = x3 := by unfold cntQ; rw [if_neg (fun q => (q.1.2.2.1 c_11).1 c_14)]
          have hP : va_P D vwCl ([(xa, .inr (11, [.ref x0, .int (nI x1), .ref x2, .int (nI (cntQ k1 k2 x1 x3)), .ref x4, .ref x5, .ref x6, .int x7, .ref x8, .int 2, .int (-1)]))] ++ va_pl L M) H_15 := by rw [hE]; exact hP
          have hD : va_D A ([(xa, .inr (11, [.ref x0, .int (nI x1), .ref x2, .int (nI (cntQ k1 k2 x1 x3)), .ref x4, .ref x5, .ref x6, .int x7, .ref x8, .int 2, .int (-1)]))] ++ va_pl L M) := by rw [hE]; exact hD
          rw [hQ]
          exact W.iret (v := (-1)) hx hb hr (fun t ht hW9 => ⟨⟨(-1), (K, L, M), rfl, ⟨hX0, hW, hF, (by unfold ansP; rw [if_neg (fun q => (q.1.2.2.1 c_11).1 c_14)]; first | done | rfl)⟩, ⟨2, (-1), by rw [ht]; exact hP, hD⟩⟩, hS.F ht⟩) hS.2.2 dX11_partner_38
        · have hz := rfl (a := 0)
          refine lv_iload_n hx hb dX11_partner_27 rfl (lv_at hl 2 rfl) ?_
          refine lv_ldc (v := 1000000000) hx hb hown (hg _ wd_0) dX11_partner_28 ?_
          refine lv_icmp_le (tgt := 39) hx hb dX11_partner_30 (by decide) (fun c_19 => ?_) (fun c_19 => ?_)
          · have hz := rfl (a := 0)
            refine lv_iload_n hx hb dX11_partner_39 rfl (lv_at hl 1 rfl) ?_
            refine lv_iconst (v := 5) hx hb dX11_partner_40 (by decide) ?_
            refine lv_icmp_ne (tgt := 52) hx hb dX11_partner_41 (by decide) (fun c_20 => ?_) (fun c_20 => ?_)
            · have hz := rfl (a := 0)
              refine lv_null hx hb dX11_partner_52 ?_
              refine lv_astore_nN (lv' := [(3, .null), (0, .ref xa), (1, .int k1), (2, .int k2)]) hx hb dX11_partner_53 rfl hl (by decide) rfl (fun ls hl => ?_)
              refine lv_iload_n hx hb dX11_partner_54 rfl (lv_at hl 2 rfl) ?_
              refine lv_iconst (v := 5) hx hb dX11_partner_55 (by decide) ?_
              refine lv_icmp_ne (tgt := 69) hx hb dX11_partner_56 (by decide) (fun c_21 => ?_) (fun c_21 => absurd c_21 c_20)
              refine lv_aload_n hx hb dX11_partner_69 rfl (lv_at hl 1 rfl) ?_
              refine va_get (D := D) (ci := 11) (v := .int (nI x3)) (C := RX11) (T := TX11) (N := 11) hx hb hg inG11 hown hK hP 0 rfl rfl 3 (by decide) (hg _ wd_338) (fun _ h9 => h9) rfl dX11_partner_70 ?_
              refine lv_bipush (v := 40) hx hb dX11_partner_73 (by decide) ?_
              refine lv_icmp_lt (tgt := 85) hx hb dX11_partner_75 (by decide) (fun c_22 => ?_) (fun c_22 => ?_)
              · have hz := rfl (a := 0)
                have n_23 : x3 < 40 := (iLT (a := x3) (b := 40) (by omega) (by omega)).mp c_22
                refine lv_aload_n hx hb dX11_partner_85 rfl (lv_at hl 1 rfl) ?_
                refine va_get (D := D) (ci := 11) (v := .ref x2) (C := RX11) (T := TX11) (N := 11) hx hb hg inG11 hown hK hP 0 rfl rfl 2 (by decide) (hg _ wd_339) (fun _ h9 => h9) rfl dX11_partner_86 ?_
                refine lv_aload_n hx hb dX11_partner_89 rfl (lv_at hl 1 rfl) ?_
                refine va_get (D := D) (ci := 11) (v := .int (nI x3)) (C := RX11) (T := TX11) (N := 11) hx hb hg inG11 hown hK hP 0 rfl rfl 3 (by decide) (hg _ wd_338) (fun _ h9 => h9) rfl dX11_partner_90 ?_
                refine va_new (ci := 4) (fs := [.int 0, .int 0, .int 0, .null]) (C := RX4) (T := TX4) (N := 4) hx hb hg inG4 tyX4 tyX4_ok hown (hg _ wd_587) (hg _ wd_588) (hg _ wd_30) hK hP hD hS hA rfl dfX4 (Nat.le_trans (Nat.le_of_ble_eq_true rfl) hRc) (Nat.le_trans (Nat.le_of_ble_eq_true rfl) hRs) dX11_partner_93 (fun q_24 H_25 hP hD hS => ?_)
                have hP : va_P D vwCl ([(xa, .inr (11, [.ref x0, .int (nI x1), .ref x2, .int (nI x3), .ref x4, .ref x5, .ref x6, .int x7, .ref x8, .int x9, .int x10])), (q_24, .inr (4, [.int 0, .int 0, .int 0, .null]))] ++ va_pl L M) H_25 := hP.swap
                have hD : va_D A ([(xa, .inr (11, [.ref x0, .int (nI x1), .ref x2, .int (nI x3), .ref x4, .ref x5, .ref x6, .int x7, .ref x8, .int x9, .int x10])), (q_24, .inr (4, [.int 0, .int 0, .int 0, .null]))] ++ va_pl L M) := hD.swap
                refine W.widen (k := 1) (n := 4) (Nat.le_of_ble_eq_true rfl) (Nat.le_of_ble_eq_true rfl) ?_
                refine lv_dup hx hb dX11_partner_96 rfl ?_
                refine lv_aload_n hx hb dX11_partner_97 rfl (lv_at hl 1 rfl) ?_
                refine va_get (D := D) (ci := 11) (v := .int (nI x3)) (C := RX11) (T := TX11) (N := 11) hx hb hg inG11 hown hK hP 0 rfl rfl 3 (by decide) (hg _ wd_338) (fun _ h9 => h9) rfl dX11_partner_98 ?_
                refine lv_iload_n hx hb dX11_partner_101 rfl (lv_at hl 2 rfl) ?_
                refine lv_iload_n hx hb dX11_partner_102 rfl (lv_at hl 3 rfl) ?_
                refine lv_aload_nN hx hb dX11_partner_103 rfl (lv_at hl 0 rfl) ?_
                have hPc := hP.sub (ws' := [(q_24, .inr (4, [.int 0, .int 0, .int 0, .null]))]) [1] rfl
                have hDc := hD.sub (ws' := [(q_24, .inr (4, [.int 0, .int 0, .int 0, .null]))]) [1] (by decide) rfl
                have hKc := hK.sub (tys' := []) [] rfl
                have hFc := va_free (wc := [(q_24, .inr (4, [.int 0, .int 0, .int 0, .null]))]) hD hS hA [1] rfl
                refine va_callv (va_runI (As := [.int (nI x3), .int k1, .int k2, .null]) (rest := [.ref q_24, .int (nI x3), .ref x2]) ⟨hx, hb, hml, hown, hg⟩ (k_Partner_n l D H_25.size q_24 (nI x3) k1 k2) (cwI 4 hg (gB wd_589) rfl rfl rfl (hg _ wd_30) (hg _ wd_590) (hg _ wd_591) rfl (by decide +kernel) ⟨(Nat.le_trans (Nat.le_of_ble_eq_true rfl) hRf), (Nat.le_trans (Nat.le_of_ble_eq_true rfl) hRl)⟩) ⟨Pr.blind, fun U hU hW => ⟨rfl, Pr.at hPc hKc hDc hN hU hW⟩⟩ rfl rfl hl.1 rfl (lv_room (Nat.le_of_ble_eq_true rfl)) dX11_partner_104 ⟨(Nat.le_trans (Nat.le_of_ble_eq_true rfl) hRc), (Nat.le_trans (Nat.le_of_ble_eq_true rfl) hRs)⟩) hS (fun q _ h => hFc q h) hFc (fun M_28 t H_26 locs ht hvm hw hB hz1 hk1 hS => ?_)
                have hp_29 := hw
                obtain ⟨hP1, hK1, hD1⟩ := hB
                rw [ht] at hP1
                obtain ⟨hP, hD⟩ := va_joinQ (X := [(xa, .inr (11, [.ref x0, .int (nI x1), .ref x2, .int (nI x3), .ref x4, .ref x5, .ref x6, .int x7, .ref x8, .int x9, .int x10])), (q_24, .inr (4, [.int 0, .int 0, .int 0, .null]))]) (cx := [(q_24, .inr (4, [.int 0, .int 0, .int 0, .null]))]) (wr := [(xa, .inr (11, [.ref x0, .int (nI x1), .ref x2, .int (nI x3), .ref x4, .ref x5, .ref x6, .int x7, .ref x8, .int x9, .int x10]))]) (w1 := [(q_24, .inr (4, [.int (nI x3), .int k1, .int k2, .null]))]) (pl := va_pl L M) hP hD [1] [0] rfl rfl (by decide) (by decide) hk1 hFc hP1 hD1
                have hP : va_P D vwCl ([(xa, .inr (11, [.ref x0, .int (nI x1), .ref x2, .int (nI x3), .ref x4, .ref x5, .ref x6, .int x7, .ref x8, .int x9, .int x10])), (q_24, .inr (4, [.int (nI x3), .int k1, .int k2, .null]))] ++ va_pl L M) H_26 := hP
                have hD : va_D A ([(xa, .inr (11, [.ref x0, .int (nI x1), .ref x2, .int (nI x3), .ref x4, .ref x5, .ref x6, .int x7, .ref x8, .int x9, .int x10])), (q_24, .inr (4, [.int (nI x3), .int k1, .int k2, .null]))] ++ va_pl L M) := hD
                have hP : va_P D vwCl (([(xa, .inr (11, [.ref x0, .int (nI x1), .ref x2, .int (nI x3), .ref x4, .ref x5, .ref x6, .int x7, .ref x8, .int x9, .int x10]))] ++ [(q_24, .inr (4, [.int (nI x3), .int k1, .int k2, .null]))]) ++ va_pl L M) H_26 := hP.part (cx := [(xa, .inr (11, [.ref x0, .int (nI x1), .ref x2, .int (nI x3), .ref x4, .ref x5, .ref x6, .int x7, .ref x8, .int x9, .int x10]))] ++ [(q_24, .inr (4, [.int (nI x3), .int k1, .int k2, .null]))]) [0, 1] rfl
                have hD : va_D A (([(xa, .inr (11, [.ref x0, .int (nI x1), .ref x2, .int (nI x3), .ref x4, .ref x5, .ref x6, .int x7, .ref x8, .int x9, .int x10]))] ++ [(q_24, .inr (4, [.int (nI x3), .int k1, .int k2, .null]))]) ++ va_pl L M) := hD.part (cx := [(xa, .inr (11, [.ref x0, .int (nI x1), .ref x2, .int (nI x3), .ref x4, .ref x5, .ref x6, .int x7, .ref x8, .int x9, .int x10]))] ++ [(q_24, .inr (4, [.int (nI x3), .int k1, .int k2, .null]))]) [0, 1] (by decide) rfl
                obtain ⟨K9, L9, M_30, hx9, i_31, hW, hP, hD, hM_32, hfr9, hq9⟩ := adoptE 4 0 hP hD hW (fun K' L' x i => (⟨(nI x3), k1, k2, none, rfl, iskN.none⟩ : gd_4 K' L' _))
                have hF : fr K0 L0 [19] M0 M_30 := hF.adX hX0 hfr9
                have hX0 := hX0.tr hx9
                have i_33 := i0.ext hx9
                have i_34 := i2.ext hx9
                have i_35 := i4.ext hx9
                have i_36 := i5.ext hx9
                have i_37 := i6.ext hx9
                have i_38 := i8.ext hx9
                obtain ⟨K, L, hK9, hL9⟩ : ∃ (K : Kp) (L : List Nat), K = K9 ∧ L = L9 := ⟨_, _, rfl, rfl⟩
                subst hK9
                subst hL9
                have hP : va_P D vwCl ([(xa, .inr (11, [.ref x0, .int (nI x1), .ref x2, .int (nI x3), .ref x4, .ref x5, .ref x6, .int x7, .ref x8, .int x9, .int x10]))] ++ va_pl L M_30) H_26 := hP
                have hD : va_D A ([(xa, .inr (11, [.ref x0, .int (nI x1), .ref x2, .int (nI x3), .ref x4, .ref x5, .ref x6, .int x7, .ref x8, .int x9, .int x10]))] ++ va_pl L M_30) := hD
                obtain ⟨f39, hM39, hf39⟩ := hW.open_19 i_34
                obtain ⟨v41_0, v41_1, v41_2, v41_3, hM41, h41_3⟩ := hW.open_4 i_31
                refine pg_astq (r := (RX4, TX4, 4)) hx hb hK hP hD hS i_34.1 5 4 hM39 rfl i_31.1 hM41 rfl (inbN x3 40 (by omega) (by omega)) dX11_partner_107 (fun H_40 locs hP hD hS => ?_)
                obtain ⟨M_42, eM_42⟩ : ∃ M1 : Hp, M1 = va_up M_30 x2 (.inl (cy 19, 40, .inr (.inr (.inr (.inr (va_up f39 ((nI x3) : Int32).toNatClampNeg (some q_24))))))) := ⟨_, rfl⟩
                have hP : va_P D vwCl ([(xa, .inr (11, [.ref x0, .int (nI x1), .ref x2, .int (nI x3), .ref x4, .ref x5, .ref x6, .int x7, .ref x8, .int x9, .int x10]))] ++ va_pl L M_42) H_40 := by rw [eM_42]; exact hP
                have hD : va_D A ([(xa, .inr (11, [.ref x0, .int (nI x1), .ref x2, .int (nI x3), .ref x4, .ref x5, .ref x6, .int x7, .ref x8, .int x9, .int x10]))] ++ va_pl L M_42) := by rw [eM_42]; exact hD
                have hW : WOK cy K L M_42 := by rw [eM_42]; exact hW.up_19 i_34 ⟨_, rfl, (upN hf39 i_31)⟩
                have hF : fr K0 L0 [19] M0 M_42 := by rw [eM_42]; exact hF.upX hX0 i_34 (by decide)
                have hM_43 : M_42 x2 = .inl (cy 19, 40, .inr (.inr (.inr (.inr (va_up f39 ((nI x3) : Int32).toNatClampNeg (some q_24)))))) := by rw [eM_42]; exact va_up_self _ _ _
                have hM_44 : M_42 q_24 = .inr (4, [.int v41_0, .int v41_1, .int v41_2, va_rf v41_3]) := by rw [eM_42, va_up_ne _ _ (i_31.neT i_34 (by decide))]; exact hM41
                have hf_46 : ∀ j, j < 40 → iskN K L ((va_up f39 ((nI x3) : Int32).toNatClampNeg (some q_24)) j) 4 0 := (upN hf39 i_31)
                obtain ⟨f_45, ef_45⟩ : ∃ f : Nat → Option Nat, f = va_up f39 ((nI x3) : Int32).toNatClampNeg (some q_24) := ⟨_, rfl⟩
                rw [← ef_45] at hM_43 hf_46
                have hk_47 : f_45 ((nI x3) : Int32).toNatClampNeg = some q_24 := by rw [ef_45]; exact va_up_self _ _ _
                clear ef_45
                refine lv_aload_n hx hb dX11_partner_108 rfl (lv_at hl 1 rfl) ?_
                refine lv_dup hx hb dX11_partner_109 rfl ?_
                refine va_get (D := D) (ci := 11) (v := .int (nI x3)) (C := RX11) (T := TX11) (N := 11) hx hb hg inG11 hown hK hP 0 rfl rfl 3 (by decide) (hg _ wd_338) (fun _ h9 => h9) rfl dX11_partner_110 ?_
                refine lv_iconst (v := 1) hx hb dX11_partner_113 (by decide) ?_
                refine lv_iadd hx hb dX11_partner_114 ?_
                refine lv_topi (fun f_48 ef_48 => ?_)
                obtain rfl : f_48 = (nI (x3 + 1)) := ef_48.trans (nI_add x3 1)
                refine va_put (D := D) (ci := 11) (v := .int (nI (x3 + 1))) (ty := .int) (C := RX11) (T := TX11) (N := 11) hx hb hg inG11 tyX11 tyX11_ok nmX11 hown hK hP hD hS 0 rfl rfl 3 (by decide) (hg _ wd_338) (fun _ h9 => h9) rfl (by decide +kernel) rfl rfl (Nat.le_of_ble_eq_true rfl) dX11_partner_115 (fun H_49 locs hP hD hS => ?_)
                have hP : va_P D vwCl ([(xa, .inr (11, [.ref x0, .int (nI x1), .ref x2, .int (nI (x3 + 1)), .ref x4, .ref x5, .ref x6, .int x7, .ref x8, .int x9, .int x10]))] ++ va_pl L M_42) H_49 := hP
                have hD : va_D A ([(xa, .inr (11, [.ref x0, .int (nI x1), .ref x2, .int (nI (x3 + 1)), .ref x4, .ref x5, .ref x6, .int x7, .ref x8, .int x9, .int x10]))] ++ va_pl L M_42) := hD
                refine lv_aload_n hx hb dX11_partner_118 rfl (lv_at hl 1 rfl) ?_
                refine lv_aload_n hx hb dX11_partner_119 rfl (lv_at hl 1 rfl) ?_
                refine va_get (D := D) (ci := 11) (v := .int (nI (x3 + 1))) (C := RX11) (T := TX11) (N := 11) hx hb hg inG11 hown hK hP 0 rfl rfl 3 (by decide) (hg _ wd_338) (fun _ h9 => h9) rfl dX11_partner_120 ?_
                refine lv_iconst (v := 1) hx hb dX11_partner_123 (by decide) ?_
                refine lv_isub hx hb dX11_partner_124 ?_
                refine lv_topi (fun f_50 ef_50 => ?_)
                obtain rfl : f_50 = (nI ((x3 + 1) - 1)) := ef_50.trans (nI_prd (by omega))
                have hPc := hP.sub (ws' := [(xa, .inr (11, [.ref x0, .int (nI x1), .ref x2, .int (nI (x3 + 1)), .ref x4, .ref x5, .ref x6, .int x7, .ref x8, .int x9, .int x10]))]) [0] rfl
                have hDc := hD.sub (ws' := [(xa, .inr (11, [.ref x0, .int (nI x1), .ref x2, .int (nI (x3 + 1)), .ref x4, .ref x5, .ref x6, .int x7, .ref x8, .int x9, .int x10]))]) [0] (by decide) rfl
                have hKc := hK.sub (tys' := []) [] rfl
                have hFc := va_free (wc := [(xa, .inr (11, [.ref x0, .int (nI x1), .ref x2, .int (nI (x3 + 1)), .ref x4, .ref x5, .ref x6, .int x7, .ref x8, .int x9, .int x10]))]) hD hS hA [0] rfl
                refine va_calli (va_runV (As := [.int (nI ((x3 + 1) - 1))]) (rest := []) ⟨hx, hb, hml, hown, hg⟩ (k_accept l D H_49.size xa x0 (nI x1) x2 (nI (x3 + 1)) x4 x5 x6 x7 x8 x9 x10 (nI ((x3 + 1) - 1))) (cwV 1 hg (gV wd_356 wd_357 wd_358 wd_3 wd_359) rfl rfl rfl (by decide +kernel) ⟨(Nat.le_trans (Nat.le_of_ble_eq_true rfl) hRf), (Nat.le_trans (Nat.le_of_ble_eq_true rfl) hRl)⟩) ⟨Pr.blind, va_recv hK hP (ci := 11) (q0 := 0) rfl rfl, fun U hU hW => ⟨rfl, Pr.at hPc hKc hDc hN hU hW⟩⟩ rfl rfl hl.1 rfl (lv_room (Nat.le_of_ble_eq_true rfl)) dX11_partner_125 ⟨(Nat.le_trans (Nat.le_of_ble_eq_true rfl) hRc), (Nat.le_trans (Nat.le_of_ble_eq_true rfl) hRs)⟩) hS (fun q _ h => hFc q h) hFc (fun r_52 M_53 t H_51 locs ht hvm hw hB hz1 hk1 hS => ?_)
                have hp_54 := hw
                obtain ⟨hP1, hK1, hD1⟩ := hB
                rw [ht] at hP1
                obtain ⟨hP, hD⟩ := va_joinQ (X := [(xa, .inr (11, [.ref x0, .int (nI x1), .ref x2, .int (nI (x3 + 1)), .ref x4, .ref x5, .ref x6, .int x7, .ref x8, .int x9, .int x10]))]) (cx := [(xa, .inr (11, [.ref x0, .int (nI x1), .ref x2, .int (nI (x3 + 1)), .ref x4, .ref x5, .ref x6, .int x7, .ref x8, .int x9, .int x10]))]) (wr := []) (w1 := [(xa, .inr (11, [.ref x0, .int (nI x1), .ref x2, .int (nI (x3 + 1)), .ref x4, .ref x5, .ref x6, .int x7, .ref x8, .int 0, .int (-1)]))]) (pl := va_pl L M_42) hP hD [0] [] rfl rfl (by decide) (by decide) hk1 hFc hP1 hD1
                have hP : va_P D vwCl ([(xa, .inr (11, [.ref x0, .int (nI x1), .ref x2, .int (nI (x3 + 1)), .ref x4, .ref x5, .ref x6, .int x7, .ref x8, .int 0, .int (-1)]))] ++ va_pl L M_42) H_51 := hP
                have hD : va_D A ([(xa, .inr (11, [.ref x0, .int (nI x1), .ref x2, .int (nI (x3 + 1)), .ref x4, .ref x5, .ref x6, .int x7, .ref x8, .int 0, .int (-1)]))] ++ va_pl L M_42) := hD
                have hq := Eq.symm hp_54
                subst hq
                have hE : cntQ k1 k2 x1 x3 = (x3 + 1) := by unfold cntQ; rw [if_pos ⟨⟨c_1, c_6, (fun _ => ⟨c_14, c_19⟩), (fun q => absurd q c_21)⟩, by omega⟩]
                have hP : va_P D vwCl ([(xa, .inr (11, [.ref x0, .int (nI x1), .ref x2, .int (nI (cntQ k1 k2 x1 x3)), .ref x4, .ref x5, .ref x6, .int x7, .ref x8, .int 0, .int (-1)]))] ++ va_pl L M_42) H_51 := by rw [hE]; exact hP
                have hD : va_D A ([(xa, .inr (11, [.ref x0, .int (nI x1), .ref x2, .int (nI (cntQ k1 k2 x1 x3)), .ref x4, .ref x5, .ref x6, .int x7, .ref x8, .int 0, .int (-1)]))] ++ va_pl L M_42) := by rw [hE]; exact hD
                rw [hQ]
                exact W.iret (v := (nI ((x3 + 1) - 1))) hx hb hr (fun t ht hW9 => ⟨⟨(nI ((x3 + 1) - 1)), (K, L, M_42), rfl, ⟨hX0, hW, hF, (by unfold ansP; rw [if_pos ⟨⟨c_1, c_6, (fun _ => ⟨c_14, c_19⟩), (fun q => absurd q c_21)⟩, by omega⟩]; first | done | rfl)⟩, ⟨0, (-1), by rw [ht]; exact hP, hD⟩⟩, hS.F ht⟩) hS.2.2 dX11_partner_128
              · have hz := rfl (a := 0)
                have n_55 : ¬ (x3 < 40) := fun q => c_22 ((iLT (a := x3) (b := 40) (by omega) (by omega)).mpr q)
                refine lv_aload_n hx hb dX11_partner_78 rfl (lv_at hl 1 rfl) ?_
                refine lv_bipush (v := 9) hx hb dX11_partner_79 (by decide) ?_
                have hPc := hP.sub (ws' := [(xa, .inr (11, [.ref x0, .int (nI x1), .ref x2, .int (nI x3), .ref x4, .ref x5, .ref x6, .int x7, .ref x8, .int x9, .int x10]))]) [0] rfl
                have hDc := hD.sub (ws' := [(xa, .inr (11, [.ref x0, .int (nI x1), .ref x2, .int (nI x3), .ref x4, .ref x5, .ref x6, .int x7, .ref x8, .int x9, .int x10]))]) [0] (by decide) rfl
                have hKc := hK.sub (tys' := []) [] rfl
                have hFc := va_free (wc := [(xa, .inr (11, [.ref x0, .int (nI x1), .ref x2, .int (nI x3), .ref x4, .ref x5, .ref x6, .int x7, .ref x8, .int x9, .int x10]))]) hD hS hA [0] rfl
                refine va_calli (va_runV (As := [.int 9]) (rest := []) ⟨hx, hb, hml, hown, hg⟩ (k_refuse l D H_7.size xa x0 (nI x1) x2 (nI x3) x4 x5 x6 x7 x8 x9 x10 9) (cwV 1 hg (gV wd_344 wd_345 wd_346 wd_3 wd_347) rfl rfl rfl (by decide +kernel) ⟨(Nat.le_trans (Nat.le_of_ble_eq_true rfl) hRf), (Nat.le_trans (Nat.le_of_ble_eq_true rfl) hRl)⟩) ⟨Pr.blind, va_recv hK hP (ci := 11) (q0 := 0) rfl rfl, fun U hU hW => ⟨rfl, Pr.at hPc hKc hDc hN hU hW⟩⟩ rfl rfl hl.1 rfl (lv_room (Nat.le_of_ble_eq_true rfl)) dX11_partner_81 ⟨(Nat.le_trans (Nat.le_of_ble_eq_true rfl) hRc), (Nat.le_trans (Nat.le_of_ble_eq_true rfl) hRs)⟩) hS (fun q _ h => hFc q h) hFc (fun r_57 M_58 t H_56 locs ht hvm hw hB hz1 hk1 hS => ?_)
                have hp_59 := hw
                obtain ⟨hP1, hK1, hD1⟩ := hB
                rw [ht] at hP1
                obtain ⟨hP, hD⟩ := va_joinQ (X := [(xa, .inr (11, [.ref x0, .int (nI x1), .ref x2, .int (nI x3), .ref x4, .ref x5, .ref x6, .int x7, .ref x8, .int x9, .int x10]))]) (cx := [(xa, .inr (11, [.ref x0, .int (nI x1), .ref x2, .int (nI x3), .ref x4, .ref x5, .ref x6, .int x7, .ref x8, .int x9, .int x10]))]) (wr := []) (w1 := [(xa, .inr (11, [.ref x0, .int (nI x1), .ref x2, .int (nI x3), .ref x4, .ref x5, .ref x6, .int x7, .ref x8, .int 9, .int (-1)]))]) (pl := va_pl L M) hP hD [0] [] rfl rfl (by decide) (by decide) hk1 hFc hP1 hD1
                have hP : va_P D vwCl ([(xa, .inr (11, [.ref x0, .int (nI x1), .ref x2, .int (nI x3), .ref x4, .ref x5, .ref x6, .int x7, .ref x8, .int 9, .int (-1)]))] ++ va_pl L M) H_56 := hP
                have hD : va_D A ([(xa, .inr (11, [.ref x0, .int (nI x1), .ref x2, .int (nI x3), .ref x4, .ref x5, .ref x6, .int x7, .ref x8, .int 9, .int (-1)]))] ++ va_pl L M) := hD
                have hq := Eq.symm hp_59
                subst hq
                refine W.widen (k := 1) (n := 4) (Nat.le_of_ble_eq_true rfl) (Nat.le_of_ble_eq_true rfl) ?_
                have hE : cntQ k1 k2 x1 x3 = x3 := by unfold cntQ; rw [if_neg (fun q => absurd q.2 (by omega))]
                have hP : va_P D vwCl ([(xa, .inr (11, [.ref x0, .int (nI x1), .ref x2, .int (nI (cntQ k1 k2 x1 x3)), .ref x4, .ref x5, .ref x6, .int x7, .ref x8, .int 9, .int (-1)]))] ++ va_pl L M) H_56 := by rw [hE]; exact hP
                have hD : va_D A ([(xa, .inr (11, [.ref x0, .int (nI x1), .ref x2, .int (nI (cntQ k1 k2 x1 x3)), .ref x4, .ref x5, .ref x6, .int x7, .ref x8, .int 9, .int (-1)]))] ++ va_pl L M) := by rw [hE]; exact hD
                rw [hQ]
                exact W.iret (v := (-1)) hx hb hr (fun t ht hW9 => ⟨⟨(-1), (K, L, M), rfl, ⟨hX0, hW, hF, (by unfold ansP; rw [if_neg (fun q => absurd q.2 (by omega))]; first | done | rfl)⟩, ⟨9, (-1), by rw [ht]; exact hP, hD⟩⟩, hS.F ht⟩) hS.2.2 dX11_partner_84
            · have hz := rfl (a := 0)
              refine lv_aload_n hx hb dX11_partner_44 rfl (lv_at hl 0 rfl) ?_
              refine lv_iload_n hx hb dX11_partner_45 rfl (lv_at hl 2 rfl) ?_
              have hPc : va_P D vwCl ([(xa, .inr (11, [.ref x0, .int (nI x1), .ref x2, .int (nI x3), .ref x4, .ref x5, .ref x6, .int x7, .ref x8, .int x9, .int x10]))] ++ va_pl L M) H_7 := hP
              have hDc : va_D A ([(xa, .inr (11, [.ref x0, .int (nI x1), .ref x2, .int (nI x3), .ref x4, .ref x5, .ref x6, .int x7, .ref x8, .int x9, .int x10]))] ++ va_pl L M) := hD
              have hFc : ∀ q, va_A ([(xa, .inr (11, [.ref x0, .int (nI x1), .ref x2, .int (nI x3), .ref x4, .ref x5, .ref x6, .int x7, .ref x8, .int x9, .int x10]))] ++ va_pl L M) H_7.size q → A q := pg_free hDc hS hA
              refine va_callq (va_runV (As := [.int k2]) (rest := []) ⟨hx, hb, hml, hown, hg⟩ (s_houseAtE l D cy K L M H_7.size xa x0 x1 x2 x3 x4 x5 x6 x7 x8 x9 x10 k2  hW i0 b1 i2 b3 i4 i5 i6 i8 hNN) (cwV 1 hg (gV wd_340 wd_341 wd_342 wd_3 wd_343) rfl rfl rfl (by decide +kernel) ⟨(Nat.le_trans (Nat.le_of_ble_eq_true rfl) hRf), (Nat.le_trans (Nat.le_of_ble_eq_true rfl) hRl)⟩) ⟨PG.blind, va_recv hK hP (ci := 11) (q0 := 0) rfl rfl, fun U hU hW => ⟨rfl, PG.at hPc hK hDc hN hU hW⟩⟩ rfl rfl hl.1 rfl (lv_room (Nat.le_of_ble_eq_true rfl)) dX11_partner_46 ⟨(Nat.le_trans (Nat.le_of_ble_eq_true rfl) hRc), (Nat.le_trans (Nat.le_of_ble_eq_true rfl) hRs)⟩) hS (fun q _ h => hFc q h) hFc (fun r_61 M_62 t H_60 locs ht hvm hw hB hz1 hk1 hS => ?_)
              have hp_63 := hw
              obtain ⟨hP1, hD1⟩ := hB
              rw [ht] at hP1
              have hP : va_P D vwCl ([(xa, .inr (11, [.ref x0, .int (nI x1), .ref x2, .int (nI x3), .ref x4, .ref x5, .ref x6, .int x7, .ref x8, .int x9, .int x10]))] ++ va_pl L M) H_60 := hP1
              have hD : va_D A ([(xa, .inr (11, [.ref x0, .int (nI x1), .ref x2, .int (nI x3), .ref x4, .ref x5, .ref x6, .int x7, .ref x8, .int x9, .int x10]))] ++ va_pl L M) := hD1.mono hFc
              obtain ⟨hp_63, hqx⟩ := hp_63
              rcases r_61 with _ | b_64
              · have hz := rfl (a := 0)
                refine lv_goto (tgt := 53) hx hb dX11_partner_49 (by decide) ?_
                refine lv_astore_nN (lv' := [(3, .null), (0, .ref xa), (1, .int k1), (2, .int k2)]) hx hb dX11_partner_53 rfl hl (by decide) rfl (fun ls hl => ?_)
                refine lv_iload_n hx hb dX11_partner_54 rfl (lv_at hl 2 rfl) ?_
                refine lv_iconst (v := 5) hx hb dX11_partner_55 (by decide) ?_
                refine lv_icmp_ne (tgt := 69) hx hb dX11_partner_56 (by decide) (fun c_65 => absurd c_20 c_65) (fun c_65 => ?_)
                refine lv_aload_nN hx hb dX11_partner_59 rfl (lv_at hl 0 rfl) ?_
                refine lv_ifnonnullN hx hb dX11_partner_60 ?_
                refine lv_aload_n hx hb dX11_partner_63 rfl (lv_at hl 1 rfl) ?_
                refine lv_iconst (v := 1) hx hb dX11_partner_64 (by decide) ?_
                have hPc := hP.sub (ws' := [(xa, .inr (11, [.ref x0, .int (nI x1), .ref x2, .int (nI x3), .ref x4, .ref x5, .ref x6, .int x7, .ref x8, .int x9, .int x10]))]) [0] rfl
                have hDc := hD.sub (ws' := [(xa, .inr (11, [.ref x0, .int (nI x1), .ref x2, .int (nI x3), .ref x4, .ref x5, .ref x6, .int x7, .ref x8, .int x9, .int x10]))]) [0] (by decide) rfl
                have hKc := hK.sub (tys' := []) [] rfl
                have hFc := va_free (wc := [(xa, .inr (11, [.ref x0, .int (nI x1), .ref x2, .int (nI x3), .ref x4, .ref x5, .ref x6, .int x7, .ref x8, .int x9, .int x10]))]) hD hS hA [0] rfl
                refine va_calli (va_runV (As := [.int 1]) (rest := []) ⟨hx, hb, hml, hown, hg⟩ (k_refuse l D H_60.size xa x0 (nI x1) x2 (nI x3) x4 x5 x6 x7 x8 x9 x10 1) (cwV 1 hg (gV wd_344 wd_345 wd_346 wd_3 wd_347) rfl rfl rfl (by decide +kernel) ⟨(Nat.le_trans (Nat.le_of_ble_eq_true rfl) hRf), (Nat.le_trans (Nat.le_of_ble_eq_true rfl) hRl)⟩) ⟨Pr.blind, va_recv hK hP (ci := 11) (q0 := 0) rfl rfl, fun U hU hW => ⟨rfl, Pr.at hPc hKc hDc hN hU hW⟩⟩ rfl rfl hl.1 rfl (lv_room (Nat.le_of_ble_eq_true rfl)) dX11_partner_65 ⟨(Nat.le_trans (Nat.le_of_ble_eq_true rfl) hRc), (Nat.le_trans (Nat.le_of_ble_eq_true rfl) hRs)⟩) hS (fun q _ h => hFc q h) hFc (fun r_67 M_68 t H_66 locs ht hvm hw hB hz1 hk1 hS => ?_)
                have hp_69 := hw
                obtain ⟨hP1, hK1, hD1⟩ := hB
                rw [ht] at hP1
                obtain ⟨hP, hD⟩ := va_joinQ (X := [(xa, .inr (11, [.ref x0, .int (nI x1), .ref x2, .int (nI x3), .ref x4, .ref x5, .ref x6, .int x7, .ref x8, .int x9, .int x10]))]) (cx := [(xa, .inr (11, [.ref x0, .int (nI x1), .ref x2, .int (nI x3), .ref x4, .ref x5, .ref x6, .int x7, .ref x8, .int x9, .int x10]))]) (wr := []) (w1 := [(xa, .inr (11, [.ref x0, .int (nI x1), .ref x2, .int (nI x3), .ref x4, .ref x5, .ref x6, .int x7, .ref x8, .int 1, .int (-1)]))]) (pl := va_pl L M) hP hD [0] [] rfl rfl (by decide) (by decide) hk1 hFc hP1 hD1
                have hP : va_P D vwCl ([(xa, .inr (11, [.ref x0, .int (nI x1), .ref x2, .int (nI x3), .ref x4, .ref x5, .ref x6, .int x7, .ref x8, .int 1, .int (-1)]))] ++ va_pl L M) H_66 := hP
                have hD : va_D A ([(xa, .inr (11, [.ref x0, .int (nI x1), .ref x2, .int (nI x3), .ref x4, .ref x5, .ref x6, .int x7, .ref x8, .int 1, .int (-1)]))] ++ va_pl L M) := hD
                have hq := Eq.symm hp_69
                subst hq
                refine W.widen (k := 1) (n := 4) (Nat.le_of_ble_eq_true rfl) (Nat.le_of_ble_eq_true rfl) ?_
                have hE : cntQ k1 k2 x1 x3 = x3 := by unfold cntQ; rw [if_neg (fun q => q.1.2.2.2 c_65 (hqx.mp rfl))]
                have hP : va_P D vwCl ([(xa, .inr (11, [.ref x0, .int (nI x1), .ref x2, .int (nI (cntQ k1 k2 x1 x3)), .ref x4, .ref x5, .ref x6, .int x7, .ref x8, .int 1, .int (-1)]))] ++ va_pl L M) H_66 := by rw [hE]; exact hP
                have hD : va_D A ([(xa, .inr (11, [.ref x0, .int (nI x1), .ref x2, .int (nI (cntQ k1 k2 x1 x3)), .ref x4, .ref x5, .ref x6, .int x7, .ref x8, .int 1, .int (-1)]))] ++ va_pl L M) := by rw [hE]; exact hD
                rw [hQ]
                exact W.iret (v := (-1)) hx hb hr (fun t ht hW9 => ⟨⟨(-1), (K, L, M), rfl, ⟨hX0, hW, hF, (by unfold ansP; rw [if_neg (fun q => q.1.2.2.2 c_65 (hqx.mp rfl))]; first | done | rfl)⟩, ⟨1, (-1), by rw [ht]; exact hP, hD⟩⟩, hS.F ht⟩) hS.2.2 dX11_partner_68
              · have hb_70 := hp_63 b_64 rfl
                refine lv_goto (tgt := 53) hx hb dX11_partner_49 (by decide) ?_
                refine lv_astore_n (lv' := [(3, .ref b_64), (0, .ref xa), (1, .int k1), (2, .int k2)]) hx hb dX11_partner_53 rfl hl (by decide) rfl (fun ls hl => ?_)
                refine lv_iload_n hx hb dX11_partner_54 rfl (lv_at hl 2 rfl) ?_
                refine lv_iconst (v := 5) hx hb dX11_partner_55 (by decide) ?_
                refine lv_icmp_ne (tgt := 69) hx hb dX11_partner_56 (by decide) (fun c_71 => absurd c_20 c_71) (fun c_71 => ?_)
                refine lv_aload_n hx hb dX11_partner_59 rfl (lv_at hl 0 rfl) ?_
                refine lv_ifnonnull (tgt := 69) hx hb dX11_partner_60 (by decide) ?_
                refine lv_aload_n hx hb dX11_partner_69 rfl (lv_at hl 1 rfl) ?_
                refine va_get (D := D) (ci := 11) (v := .int (nI x3)) (C := RX11) (T := TX11) (N := 11) hx hb hg inG11 hown hK hP 0 rfl rfl 3 (by decide) (hg _ wd_338) (fun _ h9 => h9) rfl dX11_partner_70 ?_
                refine lv_bipush (v := 40) hx hb dX11_partner_73 (by decide) ?_
                refine lv_icmp_lt (tgt := 85) hx hb dX11_partner_75 (by decide) (fun c_72 => ?_) (fun c_72 => ?_)
                · have hz := rfl (a := 0)
                  have n_73 : x3 < 40 := (iLT (a := x3) (b := 40) (by omega) (by omega)).mp c_72
                  refine lv_aload_n hx hb dX11_partner_85 rfl (lv_at hl 1 rfl) ?_
                  refine va_get (D := D) (ci := 11) (v := .ref x2) (C := RX11) (T := TX11) (N := 11) hx hb hg inG11 hown hK hP 0 rfl rfl 2 (by decide) (hg _ wd_339) (fun _ h9 => h9) rfl dX11_partner_86 ?_
                  refine lv_aload_n hx hb dX11_partner_89 rfl (lv_at hl 1 rfl) ?_
                  refine va_get (D := D) (ci := 11) (v := .int (nI x3)) (C := RX11) (T := TX11) (N := 11) hx hb hg inG11 hown hK hP 0 rfl rfl 3 (by decide) (hg _ wd_338) (fun _ h9 => h9) rfl dX11_partner_90 ?_
                  refine va_new (ci := 4) (fs := [.int 0, .int 0, .int 0, .null]) (C := RX4) (T := TX4) (N := 4) hx hb hg inG4 tyX4 tyX4_ok hown (hg _ wd_587) (hg _ wd_588) (hg _ wd_30) hK hP hD hS hA rfl dfX4 (Nat.le_trans (Nat.le_of_ble_eq_true rfl) hRc) (Nat.le_trans (Nat.le_of_ble_eq_true rfl) hRs) dX11_partner_93 (fun q_74 H_75 hP hD hS => ?_)
                  have hP : va_P D vwCl ([(xa, .inr (11, [.ref x0, .int (nI x1), .ref x2, .int (nI x3), .ref x4, .ref x5, .ref x6, .int x7, .ref x8, .int x9, .int x10])), (q_74, .inr (4, [.int 0, .int 0, .int 0, .null]))] ++ va_pl L M) H_75 := hP.swap
                  have hD : va_D A ([(xa, .inr (11, [.ref x0, .int (nI x1), .ref x2, .int (nI x3), .ref x4, .ref x5, .ref x6, .int x7, .ref x8, .int x9, .int x10])), (q_74, .inr (4, [.int 0, .int 0, .int 0, .null]))] ++ va_pl L M) := hD.swap
                  refine W.widen (k := 1) (n := 4) (Nat.le_of_ble_eq_true rfl) (Nat.le_of_ble_eq_true rfl) ?_
                  refine lv_dup hx hb dX11_partner_96 rfl ?_
                  refine lv_aload_n hx hb dX11_partner_97 rfl (lv_at hl 1 rfl) ?_
                  refine va_get (D := D) (ci := 11) (v := .int (nI x3)) (C := RX11) (T := TX11) (N := 11) hx hb hg inG11 hown hK hP 0 rfl rfl 3 (by decide) (hg _ wd_338) (fun _ h9 => h9) rfl dX11_partner_98 ?_
                  refine lv_iload_n hx hb dX11_partner_101 rfl (lv_at hl 2 rfl) ?_
                  refine lv_iload_n hx hb dX11_partner_102 rfl (lv_at hl 3 rfl) ?_
                  refine lv_aload_n hx hb dX11_partner_103 rfl (lv_at hl 0 rfl) ?_
                  have hPc := hP.sub (ws' := [(q_74, .inr (4, [.int 0, .int 0, .int 0, .null]))]) [1] rfl
                  have hDc := hD.sub (ws' := [(q_74, .inr (4, [.int 0, .int 0, .int 0, .null]))]) [1] (by decide) rfl
                  have hKc := hK.sub (tys' := []) [] rfl
                  have hFc := va_free (wc := [(q_74, .inr (4, [.int 0, .int 0, .int 0, .null]))]) hD hS hA [1] rfl
                  refine va_callv (va_runI (As := [.int (nI x3), .int k1, .int k2, .ref b_64]) (rest := [.ref q_74, .int (nI x3), .ref x2]) ⟨hx, hb, hml, hown, hg⟩ (k_Partner_r l D H_75.size q_74 (nI x3) k1 k2 b_64) (cwI 4 hg (gB wd_589) rfl rfl rfl (hg _ wd_30) (hg _ wd_590) (hg _ wd_591) rfl (by decide +kernel) ⟨(Nat.le_trans (Nat.le_of_ble_eq_true rfl) hRf), (Nat.le_trans (Nat.le_of_ble_eq_true rfl) hRl)⟩) ⟨Pr.blind, fun U hU hW => ⟨rfl, Pr.at hPc hKc hDc hN hU hW⟩⟩ rfl rfl hl.1 rfl (lv_room (Nat.le_of_ble_eq_true rfl)) dX11_partner_104 ⟨(Nat.le_trans (Nat.le_of_ble_eq_true rfl) hRc), (Nat.le_trans (Nat.le_of_ble_eq_true rfl) hRs)⟩) hS (fun q _ h => hFc q h) hFc (fun M_78 t H_76 locs ht hvm hw hB hz1 hk1 hS => ?_)
                  have hp_79 := hw
                  obtain ⟨hP1, hK1, hD1⟩ := hB
                  rw [ht] at hP1
                  obtain ⟨hP, hD⟩ := va_joinQ (X := [(xa, .inr (11, [.ref x0, .int (nI x1), .ref x2, .int (nI x3), .ref x4, .ref x5, .ref x6, .int x7, .ref x8, .int x9, .int x10])), (q_74, .inr (4, [.int 0, .int 0, .int 0, .null]))]) (cx := [(q_74, .inr (4, [.int 0, .int 0, .int 0, .null]))]) (wr := [(xa, .inr (11, [.ref x0, .int (nI x1), .ref x2, .int (nI x3), .ref x4, .ref x5, .ref x6, .int x7, .ref x8, .int x9, .int x10]))]) (w1 := [(q_74, .inr (4, [.int (nI x3), .int k1, .int k2, .ref b_64]))]) (pl := va_pl L M) hP hD [1] [0] rfl rfl (by decide) (by decide) hk1 hFc hP1 hD1
                  have hP : va_P D vwCl ([(xa, .inr (11, [.ref x0, .int (nI x1), .ref x2, .int (nI x3), .ref x4, .ref x5, .ref x6, .int x7, .ref x8, .int x9, .int x10])), (q_74, .inr (4, [.int (nI x3), .int k1, .int k2, .ref b_64]))] ++ va_pl L M) H_76 := hP
                  have hD : va_D A ([(xa, .inr (11, [.ref x0, .int (nI x1), .ref x2, .int (nI x3), .ref x4, .ref x5, .ref x6, .int x7, .ref x8, .int x9, .int x10])), (q_74, .inr (4, [.int (nI x3), .int k1, .int k2, .ref b_64]))] ++ va_pl L M) := hD
                  have hP : va_P D vwCl (([(xa, .inr (11, [.ref x0, .int (nI x1), .ref x2, .int (nI x3), .ref x4, .ref x5, .ref x6, .int x7, .ref x8, .int x9, .int x10]))] ++ [(q_74, .inr (4, [.int (nI x3), .int k1, .int k2, .ref b_64]))]) ++ va_pl L M) H_76 := hP.part (cx := [(xa, .inr (11, [.ref x0, .int (nI x1), .ref x2, .int (nI x3), .ref x4, .ref x5, .ref x6, .int x7, .ref x8, .int x9, .int x10]))] ++ [(q_74, .inr (4, [.int (nI x3), .int k1, .int k2, .ref b_64]))]) [0, 1] rfl
                  have hD : va_D A (([(xa, .inr (11, [.ref x0, .int (nI x1), .ref x2, .int (nI x3), .ref x4, .ref x5, .ref x6, .int x7, .ref x8, .int x9, .int x10]))] ++ [(q_74, .inr (4, [.int (nI x3), .int k1, .int k2, .ref b_64]))]) ++ va_pl L M) := hD.part (cx := [(xa, .inr (11, [.ref x0, .int (nI x1), .ref x2, .int (nI x3), .ref x4, .ref x5, .ref x6, .int x7, .ref x8, .int x9, .int x10]))] ++ [(q_74, .inr (4, [.int (nI x3), .int k1, .int k2, .ref b_64]))]) [0, 1] (by decide) rfl
                  obtain ⟨K9, L9, M_80, hx9, i_81, hW, hP, hD, hM_82, hfr9, hq9⟩ := adoptE 4 0 hP hD hW (fun K' L' x i => (⟨(nI x3), k1, k2, (some b_64), rfl, iskN.some (hb_70.ext x)⟩ : gd_4 K' L' _))
                  have hF : fr K0 L0 [19] M0 M_80 := hF.adX hX0 hfr9
                  have hX0 := hX0.tr hx9
                  have i_83 := i0.ext hx9
                  have i_84 := i2.ext hx9
                  have i_85 := i4.ext hx9
                  have i_86 := i5.ext hx9
                  have i_87 := i6.ext hx9
                  have i_88 := i8.ext hx9
                  have i_89 := hb_70.ext hx9
                  obtain ⟨K, L, hK9, hL9⟩ : ∃ (K : Kp) (L : List Nat), K = K9 ∧ L = L9 := ⟨_, _, rfl, rfl⟩
                  subst hK9
                  subst hL9
                  have hP : va_P D vwCl ([(xa, .inr (11, [.ref x0, .int (nI x1), .ref x2, .int (nI x3), .ref x4, .ref x5, .ref x6, .int x7, .ref x8, .int x9, .int x10]))] ++ va_pl L M_80) H_76 := hP
                  have hD : va_D A ([(xa, .inr (11, [.ref x0, .int (nI x1), .ref x2, .int (nI x3), .ref x4, .ref x5, .ref x6, .int x7, .ref x8, .int x9, .int x10]))] ++ va_pl L M_80) := hD
                  obtain ⟨f90, hM90, hf90⟩ := hW.open_19 i_84
                  obtain ⟨v92_0, v92_1, v92_2, v92_3, hM92, h92_3⟩ := hW.open_4 i_81
                  refine pg_astq (r := (RX4, TX4, 4)) hx hb hK hP hD hS i_84.1 5 4 hM90 rfl i_81.1 hM92 rfl (inbN x3 40 (by omega) (by omega)) dX11_partner_107 (fun H_91 locs hP hD hS => ?_)
                  obtain ⟨M_93, eM_93⟩ : ∃ M1 : Hp, M1 = va_up M_80 x2 (.inl (cy 19, 40, .inr (.inr (.inr (.inr (va_up f90 ((nI x3) : Int32).toNatClampNeg (some q_74))))))) := ⟨_, rfl⟩
                  have hP : va_P D vwCl ([(xa, .inr (11, [.ref x0, .int (nI x1), .ref x2, .int (nI x3), .ref x4, .ref x5, .ref x6, .int x7, .ref x8, .int x9, .int x10]))] ++ va_pl L M_93) H_91 := by rw [eM_93]; exact hP
                  have hD : va_D A ([(xa, .inr (11, [.ref x0, .int (nI x1), .ref x2, .int (nI x3), .ref x4, .ref x5, .ref x6, .int x7, .ref x8, .int x9, .int x10]))] ++ va_pl L M_93) := by rw [eM_93]; exact hD
                  have hW : WOK cy K L M_93 := by rw [eM_93]; exact hW.up_19 i_84 ⟨_, rfl, (upN hf90 i_81)⟩
                  have hF : fr K0 L0 [19] M0 M_93 := by rw [eM_93]; exact hF.upX hX0 i_84 (by decide)
                  have hM_94 : M_93 x2 = .inl (cy 19, 40, .inr (.inr (.inr (.inr (va_up f90 ((nI x3) : Int32).toNatClampNeg (some q_74)))))) := by rw [eM_93]; exact va_up_self _ _ _
                  have hM_95 : M_93 q_74 = .inr (4, [.int v92_0, .int v92_1, .int v92_2, va_rf v92_3]) := by rw [eM_93, va_up_ne _ _ (i_81.neT i_84 (by decide))]; exact hM92
                  have hf_97 : ∀ j, j < 40 → iskN K L ((va_up f90 ((nI x3) : Int32).toNatClampNeg (some q_74)) j) 4 0 := (upN hf90 i_81)
                  obtain ⟨f_96, ef_96⟩ : ∃ f : Nat → Option Nat, f = va_up f90 ((nI x3) : Int32).toNatClampNeg (some q_74) := ⟨_, rfl⟩
                  rw [← ef_96] at hM_94 hf_97
                  have hk_98 : f_96 ((nI x3) : Int32).toNatClampNeg = some q_74 := by rw [ef_96]; exact va_up_self _ _ _
                  clear ef_96
                  refine lv_aload_n hx hb dX11_partner_108 rfl (lv_at hl 1 rfl) ?_
                  refine lv_dup hx hb dX11_partner_109 rfl ?_
                  refine va_get (D := D) (ci := 11) (v := .int (nI x3)) (C := RX11) (T := TX11) (N := 11) hx hb hg inG11 hown hK hP 0 rfl rfl 3 (by decide) (hg _ wd_338) (fun _ h9 => h9) rfl dX11_partner_110 ?_
                  refine lv_iconst (v := 1) hx hb dX11_partner_113 (by decide) ?_
                  refine lv_iadd hx hb dX11_partner_114 ?_
                  refine lv_topi (fun f_99 ef_99 => ?_)
                  obtain rfl : f_99 = (nI (x3 + 1)) := ef_99.trans (nI_add x3 1)
                  refine va_put (D := D) (ci := 11) (v := .int (nI (x3 + 1))) (ty := .int) (C := RX11) (T := TX11) (N := 11) hx hb hg inG11 tyX11 tyX11_ok nmX11 hown hK hP hD hS 0 rfl rfl 3 (by decide) (hg _ wd_338) (fun _ h9 => h9) rfl (by decide +kernel) rfl rfl (Nat.le_of_ble_eq_true rfl) dX11_partner_115 (fun H_100 locs hP hD hS => ?_)
                  have hP : va_P D vwCl ([(xa, .inr (11, [.ref x0, .int (nI x1), .ref x2, .int (nI (x3 + 1)), .ref x4, .ref x5, .ref x6, .int x7, .ref x8, .int x9, .int x10]))] ++ va_pl L M_93) H_100 := hP
                  have hD : va_D A ([(xa, .inr (11, [.ref x0, .int (nI x1), .ref x2, .int (nI (x3 + 1)), .ref x4, .ref x5, .ref x6, .int x7, .ref x8, .int x9, .int x10]))] ++ va_pl L M_93) := hD
                  refine lv_aload_n hx hb dX11_partner_118 rfl (lv_at hl 1 rfl) ?_
                  refine lv_aload_n hx hb dX11_partner_119 rfl (lv_at hl 1 rfl) ?_
                  refine va_get (D := D) (ci := 11) (v := .int (nI (x3 + 1))) (C := RX11) (T := TX11) (N := 11) hx hb hg inG11 hown hK hP 0 rfl rfl 3 (by decide) (hg _ wd_338) (fun _ h9 => h9) rfl dX11_partner_120 ?_
                  refine lv_iconst (v := 1) hx hb dX11_partner_123 (by decide) ?_
                  refine lv_isub hx hb dX11_partner_124 ?_
                  refine lv_topi (fun f_101 ef_101 => ?_)
                  obtain rfl : f_101 = (nI ((x3 + 1) - 1)) := ef_101.trans (nI_prd (by omega))
                  have hPc := hP.sub (ws' := [(xa, .inr (11, [.ref x0, .int (nI x1), .ref x2, .int (nI (x3 + 1)), .ref x4, .ref x5, .ref x6, .int x7, .ref x8, .int x9, .int x10]))]) [0] rfl
                  have hDc := hD.sub (ws' := [(xa, .inr (11, [.ref x0, .int (nI x1), .ref x2, .int (nI (x3 + 1)), .ref x4, .ref x5, .ref x6, .int x7, .ref x8, .int x9, .int x10]))]) [0] (by decide) rfl
                  have hKc := hK.sub (tys' := []) [] rfl
                  have hFc := va_free (wc := [(xa, .inr (11, [.ref x0, .int (nI x1), .ref x2, .int (nI (x3 + 1)), .ref x4, .ref x5, .ref x6, .int x7, .ref x8, .int x9, .int x10]))]) hD hS hA [0] rfl
                  refine va_calli (va_runV (As := [.int (nI ((x3 + 1) - 1))]) (rest := []) ⟨hx, hb, hml, hown, hg⟩ (k_accept l D H_100.size xa x0 (nI x1) x2 (nI (x3 + 1)) x4 x5 x6 x7 x8 x9 x10 (nI ((x3 + 1) - 1))) (cwV 1 hg (gV wd_356 wd_357 wd_358 wd_3 wd_359) rfl rfl rfl (by decide +kernel) ⟨(Nat.le_trans (Nat.le_of_ble_eq_true rfl) hRf), (Nat.le_trans (Nat.le_of_ble_eq_true rfl) hRl)⟩) ⟨Pr.blind, va_recv hK hP (ci := 11) (q0 := 0) rfl rfl, fun U hU hW => ⟨rfl, Pr.at hPc hKc hDc hN hU hW⟩⟩ rfl rfl hl.1 rfl (lv_room (Nat.le_of_ble_eq_true rfl)) dX11_partner_125 ⟨(Nat.le_trans (Nat.le_of_ble_eq_true rfl) hRc), (Nat.le_trans (Nat.le_of_ble_eq_true rfl) hRs)⟩) hS (fun q _ h => hFc q h) hFc (fun r_103 M_104 t H_102 locs ht hvm hw hB hz1 hk1 hS => ?_)
                  have hp_105 := hw
                  obtain ⟨hP1, hK1, hD1⟩ := hB
                  rw [ht] at hP1
                  obtain ⟨hP, hD⟩ := va_joinQ (X := [(xa, .inr (11, [.ref x0, .int (nI x1), .ref x2, .int (nI (x3 + 1)), .ref x4, .ref x5, .ref x6, .int x7, .ref x8, .int x9, .int x10]))]) (cx := [(xa, .inr (11, [.ref x0, .int (nI x1), .ref x2, .int (nI (x3 + 1)), .ref x4, .ref x5, .ref x6, .int x7, .ref x8, .int x9, .int x10]))]) (wr := []) (w1 := [(xa, .inr (11, [.ref x0, .int (nI x1), .ref x2, .int (nI (x3 + 1)), .ref x4, .ref x5, .ref x6, .int x7, .ref x8, .int 0, .int (-1)]))]) (pl := va_pl L M_93) hP hD [0] [] rfl rfl (by decide) (by decide) hk1 hFc hP1 hD1
                  have hP : va_P D vwCl ([(xa, .inr (11, [.ref x0, .int (nI x1), .ref x2, .int (nI (x3 + 1)), .ref x4, .ref x5, .ref x6, .int x7, .ref x8, .int 0, .int (-1)]))] ++ va_pl L M_93) H_102 := hP
                  have hD : va_D A ([(xa, .inr (11, [.ref x0, .int (nI x1), .ref x2, .int (nI (x3 + 1)), .ref x4, .ref x5, .ref x6, .int x7, .ref x8, .int 0, .int (-1)]))] ++ va_pl L M_93) := hD
                  have hq := Eq.symm hp_105
                  subst hq
                  have hE : cntQ k1 k2 x1 x3 = (x3 + 1) := by unfold cntQ; rw [if_pos ⟨⟨c_1, c_6, (fun _ => ⟨c_14, c_19⟩), (fun _ => (fun q => absurd (hqx.mpr q) (by intro z; cases z)))⟩, by omega⟩]
                  have hP : va_P D vwCl ([(xa, .inr (11, [.ref x0, .int (nI x1), .ref x2, .int (nI (cntQ k1 k2 x1 x3)), .ref x4, .ref x5, .ref x6, .int x7, .ref x8, .int 0, .int (-1)]))] ++ va_pl L M_93) H_102 := by rw [hE]; exact hP
                  have hD : va_D A ([(xa, .inr (11, [.ref x0, .int (nI x1), .ref x2, .int (nI (cntQ k1 k2 x1 x3)), .ref x4, .ref x5, .ref x6, .int x7, .ref x8, .int 0, .int (-1)]))] ++ va_pl L M_93) := by rw [hE]; exact hD
                  rw [hQ]
                  exact W.iret (v := (nI ((x3 + 1) - 1))) hx hb hr (fun t ht hW9 => ⟨⟨(nI ((x3 + 1) - 1)), (K, L, M_93), rfl, ⟨hX0, hW, hF, (by unfold ansP; rw [if_pos ⟨⟨c_1, c_6, (fun _ => ⟨c_14, c_19⟩), (fun _ => (fun q => absurd (hqx.mpr q) (by intro z; cases z)))⟩, by omega⟩]; first | done | rfl)⟩, ⟨0, (-1), by rw [ht]; exact hP, hD⟩⟩, hS.F ht⟩) hS.2.2 dX11_partner_128
                · have hz := rfl (a := 0)
                  have n_106 : ¬ (x3 < 40) := fun q => c_72 ((iLT (a := x3) (b := 40) (by omega) (by omega)).mpr q)
                  refine lv_aload_n hx hb dX11_partner_78 rfl (lv_at hl 1 rfl) ?_
                  refine lv_bipush (v := 9) hx hb dX11_partner_79 (by decide) ?_
                  have hPc := hP.sub (ws' := [(xa, .inr (11, [.ref x0, .int (nI x1), .ref x2, .int (nI x3), .ref x4, .ref x5, .ref x6, .int x7, .ref x8, .int x9, .int x10]))]) [0] rfl
                  have hDc := hD.sub (ws' := [(xa, .inr (11, [.ref x0, .int (nI x1), .ref x2, .int (nI x3), .ref x4, .ref x5, .ref x6, .int x7, .ref x8, .int x9, .int x10]))]) [0] (by decide) rfl
                  have hKc := hK.sub (tys' := []) [] rfl
                  have hFc := va_free (wc := [(xa, .inr (11, [.ref x0, .int (nI x1), .ref x2, .int (nI x3), .ref x4, .ref x5, .ref x6, .int x7, .ref x8, .int x9, .int x10]))]) hD hS hA [0] rfl
                  refine va_calli (va_runV (As := [.int 9]) (rest := []) ⟨hx, hb, hml, hown, hg⟩ (k_refuse l D H_60.size xa x0 (nI x1) x2 (nI x3) x4 x5 x6 x7 x8 x9 x10 9) (cwV 1 hg (gV wd_344 wd_345 wd_346 wd_3 wd_347) rfl rfl rfl (by decide +kernel) ⟨(Nat.le_trans (Nat.le_of_ble_eq_true rfl) hRf), (Nat.le_trans (Nat.le_of_ble_eq_true rfl) hRl)⟩) ⟨Pr.blind, va_recv hK hP (ci := 11) (q0 := 0) rfl rfl, fun U hU hW => ⟨rfl, Pr.at hPc hKc hDc hN hU hW⟩⟩ rfl rfl hl.1 rfl (lv_room (Nat.le_of_ble_eq_true rfl)) dX11_partner_81 ⟨(Nat.le_trans (Nat.le_of_ble_eq_true rfl) hRc), (Nat.le_trans (Nat.le_of_ble_eq_true rfl) hRs)⟩) hS (fun q _ h => hFc q h) hFc (fun r_108 M_109 t H_107 locs ht hvm hw hB hz1 hk1 hS => ?_)
                  have hp_110 := hw
                  obtain ⟨hP1, hK1, hD1⟩ := hB
                  rw [ht] at hP1
                  obtain ⟨hP, hD⟩ := va_joinQ (X := [(xa, .inr (11, [.ref x0, .int (nI x1), .ref x2, .int (nI x3), .ref x4, .ref x5, .ref x6, .int x7, .ref x8, .int x9, .int x10]))]) (cx := [(xa, .inr (11, [.ref x0, .int (nI x1), .ref x2, .int (nI x3), .ref x4, .ref x5, .ref x6, .int x7, .ref x8, .int x9, .int x10]))]) (wr := []) (w1 := [(xa, .inr (11, [.ref x0, .int (nI x1), .ref x2, .int (nI x3), .ref x4, .ref x5, .ref x6, .int x7, .ref x8, .int 9, .int (-1)]))]) (pl := va_pl L M) hP hD [0] [] rfl rfl (by decide) (by decide) hk1 hFc hP1 hD1
                  have hP : va_P D vwCl ([(xa, .inr (11, [.ref x0, .int (nI x1), .ref x2, .int (nI x3), .ref x4, .ref x5, .ref x6, .int x7, .ref x8, .int 9, .int (-1)]))] ++ va_pl L M) H_107 := hP
                  have hD : va_D A ([(xa, .inr (11, [.ref x0, .int (nI x1), .ref x2, .int (nI x3), .ref x4, .ref x5, .ref x6, .int x7, .ref x8, .int 9, .int (-1)]))] ++ va_pl L M) := hD
                  have hq := Eq.symm hp_110
                  subst hq
                  refine W.widen (k := 1) (n := 4) (Nat.le_of_ble_eq_true rfl) (Nat.le_of_ble_eq_true rfl) ?_
                  have hE : cntQ k1 k2 x1 x3 = x3 := by unfold cntQ; rw [if_neg (fun q => absurd q.2 (by omega))]
                  have hP : va_P D vwCl ([(xa, .inr (11, [.ref x0, .int (nI x1), .ref x2, .int (nI (cntQ k1 k2 x1 x3)), .ref x4, .ref x5, .ref x6, .int x7, .ref x8, .int 9, .int (-1)]))] ++ va_pl L M) H_107 := by rw [hE]; exact hP
                  have hD : va_D A ([(xa, .inr (11, [.ref x0, .int (nI x1), .ref x2, .int (nI (cntQ k1 k2 x1 x3)), .ref x4, .ref x5, .ref x6, .int x7, .ref x8, .int 9, .int (-1)]))] ++ va_pl L M) := by rw [hE]; exact hD
                  rw [hQ]
                  exact W.iret (v := (-1)) hx hb hr (fun t ht hW9 => ⟨⟨(-1), (K, L, M), rfl, ⟨hX0, hW, hF, (by unfold ansP; rw [if_neg (fun q => absurd q.2 (by omega))]; first | done | rfl)⟩, ⟨9, (-1), by rw [ht]; exact hP, hD⟩⟩, hS.F ht⟩) hS.2.2 dX11_partner_84
          · have hz := rfl (a := 0)
            refine lv_aload_n hx hb dX11_partner_33 rfl (lv_at hl 0 rfl) ?_
            refine lv_iconst (v := 2) hx hb dX11_partner_34 (by decide) ?_
            have hPc := hP.sub (ws' := [(xa, .inr (11, [.ref x0, .int (nI x1), .ref x2, .int (nI x3), .ref x4, .ref x5, .ref x6, .int x7, .ref x8, .int x9, .int x10]))]) [0] rfl
            have hDc := hD.sub (ws' := [(xa, .inr (11, [.ref x0, .int (nI x1), .ref x2, .int (nI x3), .ref x4, .ref x5, .ref x6, .int x7, .ref x8, .int x9, .int x10]))]) [0] (by decide) rfl
            have hKc := hK.sub (tys' := []) [] rfl
            have hFc := va_free (wc := [(xa, .inr (11, [.ref x0, .int (nI x1), .ref x2, .int (nI x3), .ref x4, .ref x5, .ref x6, .int x7, .ref x8, .int x9, .int x10]))]) hD hS hA [0] rfl
            refine va_calli (va_runV (As := [.int 2]) (rest := []) ⟨hx, hb, hml, hown, hg⟩ (k_refuse l D H_7.size xa x0 (nI x1) x2 (nI x3) x4 x5 x6 x7 x8 x9 x10 2) (cwV 1 hg (gV wd_344 wd_345 wd_346 wd_3 wd_347) rfl rfl rfl (by decide +kernel) ⟨(Nat.le_trans (Nat.le_of_ble_eq_true rfl) hRf), (Nat.le_trans (Nat.le_of_ble_eq_true rfl) hRl)⟩) ⟨Pr.blind, va_recv hK hP (ci := 11) (q0 := 0) rfl rfl, fun U hU hW => ⟨rfl, Pr.at hPc hKc hDc hN hU hW⟩⟩ rfl rfl hl.1 rfl (lv_room (Nat.le_of_ble_eq_true rfl)) dX11_partner_35 ⟨(Nat.le_trans (Nat.le_of_ble_eq_true rfl) hRc), (Nat.le_trans (Nat.le_of_ble_eq_true rfl) hRs)⟩) hS (fun q _ h => hFc q h) hFc (fun r_112 M_113 t H_111 locs ht hvm hw hB hz1 hk1 hS => ?_)
            have hp_114 := hw
            obtain ⟨hP1, hK1, hD1⟩ := hB
            rw [ht] at hP1
            obtain ⟨hP, hD⟩ := va_joinQ (X := [(xa, .inr (11, [.ref x0, .int (nI x1), .ref x2, .int (nI x3), .ref x4, .ref x5, .ref x6, .int x7, .ref x8, .int x9, .int x10]))]) (cx := [(xa, .inr (11, [.ref x0, .int (nI x1), .ref x2, .int (nI x3), .ref x4, .ref x5, .ref x6, .int x7, .ref x8, .int x9, .int x10]))]) (wr := []) (w1 := [(xa, .inr (11, [.ref x0, .int (nI x1), .ref x2, .int (nI x3), .ref x4, .ref x5, .ref x6, .int x7, .ref x8, .int 2, .int (-1)]))]) (pl := va_pl L M) hP hD [0] [] rfl rfl (by decide) (by decide) hk1 hFc hP1 hD1
            have hP : va_P D vwCl ([(xa, .inr (11, [.ref x0, .int (nI x1), .ref x2, .int (nI x3), .ref x4, .ref x5, .ref x6, .int x7, .ref x8, .int 2, .int (-1)]))] ++ va_pl L M) H_111 := hP
            have hD : va_D A ([(xa, .inr (11, [.ref x0, .int (nI x1), .ref x2, .int (nI x3), .ref x4, .ref x5, .ref x6, .int x7, .ref x8, .int 2, .int (-1)]))] ++ va_pl L M) := hD
            have hq := Eq.symm hp_114
            subst hq
            refine W.widen (k := 1) (n := 4) (Nat.le_of_ble_eq_true rfl) (Nat.le_of_ble_eq_true rfl) ?_
            have hE : cntQ k1 k2 x1 x3 = x3 := by unfold cntQ; rw [if_neg (fun q => c_19 (q.1.2.2.1 c_11).2)]
            have hP : va_P D vwCl ([(xa, .inr (11, [.ref x0, .int (nI x1), .ref x2, .int (nI (cntQ k1 k2 x1 x3)), .ref x4, .ref x5, .ref x6, .int x7, .ref x8, .int 2, .int (-1)]))] ++ va_pl L M) H_111 := by rw [hE]; exact hP
            have hD : va_D A ([(xa, .inr (11, [.ref x0, .int (nI x1), .ref x2, .int (nI (cntQ k1 k2 x1 x3)), .ref x4, .ref x5, .ref x6, .int x7, .ref x8, .int 2, .int (-1)]))] ++ va_pl L M) := by rw [hE]; exact hD
            rw [hQ]
            exact W.iret (v := (-1)) hx hb hr (fun t ht hW9 => ⟨⟨(-1), (K, L, M), rfl, ⟨hX0, hW, hF, (by unfold ansP; rw [if_neg (fun q => c_19 (q.1.2.2.1 c_11).2)]; first | done | rfl)⟩, ⟨2, (-1), by rw [ht]; exact hP, hD⟩⟩, hS.F ht⟩) hS.2.2 dX11_partner_38
      · have hz := rfl (a := 0)
        refine lv_if_eq (tgt := 39) hx hb dX11_partner_20 (by decide) (fun _ => ?_) (fun c_115 => absurd c_115 (by decide))
        refine lv_iload_n hx hb dX11_partner_39 rfl (lv_at hl 1 rfl) ?_
        refine lv_iconst (v := 5) hx hb dX11_partner_40 (by decide) ?_
        refine lv_icmp_ne (tgt := 52) hx hb dX11_partner_41 (by decide) (fun c_116 => ?_) (fun c_116 => ?_)
        · have hz := rfl (a := 0)
          refine lv_null hx hb dX11_partner_52 ?_
          refine lv_astore_nN (lv' := [(3, .null), (0, .ref xa), (1, .int k1), (2, .int k2)]) hx hb dX11_partner_53 rfl hl (by decide) rfl (fun ls hl => ?_)
          refine lv_iload_n hx hb dX11_partner_54 rfl (lv_at hl 2 rfl) ?_
          refine lv_iconst (v := 5) hx hb dX11_partner_55 (by decide) ?_
          refine lv_icmp_ne (tgt := 69) hx hb dX11_partner_56 (by decide) (fun c_117 => ?_) (fun c_117 => absurd c_117 c_116)
          refine lv_aload_n hx hb dX11_partner_69 rfl (lv_at hl 1 rfl) ?_
          refine va_get (D := D) (ci := 11) (v := .int (nI x3)) (C := RX11) (T := TX11) (N := 11) hx hb hg inG11 hown hK hP 0 rfl rfl 3 (by decide) (hg _ wd_338) (fun _ h9 => h9) rfl dX11_partner_70 ?_
          refine lv_bipush (v := 40) hx hb dX11_partner_73 (by decide) ?_
          refine lv_icmp_lt (tgt := 85) hx hb dX11_partner_75 (by decide) (fun c_118 => ?_) (fun c_118 => ?_)
          · have hz := rfl (a := 0)
            have n_119 : x3 < 40 := (iLT (a := x3) (b := 40) (by omega) (by omega)).mp c_118
            refine lv_aload_n hx hb dX11_partner_85 rfl (lv_at hl 1 rfl) ?_
            refine va_get (D := D) (ci := 11) (v := .ref x2) (C := RX11) (T := TX11) (N := 11) hx hb hg inG11 hown hK hP 0 rfl rfl 2 (by decide) (hg _ wd_339) (fun _ h9 => h9) rfl dX11_partner_86 ?_
            refine lv_aload_n hx hb dX11_partner_89 rfl (lv_at hl 1 rfl) ?_
            refine va_get (D := D) (ci := 11) (v := .int (nI x3)) (C := RX11) (T := TX11) (N := 11) hx hb hg inG11 hown hK hP 0 rfl rfl 3 (by decide) (hg _ wd_338) (fun _ h9 => h9) rfl dX11_partner_90 ?_
            refine va_new (ci := 4) (fs := [.int 0, .int 0, .int 0, .null]) (C := RX4) (T := TX4) (N := 4) hx hb hg inG4 tyX4 tyX4_ok hown (hg _ wd_587) (hg _ wd_588) (hg _ wd_30) hK hP hD hS hA rfl dfX4 (Nat.le_trans (Nat.le_of_ble_eq_true rfl) hRc) (Nat.le_trans (Nat.le_of_ble_eq_true rfl) hRs) dX11_partner_93 (fun q_120 H_121 hP hD hS => ?_)
            have hP : va_P D vwCl ([(xa, .inr (11, [.ref x0, .int (nI x1), .ref x2, .int (nI x3), .ref x4, .ref x5, .ref x6, .int x7, .ref x8, .int x9, .int x10])), (q_120, .inr (4, [.int 0, .int 0, .int 0, .null]))] ++ va_pl L M) H_121 := hP.swap
            have hD : va_D A ([(xa, .inr (11, [.ref x0, .int (nI x1), .ref x2, .int (nI x3), .ref x4, .ref x5, .ref x6, .int x7, .ref x8, .int x9, .int x10])), (q_120, .inr (4, [.int 0, .int 0, .int 0, .null]))] ++ va_pl L M) := hD.swap
            refine W.widen (k := 1) (n := 4) (Nat.le_of_ble_eq_true rfl) (Nat.le_of_ble_eq_true rfl) ?_
            refine lv_dup hx hb dX11_partner_96 rfl ?_
            refine lv_aload_n hx hb dX11_partner_97 rfl (lv_at hl 1 rfl) ?_
            refine va_get (D := D) (ci := 11) (v := .int (nI x3)) (C := RX11) (T := TX11) (N := 11) hx hb hg inG11 hown hK hP 0 rfl rfl 3 (by decide) (hg _ wd_338) (fun _ h9 => h9) rfl dX11_partner_98 ?_
            refine lv_iload_n hx hb dX11_partner_101 rfl (lv_at hl 2 rfl) ?_
            refine lv_iload_n hx hb dX11_partner_102 rfl (lv_at hl 3 rfl) ?_
            refine lv_aload_nN hx hb dX11_partner_103 rfl (lv_at hl 0 rfl) ?_
            have hPc := hP.sub (ws' := [(q_120, .inr (4, [.int 0, .int 0, .int 0, .null]))]) [1] rfl
            have hDc := hD.sub (ws' := [(q_120, .inr (4, [.int 0, .int 0, .int 0, .null]))]) [1] (by decide) rfl
            have hKc := hK.sub (tys' := []) [] rfl
            have hFc := va_free (wc := [(q_120, .inr (4, [.int 0, .int 0, .int 0, .null]))]) hD hS hA [1] rfl
            refine va_callv (va_runI (As := [.int (nI x3), .int k1, .int k2, .null]) (rest := [.ref q_120, .int (nI x3), .ref x2]) ⟨hx, hb, hml, hown, hg⟩ (k_Partner_n l D H_121.size q_120 (nI x3) k1 k2) (cwI 4 hg (gB wd_589) rfl rfl rfl (hg _ wd_30) (hg _ wd_590) (hg _ wd_591) rfl (by decide +kernel) ⟨(Nat.le_trans (Nat.le_of_ble_eq_true rfl) hRf), (Nat.le_trans (Nat.le_of_ble_eq_true rfl) hRl)⟩) ⟨Pr.blind, fun U hU hW => ⟨rfl, Pr.at hPc hKc hDc hN hU hW⟩⟩ rfl rfl hl.1 rfl (lv_room (Nat.le_of_ble_eq_true rfl)) dX11_partner_104 ⟨(Nat.le_trans (Nat.le_of_ble_eq_true rfl) hRc), (Nat.le_trans (Nat.le_of_ble_eq_true rfl) hRs)⟩) hS (fun q _ h => hFc q h) hFc (fun M_124 t H_122 locs ht hvm hw hB hz1 hk1 hS => ?_)
            have hp_125 := hw
            obtain ⟨hP1, hK1, hD1⟩ := hB
            rw [ht] at hP1
            obtain ⟨hP, hD⟩ := va_joinQ (X := [(xa, .inr (11, [.ref x0, .int (nI x1), .ref x2, .int (nI x3), .ref x4, .ref x5, .ref x6, .int x7, .ref x8, .int x9, .int x10])), (q_120, .inr (4, [.int 0, .int 0, .int 0, .null]))]) (cx := [(q_120, .inr (4, [.int 0, .int 0, .int 0, .null]))]) (wr := [(xa, .inr (11, [.ref x0, .int (nI x1), .ref x2, .int (nI x3), .ref x4, .ref x5, .ref x6, .int x7, .ref x8, .int x9, .int x10]))]) (w1 := [(q_120, .inr (4, [.int (nI x3), .int k1, .int k2, .null]))]) (pl := va_pl L M) hP hD [1] [0] rfl rfl (by decide) (by decide) hk1 hFc hP1 hD1
            have hP : va_P D vwCl ([(xa, .inr (11, [.ref x0, .int (nI x1), .ref x2, .int (nI x3), .ref x4, .ref x5, .ref x6, .int x7, .ref x8, .int x9, .int x10])), (q_120, .inr (4, [.int (nI x3), .int k1, .int k2, .null]))] ++ va_pl L M) H_122 := hP
            have hD : va_D A ([(xa, .inr (11, [.ref x0, .int (nI x1), .ref x2, .int (nI x3), .ref x4, .ref x5, .ref x6, .int x7, .ref x8, .int x9, .int x10])), (q_120, .inr (4, [.int (nI x3), .int k1, .int k2, .null]))] ++ va_pl L M) := hD
            have hP : va_P D vwCl (([(xa, .inr (11, [.ref x0, .int (nI x1), .ref x2, .int (nI x3), .ref x4, .ref x5, .ref x6, .int x7, .ref x8, .int x9, .int x10]))] ++ [(q_120, .inr (4, [.int (nI x3), .int k1, .int k2, .null]))]) ++ va_pl L M) H_122 := hP.part (cx := [(xa, .inr (11, [.ref x0, .int (nI x1), .ref x2, .int (nI x3), .ref x4, .ref x5, .ref x6, .int x7, .ref x8, .int x9, .int x10]))] ++ [(q_120, .inr (4, [.int (nI x3), .int k1, .int k2, .null]))]) [0, 1] rfl
            have hD : va_D A (([(xa, .inr (11, [.ref x0, .int (nI x1), .ref x2, .int (nI x3), .ref x4, .ref x5, .ref x6, .int x7, .ref x8, .int x9, .int x10]))] ++ [(q_120, .inr (4, [.int (nI x3), .int k1, .int k2, .null]))]) ++ va_pl L M) := hD.part (cx := [(xa, .inr (11, [.ref x0, .int (nI x1), .ref x2, .int (nI x3), .ref x4, .ref x5, .ref x6, .int x7, .ref x8, .int x9, .int x10]))] ++ [(q_120, .inr (4, [.int (nI x3), .int k1, .int k2, .null]))]) [0, 1] (by decide) rfl
            obtain ⟨K9, L9, M_126, hx9, i_127, hW, hP, hD, hM_128, hfr9, hq9⟩ := adoptE 4 0 hP hD hW (fun K' L' x i => (⟨(nI x3), k1, k2, none, rfl, iskN.none⟩ : gd_4 K' L' _))
            have hF : fr K0 L0 [19] M0 M_126 := hF.adX hX0 hfr9
            have hX0 := hX0.tr hx9
            have i_129 := i0.ext hx9
            have i_130 := i2.ext hx9
            have i_131 := i4.ext hx9
            have i_132 := i5.ext hx9
            have i_133 := i6.ext hx9
            have i_134 := i8.ext hx9
            obtain ⟨K, L, hK9, hL9⟩ : ∃ (K : Kp) (L : List Nat), K = K9 ∧ L = L9 := ⟨_, _, rfl, rfl⟩
            subst hK9
            subst hL9
            have hP : va_P D vwCl ([(xa, .inr (11, [.ref x0, .int (nI x1), .ref x2, .int (nI x3), .ref x4, .ref x5, .ref x6, .int x7, .ref x8, .int x9, .int x10]))] ++ va_pl L M_126) H_122 := hP
            have hD : va_D A ([(xa, .inr (11, [.ref x0, .int (nI x1), .ref x2, .int (nI x3), .ref x4, .ref x5, .ref x6, .int x7, .ref x8, .int x9, .int x10]))] ++ va_pl L M_126) := hD
            obtain ⟨f135, hM135, hf135⟩ := hW.open_19 i_130
            obtain ⟨v137_0, v137_1, v137_2, v137_3, hM137, h137_3⟩ := hW.open_4 i_127
            refine pg_astq (r := (RX4, TX4, 4)) hx hb hK hP hD hS i_130.1 5 4 hM135 rfl i_127.1 hM137 rfl (inbN x3 40 (by omega) (by omega)) dX11_partner_107 (fun H_136 locs hP hD hS => ?_)
            obtain ⟨M_138, eM_138⟩ : ∃ M1 : Hp, M1 = va_up M_126 x2 (.inl (cy 19, 40, .inr (.inr (.inr (.inr (va_up f135 ((nI x3) : Int32).toNatClampNeg (some q_120))))))) := ⟨_, rfl⟩
            have hP : va_P D vwCl ([(xa, .inr (11, [.ref x0, .int (nI x1), .ref x2, .int (nI x3), .ref x4, .ref x5, .ref x6, .int x7, .ref x8, .int x9, .int x10]))] ++ va_pl L M_138) H_136 := by rw [eM_138]; exact hP
            have hD : va_D A ([(xa, .inr (11, [.ref x0, .int (nI x1), .ref x2, .int (nI x3), .ref x4, .ref x5, .ref x6, .int x7, .ref x8, .int x9, .int x10]))] ++ va_pl L M_138) := by rw [eM_138]; exact hD
            have hW : WOK cy K L M_138 := by rw [eM_138]; exact hW.up_19 i_130 ⟨_, rfl, (upN hf135 i_127)⟩
            have hF : fr K0 L0 [19] M0 M_138 := by rw [eM_138]; exact hF.upX hX0 i_130 (by decide)
            have hM_139 : M_138 x2 = .inl (cy 19, 40, .inr (.inr (.inr (.inr (va_up f135 ((nI x3) : Int32).toNatClampNeg (some q_120)))))) := by rw [eM_138]; exact va_up_self _ _ _
            have hM_140 : M_138 q_120 = .inr (4, [.int v137_0, .int v137_1, .int v137_2, va_rf v137_3]) := by rw [eM_138, va_up_ne _ _ (i_127.neT i_130 (by decide))]; exact hM137
            have hf_142 : ∀ j, j < 40 → iskN K L ((va_up f135 ((nI x3) : Int32).toNatClampNeg (some q_120)) j) 4 0 := (upN hf135 i_127)
            obtain ⟨f_141, ef_141⟩ : ∃ f : Nat → Option Nat, f = va_up f135 ((nI x3) : Int32).toNatClampNeg (some q_120) := ⟨_, rfl⟩
            rw [← ef_141] at hM_139 hf_142
            have hk_143 : f_141 ((nI x3) : Int32).toNatClampNeg = some q_120 := by rw [ef_141]; exact va_up_self _ _ _
            clear ef_141
            refine lv_aload_n hx hb dX11_partner_108 rfl (lv_at hl 1 rfl) ?_
            refine lv_dup hx hb dX11_partner_109 rfl ?_
            refine va_get (D := D) (ci := 11) (v := .int (nI x3)) (C := RX11) (T := TX11) (N := 11) hx hb hg inG11 hown hK hP 0 rfl rfl 3 (by decide) (hg _ wd_338) (fun _ h9 => h9) rfl dX11_partner_110 ?_
            refine lv_iconst (v := 1) hx hb dX11_partner_113 (by decide) ?_
            refine lv_iadd hx hb dX11_partner_114 ?_
            refine lv_topi (fun f_144 ef_144 => ?_)
            obtain rfl : f_144 = (nI (x3 + 1)) := ef_144.trans (nI_add x3 1)
            refine va_put (D := D) (ci := 11) (v := .int (nI (x3 + 1))) (ty := .int) (C := RX11) (T := TX11) (N := 11) hx hb hg inG11 tyX11 tyX11_ok nmX11 hown hK hP hD hS 0 rfl rfl 3 (by decide) (hg _ wd_338) (fun _ h9 => h9) rfl (by decide +kernel) rfl rfl (Nat.le_of_ble_eq_true rfl) dX11_partner_115 (fun H_145 locs hP hD hS => ?_)
            have hP : va_P D vwCl ([(xa, .inr (11, [.ref x0, .int (nI x1), .ref x2, .int (nI (x3 + 1)), .ref x4, .ref x5, .ref x6, .int x7, .ref x8, .int x9, .int x10]))] ++ va_pl L M_138) H_145 := hP
            have hD : va_D A ([(xa, .inr (11, [.ref x0, .int (nI x1), .ref x2, .int (nI (x3 + 1)), .ref x4, .ref x5, .ref x6, .int x7, .ref x8, .int x9, .int x10]))] ++ va_pl L M_138) := hD
            refine lv_aload_n hx hb dX11_partner_118 rfl (lv_at hl 1 rfl) ?_
            refine lv_aload_n hx hb dX11_partner_119 rfl (lv_at hl 1 rfl) ?_
            refine va_get (D := D) (ci := 11) (v := .int (nI (x3 + 1))) (C := RX11) (T := TX11) (N := 11) hx hb hg inG11 hown hK hP 0 rfl rfl 3 (by decide) (hg _ wd_338) (fun _ h9 => h9) rfl dX11_partner_120 ?_
            refine lv_iconst (v := 1) hx hb dX11_partner_123 (by decide) ?_
            refine lv_isub hx hb dX11_partner_124 ?_
            refine lv_topi (fun f_146 ef_146 => ?_)
            obtain rfl : f_146 = (nI ((x3 + 1) - 1)) := ef_146.trans (nI_prd (by omega))
            have hPc := hP.sub (ws' := [(xa, .inr (11, [.ref x0, .int (nI x1), .ref x2, .int (nI (x3 + 1)), .ref x4, .ref x5, .ref x6, .int x7, .ref x8, .int x9, .int x10]))]) [0] rfl
            have hDc := hD.sub (ws' := [(xa, .inr (11, [.ref x0, .int (nI x1), .ref x2, .int (nI (x3 + 1)), .ref x4, .ref x5, .ref x6, .int x7, .ref x8, .int x9, .int x10]))]) [0] (by decide) rfl
            have hKc := hK.sub (tys' := []) [] rfl
            have hFc := va_free (wc := [(xa, .inr (11, [.ref x0, .int (nI x1), .ref x2, .int (nI (x3 + 1)), .ref x4, .ref x5, .ref x6, .int x7, .ref x8, .int x9, .int x10]))]) hD hS hA [0] rfl
            refine va_calli (va_runV (As := [.int (nI ((x3 + 1) - 1))]) (rest := []) ⟨hx, hb, hml, hown, hg⟩ (k_accept l D H_145.size xa x0 (nI x1) x2 (nI (x3 + 1)) x4 x5 x6 x7 x8 x9 x10 (nI ((x3 + 1) - 1))) (cwV 1 hg (gV wd_356 wd_357 wd_358 wd_3 wd_359) rfl rfl rfl (by decide +kernel) ⟨(Nat.le_trans (Nat.le_of_ble_eq_true rfl) hRf), (Nat.le_trans (Nat.le_of_ble_eq_true rfl) hRl)⟩) ⟨Pr.blind, va_recv hK hP (ci := 11) (q0 := 0) rfl rfl, fun U hU hW => ⟨rfl, Pr.at hPc hKc hDc hN hU hW⟩⟩ rfl rfl hl.1 rfl (lv_room (Nat.le_of_ble_eq_true rfl)) dX11_partner_125 ⟨(Nat.le_trans (Nat.le_of_ble_eq_true rfl) hRc), (Nat.le_trans (Nat.le_of_ble_eq_true rfl) hRs)⟩) hS (fun q _ h => hFc q h) hFc (fun r_148 M_149 t H_147 locs ht hvm hw hB hz1 hk1 hS => ?_)
            have hp_150 := hw
            obtain ⟨hP1, hK1, hD1⟩ := hB
            rw [ht] at hP1
            obtain ⟨hP, hD⟩ := va_joinQ (X := [(xa, .inr (11, [.ref x0, .int (nI x1), .ref x2, .int (nI (x3 + 1)), .ref x4, .ref x5, .ref x6, .int x7, .ref x8, .int x9, .int x10]))]) (cx := [(xa, .inr (11, [.ref x0, .int (nI x1), .ref x2, .int (nI (x3 + 1)), .ref x4, .ref x5, .ref x6, .int x7, .ref x8, .int x9, .int x10]))]) (wr := []) (w1 := [(xa, .inr (11, [.ref x0, .int (nI x1), .ref x2, .int (nI (x3 + 1)), .ref x4, .ref x5, .ref x6, .int x7, .ref x8, .int 0, .int (-1)]))]) (pl := va_pl L M_138) hP hD [0] [] rfl rfl (by decide) (by decide) hk1 hFc hP1 hD1
            have hP : va_P D vwCl ([(xa, .inr (11, [.ref x0, .int (nI x1), .ref x2, .int (nI (x3 + 1)), .ref x4, .ref x5, .ref x6, .int x7, .ref x8, .int 0, .int (-1)]))] ++ va_pl L M_138) H_147 := hP
            have hD : va_D A ([(xa, .inr (11, [.ref x0, .int (nI x1), .ref x2, .int (nI (x3 + 1)), .ref x4, .ref x5, .ref x6, .int x7, .ref x8, .int 0, .int (-1)]))] ++ va_pl L M_138) := hD
            have hq := Eq.symm hp_150
            subst hq
            have hE : cntQ k1 k2 x1 x3 = (x3 + 1) := by unfold cntQ; rw [if_pos ⟨⟨c_1, c_6, (fun q => absurd q c_12), (fun q => absurd q c_117)⟩, by omega⟩]
            have hP : va_P D vwCl ([(xa, .inr (11, [.ref x0, .int (nI x1), .ref x2, .int (nI (cntQ k1 k2 x1 x3)), .ref x4, .ref x5, .ref x6, .int x7, .ref x8, .int 0, .int (-1)]))] ++ va_pl L M_138) H_147 := by rw [hE]; exact hP
            have hD : va_D A ([(xa, .inr (11, [.ref x0, .int (nI x1), .ref x2, .int (nI (cntQ k1 k2 x1 x3)), .ref x4, .ref x5, .ref x6, .int x7, .ref x8, .int 0, .int (-1)]))] ++ va_pl L M_138) := by rw [hE]; exact hD
            rw [hQ]
            exact W.iret (v := (nI ((x3 + 1) - 1))) hx hb hr (fun t ht hW9 => ⟨⟨(nI ((x3 + 1) - 1)), (K, L, M_138), rfl, ⟨hX0, hW, hF, (by unfold ansP; rw [if_pos ⟨⟨c_1, c_6, (fun q => absurd q c_12), (fun q => absurd q c_117)⟩, by omega⟩]; first | done | rfl)⟩, ⟨0, (-1), by rw [ht]; exact hP, hD⟩⟩, hS.F ht⟩) hS.2.2 dX11_partner_128
          · have hz := rfl (a := 0)
            have n_151 : ¬ (x3 < 40) := fun q => c_118 ((iLT (a := x3) (b := 40) (by omega) (by omega)).mpr q)
            refine lv_aload_n hx hb dX11_partner_78 rfl (lv_at hl 1 rfl) ?_
            refine lv_bipush (v := 9) hx hb dX11_partner_79 (by decide) ?_
            have hPc := hP.sub (ws' := [(xa, .inr (11, [.ref x0, .int (nI x1), .ref x2, .int (nI x3), .ref x4, .ref x5, .ref x6, .int x7, .ref x8, .int x9, .int x10]))]) [0] rfl
            have hDc := hD.sub (ws' := [(xa, .inr (11, [.ref x0, .int (nI x1), .ref x2, .int (nI x3), .ref x4, .ref x5, .ref x6, .int x7, .ref x8, .int x9, .int x10]))]) [0] (by decide) rfl
            have hKc := hK.sub (tys' := []) [] rfl
            have hFc := va_free (wc := [(xa, .inr (11, [.ref x0, .int (nI x1), .ref x2, .int (nI x3), .ref x4, .ref x5, .ref x6, .int x7, .ref x8, .int x9, .int x10]))]) hD hS hA [0] rfl
            refine va_calli (va_runV (As := [.int 9]) (rest := []) ⟨hx, hb, hml, hown, hg⟩ (k_refuse l D H_7.size xa x0 (nI x1) x2 (nI x3) x4 x5 x6 x7 x8 x9 x10 9) (cwV 1 hg (gV wd_344 wd_345 wd_346 wd_3 wd_347) rfl rfl rfl (by decide +kernel) ⟨(Nat.le_trans (Nat.le_of_ble_eq_true rfl) hRf), (Nat.le_trans (Nat.le_of_ble_eq_true rfl) hRl)⟩) ⟨Pr.blind, va_recv hK hP (ci := 11) (q0 := 0) rfl rfl, fun U hU hW => ⟨rfl, Pr.at hPc hKc hDc hN hU hW⟩⟩ rfl rfl hl.1 rfl (lv_room (Nat.le_of_ble_eq_true rfl)) dX11_partner_81 ⟨(Nat.le_trans (Nat.le_of_ble_eq_true rfl) hRc), (Nat.le_trans (Nat.le_of_ble_eq_true rfl) hRs)⟩) hS (fun q _ h => hFc q h) hFc (fun r_153 M_154 t H_152 locs ht hvm hw hB hz1 hk1 hS => ?_)
            have hp_155 := hw
            obtain ⟨hP1, hK1, hD1⟩ := hB
            rw [ht] at hP1
            obtain ⟨hP, hD⟩ := va_joinQ (X := [(xa, .inr (11, [.ref x0, .int (nI x1), .ref x2, .int (nI x3), .ref x4, .ref x5, .ref x6, .int x7, .ref x8, .int x9, .int x10]))]) (cx := [(xa, .inr (11, [.ref x0, .int (nI x1), .ref x2, .int (nI x3), .ref x4, .ref x5, .ref x6, .int x7, .ref x8, .int x9, .int x10]))]) (wr := []) (w1 := [(xa, .inr (11, [.ref x0, .int (nI x1), .ref x2, .int (nI x3), .ref x4, .ref x5, .ref x6, .int x7, .ref x8, .int 9, .int (-1)]))]) (pl := va_pl L M) hP hD [0] [] rfl rfl (by decide) (by decide) hk1 hFc hP1 hD1
            have hP : va_P D vwCl ([(xa, .inr (11, [.ref x0, .int (nI x1), .ref x2, .int (nI x3), .ref x4, .ref x5, .ref x6, .int x7, .ref x8, .int 9, .int (-1)]))] ++ va_pl L M) H_152 := hP
            have hD : va_D A ([(xa, .inr (11, [.ref x0, .int (nI x1), .ref x2, .int (nI x3), .ref x4, .ref x5, .ref x6, .int x7, .ref x8, .int 9, .int (-1)]))] ++ va_pl L M) := hD
            have hq := Eq.symm hp_155
            subst hq
            refine W.widen (k := 1) (n := 4) (Nat.le_of_ble_eq_true rfl) (Nat.le_of_ble_eq_true rfl) ?_
            have hE : cntQ k1 k2 x1 x3 = x3 := by unfold cntQ; rw [if_neg (fun q => absurd q.2 (by omega))]
            have hP : va_P D vwCl ([(xa, .inr (11, [.ref x0, .int (nI x1), .ref x2, .int (nI (cntQ k1 k2 x1 x3)), .ref x4, .ref x5, .ref x6, .int x7, .ref x8, .int 9, .int (-1)]))] ++ va_pl L M) H_152 := by rw [hE]; exact hP
            have hD : va_D A ([(xa, .inr (11, [.ref x0, .int (nI x1), .ref x2, .int (nI (cntQ k1 k2 x1 x3)), .ref x4, .ref x5, .ref x6, .int x7, .ref x8, .int 9, .int (-1)]))] ++ va_pl L M) := by rw [hE]; exact hD
            rw [hQ]
            exact W.iret (v := (-1)) hx hb hr (fun t ht hW9 => ⟨⟨(-1), (K, L, M), rfl, ⟨hX0, hW, hF, (by unfold ansP; rw [if_neg (fun q => absurd q.2 (by omega))]; first | done | rfl)⟩, ⟨9, (-1), by rw [ht]; exact hP, hD⟩⟩, hS.F ht⟩) hS.2.2 dX11_partner_84
        · have hz := rfl (a := 0)
          refine lv_aload_n hx hb dX11_partner_44 rfl (lv_at hl 0 rfl) ?_
          refine lv_iload_n hx hb dX11_partner_45 rfl (lv_at hl 2 rfl) ?_
          have hPc : va_P D vwCl ([(xa, .inr (11, [.ref x0, .int (nI x1), .ref x2, .int (nI x3), .ref x4, .ref x5, .ref x6, .int x7, .ref x8, .int x9, .int x10]))] ++ va_pl L M) H_7 := hP
          have hDc : va_D A ([(xa, .inr (11, [.ref x0, .int (nI x1), .ref x2, .int (nI x3), .ref x4, .ref x5, .ref x6, .int x7, .ref x8, .int x9, .int x10]))] ++ va_pl L M) := hD
          have hFc : ∀ q, va_A ([(xa, .inr (11, [.ref x0, .int (nI x1), .ref x2, .int (nI x3), .ref x4, .ref x5, .ref x6, .int x7, .ref x8, .int x9, .int x10]))] ++ va_pl L M) H_7.size q → A q := pg_free hDc hS hA
          refine va_callq (va_runV (As := [.int k2]) (rest := []) ⟨hx, hb, hml, hown, hg⟩ (s_houseAtE l D cy K L M H_7.size xa x0 x1 x2 x3 x4 x5 x6 x7 x8 x9 x10 k2  hW i0 b1 i2 b3 i4 i5 i6 i8 hNN) (cwV 1 hg (gV wd_340 wd_341 wd_342 wd_3 wd_343) rfl rfl rfl (by decide +kernel) ⟨(Nat.le_trans (Nat.le_of_ble_eq_true rfl) hRf), (Nat.le_trans (Nat.le_of_ble_eq_true rfl) hRl)⟩) ⟨PG.blind, va_recv hK hP (ci := 11) (q0 := 0) rfl rfl, fun U hU hW => ⟨rfl, PG.at hPc hK hDc hN hU hW⟩⟩ rfl rfl hl.1 rfl (lv_room (Nat.le_of_ble_eq_true rfl)) dX11_partner_46 ⟨(Nat.le_trans (Nat.le_of_ble_eq_true rfl) hRc), (Nat.le_trans (Nat.le_of_ble_eq_true rfl) hRs)⟩) hS (fun q _ h => hFc q h) hFc (fun r_157 M_158 t H_156 locs ht hvm hw hB hz1 hk1 hS => ?_)
          have hp_159 := hw
          obtain ⟨hP1, hD1⟩ := hB
          rw [ht] at hP1
          have hP : va_P D vwCl ([(xa, .inr (11, [.ref x0, .int (nI x1), .ref x2, .int (nI x3), .ref x4, .ref x5, .ref x6, .int x7, .ref x8, .int x9, .int x10]))] ++ va_pl L M) H_156 := hP1
          have hD : va_D A ([(xa, .inr (11, [.ref x0, .int (nI x1), .ref x2, .int (nI x3), .ref x4, .ref x5, .ref x6, .int x7, .ref x8, .int x9, .int x10]))] ++ va_pl L M) := hD1.mono hFc
          obtain ⟨hp_159, hqx⟩ := hp_159
          rcases r_157 with _ | b_160
          · have hz := rfl (a := 0)
            refine lv_goto (tgt := 53) hx hb dX11_partner_49 (by decide) ?_
            refine lv_astore_nN (lv' := [(3, .null), (0, .ref xa), (1, .int k1), (2, .int k2)]) hx hb dX11_partner_53 rfl hl (by decide) rfl (fun ls hl => ?_)
            refine lv_iload_n hx hb dX11_partner_54 rfl (lv_at hl 2 rfl) ?_
            refine lv_iconst (v := 5) hx hb dX11_partner_55 (by decide) ?_
            refine lv_icmp_ne (tgt := 69) hx hb dX11_partner_56 (by decide) (fun c_161 => absurd c_116 c_161) (fun c_161 => ?_)
            refine lv_aload_nN hx hb dX11_partner_59 rfl (lv_at hl 0 rfl) ?_
            refine lv_ifnonnullN hx hb dX11_partner_60 ?_
            refine lv_aload_n hx hb dX11_partner_63 rfl (lv_at hl 1 rfl) ?_
            refine lv_iconst (v := 1) hx hb dX11_partner_64 (by decide) ?_
            have hPc := hP.sub (ws' := [(xa, .inr (11, [.ref x0, .int (nI x1), .ref x2, .int (nI x3), .ref x4, .ref x5, .ref x6, .int x7, .ref x8, .int x9, .int x10]))]) [0] rfl
            have hDc := hD.sub (ws' := [(xa, .inr (11, [.ref x0, .int (nI x1), .ref x2, .int (nI x3), .ref x4, .ref x5, .ref x6, .int x7, .ref x8, .int x9, .int x10]))]) [0] (by decide) rfl
            have hKc := hK.sub (tys' := []) [] rfl
            have hFc := va_free (wc := [(xa, .inr (11, [.ref x0, .int (nI x1), .ref x2, .int (nI x3), .ref x4, .ref x5, .ref x6, .int x7, .ref x8, .int x9, .int x10]))]) hD hS hA [0] rfl
            refine va_calli (va_runV (As := [.int 1]) (rest := []) ⟨hx, hb, hml, hown, hg⟩ (k_refuse l D H_156.size xa x0 (nI x1) x2 (nI x3) x4 x5 x6 x7 x8 x9 x10 1) (cwV 1 hg (gV wd_344 wd_345 wd_346 wd_3 wd_347) rfl rfl rfl (by decide +kernel) ⟨(Nat.le_trans (Nat.le_of_ble_eq_true rfl) hRf), (Nat.le_trans (Nat.le_of_ble_eq_true rfl) hRl)⟩) ⟨Pr.blind, va_recv hK hP (ci := 11) (q0 := 0) rfl rfl, fun U hU hW => ⟨rfl, Pr.at hPc hKc hDc hN hU hW⟩⟩ rfl rfl hl.1 rfl (lv_room (Nat.le_of_ble_eq_true rfl)) dX11_partner_65 ⟨(Nat.le_trans (Nat.le_of_ble_eq_true rfl) hRc), (Nat.le_trans (Nat.le_of_ble_eq_true rfl) hRs)⟩) hS (fun q _ h => hFc q h) hFc (fun r_163 M_164 t H_162 locs ht hvm hw hB hz1 hk1 hS => ?_)
            have hp_165 := hw
            obtain ⟨hP1, hK1, hD1⟩ := hB
            rw [ht] at hP1
            obtain ⟨hP, hD⟩ := va_joinQ (X := [(xa, .inr (11, [.ref x0, .int (nI x1), .ref x2, .int (nI x3), .ref x4, .ref x5, .ref x6, .int x7, .ref x8, .int x9, .int x10]))]) (cx := [(xa, .inr (11, [.ref x0, .int (nI x1), .ref x2, .int (nI x3), .ref x4, .ref x5, .ref x6, .int x7, .ref x8, .int x9, .int x10]))]) (wr := []) (w1 := [(xa, .inr (11, [.ref x0, .int (nI x1), .ref x2, .int (nI x3), .ref x4, .ref x5, .ref x6, .int x7, .ref x8, .int 1, .int (-1)]))]) (pl := va_pl L M) hP hD [0] [] rfl rfl (by decide) (by decide) hk1 hFc hP1 hD1
            have hP : va_P D vwCl ([(xa, .inr (11, [.ref x0, .int (nI x1), .ref x2, .int (nI x3), .ref x4, .ref x5, .ref x6, .int x7, .ref x8, .int 1, .int (-1)]))] ++ va_pl L M) H_162 := hP
            have hD : va_D A ([(xa, .inr (11, [.ref x0, .int (nI x1), .ref x2, .int (nI x3), .ref x4, .ref x5, .ref x6, .int x7, .ref x8, .int 1, .int (-1)]))] ++ va_pl L M) := hD
            have hq := Eq.symm hp_165
            subst hq
            refine W.widen (k := 1) (n := 4) (Nat.le_of_ble_eq_true rfl) (Nat.le_of_ble_eq_true rfl) ?_
            have hE : cntQ k1 k2 x1 x3 = x3 := by unfold cntQ; rw [if_neg (fun q => q.1.2.2.2 c_161 (hqx.mp rfl))]
            have hP : va_P D vwCl ([(xa, .inr (11, [.ref x0, .int (nI x1), .ref x2, .int (nI (cntQ k1 k2 x1 x3)), .ref x4, .ref x5, .ref x6, .int x7, .ref x8, .int 1, .int (-1)]))] ++ va_pl L M) H_162 := by rw [hE]; exact hP
            have hD : va_D A ([(xa, .inr (11, [.ref x0, .int (nI x1), .ref x2, .int (nI (cntQ k1 k2 x1 x3)), .ref x4, .ref x5, .ref x6, .int x7, .ref x8, .int 1, .int (-1)]))] ++ va_pl L M) := by rw [hE]; exact hD
            rw [hQ]
            exact W.iret (v := (-1)) hx hb hr (fun t ht hW9 => ⟨⟨(-1), (K, L, M), rfl, ⟨hX0, hW, hF, (by unfold ansP; rw [if_neg (fun q => q.1.2.2.2 c_161 (hqx.mp rfl))]; first | done | rfl)⟩, ⟨1, (-1), by rw [ht]; exact hP, hD⟩⟩, hS.F ht⟩) hS.2.2 dX11_partner_68
          · have hb_166 := hp_159 b_160 rfl
            refine lv_goto (tgt := 53) hx hb dX11_partner_49 (by decide) ?_
            refine lv_astore_n (lv' := [(3, .ref b_160), (0, .ref xa), (1, .int k1), (2, .int k2)]) hx hb dX11_partner_53 rfl hl (by decide) rfl (fun ls hl => ?_)
            refine lv_iload_n hx hb dX11_partner_54 rfl (lv_at hl 2 rfl) ?_
            refine lv_iconst (v := 5) hx hb dX11_partner_55 (by decide) ?_
            refine lv_icmp_ne (tgt := 69) hx hb dX11_partner_56 (by decide) (fun c_167 => absurd c_116 c_167) (fun c_167 => ?_)
            refine lv_aload_n hx hb dX11_partner_59 rfl (lv_at hl 0 rfl) ?_
            refine lv_ifnonnull (tgt := 69) hx hb dX11_partner_60 (by decide) ?_
            refine lv_aload_n hx hb dX11_partner_69 rfl (lv_at hl 1 rfl) ?_
            refine va_get (D := D) (ci := 11) (v := .int (nI x3)) (C := RX11) (T := TX11) (N := 11) hx hb hg inG11 hown hK hP 0 rfl rfl 3 (by decide) (hg _ wd_338) (fun _ h9 => h9) rfl dX11_partner_70 ?_
            refine lv_bipush (v := 40) hx hb dX11_partner_73 (by decide) ?_
            refine lv_icmp_lt (tgt := 85) hx hb dX11_partner_75 (by decide) (fun c_168 => ?_) (fun c_168 => ?_)
            · have hz := rfl (a := 0)
              have n_169 : x3 < 40 := (iLT (a := x3) (b := 40) (by omega) (by omega)).mp c_168
              refine lv_aload_n hx hb dX11_partner_85 rfl (lv_at hl 1 rfl) ?_
              refine va_get (D := D) (ci := 11) (v := .ref x2) (C := RX11) (T := TX11) (N := 11) hx hb hg inG11 hown hK hP 0 rfl rfl 2 (by decide) (hg _ wd_339) (fun _ h9 => h9) rfl dX11_partner_86 ?_
              refine lv_aload_n hx hb dX11_partner_89 rfl (lv_at hl 1 rfl) ?_
              refine va_get (D := D) (ci := 11) (v := .int (nI x3)) (C := RX11) (T := TX11) (N := 11) hx hb hg inG11 hown hK hP 0 rfl rfl 3 (by decide) (hg _ wd_338) (fun _ h9 => h9) rfl dX11_partner_90 ?_
              refine va_new (ci := 4) (fs := [.int 0, .int 0, .int 0, .null]) (C := RX4) (T := TX4) (N := 4) hx hb hg inG4 tyX4 tyX4_ok hown (hg _ wd_587) (hg _ wd_588) (hg _ wd_30) hK hP hD hS hA rfl dfX4 (Nat.le_trans (Nat.le_of_ble_eq_true rfl) hRc) (Nat.le_trans (Nat.le_of_ble_eq_true rfl) hRs) dX11_partner_93 (fun q_170 H_171 hP hD hS => ?_)
              have hP : va_P D vwCl ([(xa, .inr (11, [.ref x0, .int (nI x1), .ref x2, .int (nI x3), .ref x4, .ref x5, .ref x6, .int x7, .ref x8, .int x9, .int x10])), (q_170, .inr (4, [.int 0, .int 0, .int 0, .null]))] ++ va_pl L M) H_171 := hP.swap
              have hD : va_D A ([(xa, .inr (11, [.ref x0, .int (nI x1), .ref x2, .int (nI x3), .ref x4, .ref x5, .ref x6, .int x7, .ref x8, .int x9, .int x10])), (q_170, .inr (4, [.int 0, .int 0, .int 0, .null]))] ++ va_pl L M) := hD.swap
              refine W.widen (k := 1) (n := 4) (Nat.le_of_ble_eq_true rfl) (Nat.le_of_ble_eq_true rfl) ?_
              refine lv_dup hx hb dX11_partner_96 rfl ?_
              refine lv_aload_n hx hb dX11_partner_97 rfl (lv_at hl 1 rfl) ?_
              refine va_get (D := D) (ci := 11) (v := .int (nI x3)) (C := RX11) (T := TX11) (N := 11) hx hb hg inG11 hown hK hP 0 rfl rfl 3 (by decide) (hg _ wd_338) (fun _ h9 => h9) rfl dX11_partner_98 ?_
              refine lv_iload_n hx hb dX11_partner_101 rfl (lv_at hl 2 rfl) ?_
              refine lv_iload_n hx hb dX11_partner_102 rfl (lv_at hl 3 rfl) ?_
              refine lv_aload_n hx hb dX11_partner_103 rfl (lv_at hl 0 rfl) ?_
              have hPc := hP.sub (ws' := [(q_170, .inr (4, [.int 0, .int 0, .int 0, .null]))]) [1] rfl
              have hDc := hD.sub (ws' := [(q_170, .inr (4, [.int 0, .int 0, .int 0, .null]))]) [1] (by decide) rfl
              have hKc := hK.sub (tys' := []) [] rfl
              have hFc := va_free (wc := [(q_170, .inr (4, [.int 0, .int 0, .int 0, .null]))]) hD hS hA [1] rfl
              refine va_callv (va_runI (As := [.int (nI x3), .int k1, .int k2, .ref b_160]) (rest := [.ref q_170, .int (nI x3), .ref x2]) ⟨hx, hb, hml, hown, hg⟩ (k_Partner_r l D H_171.size q_170 (nI x3) k1 k2 b_160) (cwI 4 hg (gB wd_589) rfl rfl rfl (hg _ wd_30) (hg _ wd_590) (hg _ wd_591) rfl (by decide +kernel) ⟨(Nat.le_trans (Nat.le_of_ble_eq_true rfl) hRf), (Nat.le_trans (Nat.le_of_ble_eq_true rfl) hRl)⟩) ⟨Pr.blind, fun U hU hW => ⟨rfl, Pr.at hPc hKc hDc hN hU hW⟩⟩ rfl rfl hl.1 rfl (lv_room (Nat.le_of_ble_eq_true rfl)) dX11_partner_104 ⟨(Nat.le_trans (Nat.le_of_ble_eq_true rfl) hRc), (Nat.le_trans (Nat.le_of_ble_eq_true rfl) hRs)⟩) hS (fun q _ h => hFc q h) hFc (fun M_174 t H_172 locs ht hvm hw hB hz1 hk1 hS => ?_)
              have hp_175 := hw
              obtain ⟨hP1, hK1, hD1⟩ := hB
              rw [ht] at hP1
              obtain ⟨hP, hD⟩ := va_joinQ (X := [(xa, .inr (11, [.ref x0, .int (nI x1), .ref x2, .int (nI x3), .ref x4, .ref x5, .ref x6, .int x7, .ref x8, .int x9, .int x10])), (q_170, .inr (4, [.int 0, .int 0, .int 0, .null]))]) (cx := [(q_170, .inr (4, [.int 0, .int 0, .int 0, .null]))]) (wr := [(xa, .inr (11, [.ref x0, .int (nI x1), .ref x2, .int (nI x3), .ref x4, .ref x5, .ref x6, .int x7, .ref x8, .int x9, .int x10]))]) (w1 := [(q_170, .inr (4, [.int (nI x3), .int k1, .int k2, .ref b_160]))]) (pl := va_pl L M) hP hD [1] [0] rfl rfl (by decide) (by decide) hk1 hFc hP1 hD1
              have hP : va_P D vwCl ([(xa, .inr (11, [.ref x0, .int (nI x1), .ref x2, .int (nI x3), .ref x4, .ref x5, .ref x6, .int x7, .ref x8, .int x9, .int x10])), (q_170, .inr (4, [.int (nI x3), .int k1, .int k2, .ref b_160]))] ++ va_pl L M) H_172 := hP
              have hD : va_D A ([(xa, .inr (11, [.ref x0, .int (nI x1), .ref x2, .int (nI x3), .ref x4, .ref x5, .ref x6, .int x7, .ref x8, .int x9, .int x10])), (q_170, .inr (4, [.int (nI x3), .int k1, .int k2, .ref b_160]))] ++ va_pl L M) := hD
              have hP : va_P D vwCl (([(xa, .inr (11, [.ref x0, .int (nI x1), .ref x2, .int (nI x3), .ref x4, .ref x5, .ref x6, .int x7, .ref x8, .int x9, .int x10]))] ++ [(q_170, .inr (4, [.int (nI x3), .int k1, .int k2, .ref b_160]))]) ++ va_pl L M) H_172 := hP.part (cx := [(xa, .inr (11, [.ref x0, .int (nI x1), .ref x2, .int (nI x3), .ref x4, .ref x5, .ref x6, .int x7, .ref x8, .int x9, .int x10]))] ++ [(q_170, .inr (4, [.int (nI x3), .int k1, .int k2, .ref b_160]))]) [0, 1] rfl
              have hD : va_D A (([(xa, .inr (11, [.ref x0, .int (nI x1), .ref x2, .int (nI x3), .ref x4, .ref x5, .ref x6, .int x7, .ref x8, .int x9, .int x10]))] ++ [(q_170, .inr (4, [.int (nI x3), .int k1, .int k2, .ref b_160]))]) ++ va_pl L M) := hD.part (cx := [(xa, .inr (11, [.ref x0, .int (nI x1), .ref x2, .int (nI x3), .ref x4, .ref x5, .ref x6, .int x7, .ref x8, .int x9, .int x10]))] ++ [(q_170, .inr (4, [.int (nI x3), .int k1, .int k2, .ref b_160]))]) [0, 1] (by decide) rfl
              obtain ⟨K9, L9, M_176, hx9, i_177, hW, hP, hD, hM_178, hfr9, hq9⟩ := adoptE 4 0 hP hD hW (fun K' L' x i => (⟨(nI x3), k1, k2, (some b_160), rfl, iskN.some (hb_166.ext x)⟩ : gd_4 K' L' _))
              have hF : fr K0 L0 [19] M0 M_176 := hF.adX hX0 hfr9
              have hX0 := hX0.tr hx9
              have i_179 := i0.ext hx9
              have i_180 := i2.ext hx9
              have i_181 := i4.ext hx9
              have i_182 := i5.ext hx9
              have i_183 := i6.ext hx9
              have i_184 := i8.ext hx9
              have i_185 := hb_166.ext hx9
              obtain ⟨K, L, hK9, hL9⟩ : ∃ (K : Kp) (L : List Nat), K = K9 ∧ L = L9 := ⟨_, _, rfl, rfl⟩
              subst hK9
              subst hL9
              have hP : va_P D vwCl ([(xa, .inr (11, [.ref x0, .int (nI x1), .ref x2, .int (nI x3), .ref x4, .ref x5, .ref x6, .int x7, .ref x8, .int x9, .int x10]))] ++ va_pl L M_176) H_172 := hP
              have hD : va_D A ([(xa, .inr (11, [.ref x0, .int (nI x1), .ref x2, .int (nI x3), .ref x4, .ref x5, .ref x6, .int x7, .ref x8, .int x9, .int x10]))] ++ va_pl L M_176) := hD
              obtain ⟨f186, hM186, hf186⟩ := hW.open_19 i_180
              obtain ⟨v188_0, v188_1, v188_2, v188_3, hM188, h188_3⟩ := hW.open_4 i_177
              refine pg_astq (r := (RX4, TX4, 4)) hx hb hK hP hD hS i_180.1 5 4 hM186 rfl i_177.1 hM188 rfl (inbN x3 40 (by omega) (by omega)) dX11_partner_107 (fun H_187 locs hP hD hS => ?_)
              obtain ⟨M_189, eM_189⟩ : ∃ M1 : Hp, M1 = va_up M_176 x2 (.inl (cy 19, 40, .inr (.inr (.inr (.inr (va_up f186 ((nI x3) : Int32).toNatClampNeg (some q_170))))))) := ⟨_, rfl⟩
              have hP : va_P D vwCl ([(xa, .inr (11, [.ref x0, .int (nI x1), .ref x2, .int (nI x3), .ref x4, .ref x5, .ref x6, .int x7, .ref x8, .int x9, .int x10]))] ++ va_pl L M_189) H_187 := by rw [eM_189]; exact hP
              have hD : va_D A ([(xa, .inr (11, [.ref x0, .int (nI x1), .ref x2, .int (nI x3), .ref x4, .ref x5, .ref x6, .int x7, .ref x8, .int x9, .int x10]))] ++ va_pl L M_189) := by rw [eM_189]; exact hD
              have hW : WOK cy K L M_189 := by rw [eM_189]; exact hW.up_19 i_180 ⟨_, rfl, (upN hf186 i_177)⟩
              have hF : fr K0 L0 [19] M0 M_189 := by rw [eM_189]; exact hF.upX hX0 i_180 (by decide)
              have hM_190 : M_189 x2 = .inl (cy 19, 40, .inr (.inr (.inr (.inr (va_up f186 ((nI x3) : Int32).toNatClampNeg (some q_170)))))) := by rw [eM_189]; exact va_up_self _ _ _
              have hM_191 : M_189 q_170 = .inr (4, [.int v188_0, .int v188_1, .int v188_2, va_rf v188_3]) := by rw [eM_189, va_up_ne _ _ (i_177.neT i_180 (by decide))]; exact hM188
              have hf_193 : ∀ j, j < 40 → iskN K L ((va_up f186 ((nI x3) : Int32).toNatClampNeg (some q_170)) j) 4 0 := (upN hf186 i_177)
              obtain ⟨f_192, ef_192⟩ : ∃ f : Nat → Option Nat, f = va_up f186 ((nI x3) : Int32).toNatClampNeg (some q_170) := ⟨_, rfl⟩
              rw [← ef_192] at hM_190 hf_193
              have hk_194 : f_192 ((nI x3) : Int32).toNatClampNeg = some q_170 := by rw [ef_192]; exact va_up_self _ _ _
              clear ef_192
              refine lv_aload_n hx hb dX11_partner_108 rfl (lv_at hl 1 rfl) ?_
              refine lv_dup hx hb dX11_partner_109 rfl ?_
              refine va_get (D := D) (ci := 11) (v := .int (nI x3)) (C := RX11) (T := TX11) (N := 11) hx hb hg inG11 hown hK hP 0 rfl rfl 3 (by decide) (hg _ wd_338) (fun _ h9 => h9) rfl dX11_partner_110 ?_
              refine lv_iconst (v := 1) hx hb dX11_partner_113 (by decide) ?_
              refine lv_iadd hx hb dX11_partner_114 ?_
              refine lv_topi (fun f_195 ef_195 => ?_)
              obtain rfl : f_195 = (nI (x3 + 1)) := ef_195.trans (nI_add x3 1)
              refine va_put (D := D) (ci := 11) (v := .int (nI (x3 + 1))) (ty := .int) (C := RX11) (T := TX11) (N := 11) hx hb hg inG11 tyX11 tyX11_ok nmX11 hown hK hP hD hS 0 rfl rfl 3 (by decide) (hg _ wd_338) (fun _ h9 => h9) rfl (by decide +kernel) rfl rfl (Nat.le_of_ble_eq_true rfl) dX11_partner_115 (fun H_196 locs hP hD hS => ?_)
              have hP : va_P D vwCl ([(xa, .inr (11, [.ref x0, .int (nI x1), .ref x2, .int (nI (x3 + 1)), .ref x4, .ref x5, .ref x6, .int x7, .ref x8, .int x9, .int x10]))] ++ va_pl L M_189) H_196 := hP
              have hD : va_D A ([(xa, .inr (11, [.ref x0, .int (nI x1), .ref x2, .int (nI (x3 + 1)), .ref x4, .ref x5, .ref x6, .int x7, .ref x8, .int x9, .int x10]))] ++ va_pl L M_189) := hD
              refine lv_aload_n hx hb dX11_partner_118 rfl (lv_at hl 1 rfl) ?_
              refine lv_aload_n hx hb dX11_partner_119 rfl (lv_at hl 1 rfl) ?_
              refine va_get (D := D) (ci := 11) (v := .int (nI (x3 + 1))) (C := RX11) (T := TX11) (N := 11) hx hb hg inG11 hown hK hP 0 rfl rfl 3 (by decide) (hg _ wd_338) (fun _ h9 => h9) rfl dX11_partner_120 ?_
              refine lv_iconst (v := 1) hx hb dX11_partner_123 (by decide) ?_
              refine lv_isub hx hb dX11_partner_124 ?_
              refine lv_topi (fun f_197 ef_197 => ?_)
              obtain rfl : f_197 = (nI ((x3 + 1) - 1)) := ef_197.trans (nI_prd (by omega))
              have hPc := hP.sub (ws' := [(xa, .inr (11, [.ref x0, .int (nI x1), .ref x2, .int (nI (x3 + 1)), .ref x4, .ref x5, .ref x6, .int x7, .ref x8, .int x9, .int x10]))]) [0] rfl
              have hDc := hD.sub (ws' := [(xa, .inr (11, [.ref x0, .int (nI x1), .ref x2, .int (nI (x3 + 1)), .ref x4, .ref x5, .ref x6, .int x7, .ref x8, .int x9, .int x10]))]) [0] (by decide) rfl
              have hKc := hK.sub (tys' := []) [] rfl
              have hFc := va_free (wc := [(xa, .inr (11, [.ref x0, .int (nI x1), .ref x2, .int (nI (x3 + 1)), .ref x4, .ref x5, .ref x6, .int x7, .ref x8, .int x9, .int x10]))]) hD hS hA [0] rfl
              refine va_calli (va_runV (As := [.int (nI ((x3 + 1) - 1))]) (rest := []) ⟨hx, hb, hml, hown, hg⟩ (k_accept l D H_196.size xa x0 (nI x1) x2 (nI (x3 + 1)) x4 x5 x6 x7 x8 x9 x10 (nI ((x3 + 1) - 1))) (cwV 1 hg (gV wd_356 wd_357 wd_358 wd_3 wd_359) rfl rfl rfl (by decide +kernel) ⟨(Nat.le_trans (Nat.le_of_ble_eq_true rfl) hRf), (Nat.le_trans (Nat.le_of_ble_eq_true rfl) hRl)⟩) ⟨Pr.blind, va_recv hK hP (ci := 11) (q0 := 0) rfl rfl, fun U hU hW => ⟨rfl, Pr.at hPc hKc hDc hN hU hW⟩⟩ rfl rfl hl.1 rfl (lv_room (Nat.le_of_ble_eq_true rfl)) dX11_partner_125 ⟨(Nat.le_trans (Nat.le_of_ble_eq_true rfl) hRc), (Nat.le_trans (Nat.le_of_ble_eq_true rfl) hRs)⟩) hS (fun q _ h => hFc q h) hFc (fun r_199 M_200 t H_198 locs ht hvm hw hB hz1 hk1 hS => ?_)
              have hp_201 := hw
              obtain ⟨hP1, hK1, hD1⟩ := hB
              rw [ht] at hP1
              obtain ⟨hP, hD⟩ := va_joinQ (X := [(xa, .inr (11, [.ref x0, .int (nI x1), .ref x2, .int (nI (x3 + 1)), .ref x4, .ref x5, .ref x6, .int x7, .ref x8, .int x9, .int x10]))]) (cx := [(xa, .inr (11, [.ref x0, .int (nI x1), .ref x2, .int (nI (x3 + 1)), .ref x4, .ref x5, .ref x6, .int x7, .ref x8, .int x9, .int x10]))]) (wr := []) (w1 := [(xa, .inr (11, [.ref x0, .int (nI x1), .ref x2, .int (nI (x3 + 1)), .ref x4, .ref x5, .ref x6, .int x7, .ref x8, .int 0, .int (-1)]))]) (pl := va_pl L M_189) hP hD [0] [] rfl rfl (by decide) (by decide) hk1 hFc hP1 hD1
              have hP : va_P D vwCl ([(xa, .inr (11, [.ref x0, .int (nI x1), .ref x2, .int (nI (x3 + 1)), .ref x4, .ref x5, .ref x6, .int x7, .ref x8, .int 0, .int (-1)]))] ++ va_pl L M_189) H_198 := hP
              have hD : va_D A ([(xa, .inr (11, [.ref x0, .int (nI x1), .ref x2, .int (nI (x3 + 1)), .ref x4, .ref x5, .ref x6, .int x7, .ref x8, .int 0, .int (-1)]))] ++ va_pl L M_189) := hD
              have hq := Eq.symm hp_201
              subst hq
              have hE : cntQ k1 k2 x1 x3 = (x3 + 1) := by unfold cntQ; rw [if_pos ⟨⟨c_1, c_6, (fun q => absurd q c_12), (fun _ => (fun q => absurd (hqx.mpr q) (by intro z; cases z)))⟩, by omega⟩]
              have hP : va_P D vwCl ([(xa, .inr (11, [.ref x0, .int (nI x1), .ref x2, .int (nI (cntQ k1 k2 x1 x3)), .ref x4, .ref x5, .ref x6, .int x7, .ref x8, .int 0, .int (-1)]))] ++ va_pl L M_189) H_198 := by rw [hE]; exact hP
              have hD : va_D A ([(xa, .inr (11, [.ref x0, .int (nI x1), .ref x2, .int (nI (cntQ k1 k2 x1 x3)), .ref x4, .ref x5, .ref x6, .int x7, .ref x8, .int 0, .int (-1)]))] ++ va_pl L M_189) := by rw [hE]; exact hD
              rw [hQ]
              exact W.iret (v := (nI ((x3 + 1) - 1))) hx hb hr (fun t ht hW9 => ⟨⟨(nI ((x3 + 1) - 1)), (K, L, M_189), rfl, ⟨hX0, hW, hF, (by unfold ansP; rw [if_pos ⟨⟨c_1, c_6, (fun q => absurd q c_12), (fun _ => (fun q => absurd (hqx.mpr q) (by intro z; cases z)))⟩, by omega⟩]; first | done | rfl)⟩, ⟨0, (-1), by rw [ht]; exact hP, hD⟩⟩, hS.F ht⟩) hS.2.2 dX11_partner_128
            · have hz := rfl (a := 0)
              have n_202 : ¬ (x3 < 40) := fun q => c_168 ((iLT (a := x3) (b := 40) (by omega) (by omega)).mpr q)
              refine lv_aload_n hx hb dX11_partner_78 rfl (lv_at hl 1 rfl) ?_
              refine lv_bipush (v := 9) hx hb dX11_partner_79 (by decide) ?_
              have hPc := hP.sub (ws' := [(xa, .inr (11, [.ref x0, .int (nI x1), .ref x2, .int (nI x3), .ref x4, .ref x5, .ref x6, .int x7, .ref x8, .int x9, .int x10]))]) [0] rfl
              have hDc := hD.sub (ws' := [(xa, .inr (11, [.ref x0, .int (nI x1), .ref x2, .int (nI x3), .ref x4, .ref x5, .ref x6, .int x7, .ref x8, .int x9, .int x10]))]) [0] (by decide) rfl
              have hKc := hK.sub (tys' := []) [] rfl
              have hFc := va_free (wc := [(xa, .inr (11, [.ref x0, .int (nI x1), .ref x2, .int (nI x3), .ref x4, .ref x5, .ref x6, .int x7, .ref x8, .int x9, .int x10]))]) hD hS hA [0] rfl
              refine va_calli (va_runV (As := [.int 9]) (rest := []) ⟨hx, hb, hml, hown, hg⟩ (k_refuse l D H_156.size xa x0 (nI x1) x2 (nI x3) x4 x5 x6 x7 x8 x9 x10 9) (cwV 1 hg (gV wd_344 wd_345 wd_346 wd_3 wd_347) rfl rfl rfl (by decide +kernel) ⟨(Nat.le_trans (Nat.le_of_ble_eq_true rfl) hRf), (Nat.le_trans (Nat.le_of_ble_eq_true rfl) hRl)⟩) ⟨Pr.blind, va_recv hK hP (ci := 11) (q0 := 0) rfl rfl, fun U hU hW => ⟨rfl, Pr.at hPc hKc hDc hN hU hW⟩⟩ rfl rfl hl.1 rfl (lv_room (Nat.le_of_ble_eq_true rfl)) dX11_partner_81 ⟨(Nat.le_trans (Nat.le_of_ble_eq_true rfl) hRc), (Nat.le_trans (Nat.le_of_ble_eq_true rfl) hRs)⟩) hS (fun q _ h => hFc q h) hFc (fun r_204 M_205 t H_203 locs ht hvm hw hB hz1 hk1 hS => ?_)
              have hp_206 := hw
              obtain ⟨hP1, hK1, hD1⟩ := hB
              rw [ht] at hP1
              obtain ⟨hP, hD⟩ := va_joinQ (X := [(xa, .inr (11, [.ref x0, .int (nI x1), .ref x2, .int (nI x3), .ref x4, .ref x5, .ref x6, .int x7, .ref x8, .int x9, .int x10]))]) (cx := [(xa, .inr (11, [.ref x0, .int (nI x1), .ref x2, .int (nI x3), .ref x4, .ref x5, .ref x6, .int x7, .ref x8, .int x9, .int x10]))]) (wr := []) (w1 := [(xa, .inr (11, [.ref x0, .int (nI x1), .ref x2, .int (nI x3), .ref x4, .ref x5, .ref x6, .int x7, .ref x8, .int 9, .int (-1)]))]) (pl := va_pl L M) hP hD [0] [] rfl rfl (by decide) (by decide) hk1 hFc hP1 hD1
              have hP : va_P D vwCl ([(xa, .inr (11, [.ref x0, .int (nI x1), .ref x2, .int (nI x3), .ref x4, .ref x5, .ref x6, .int x7, .ref x8, .int 9, .int (-1)]))] ++ va_pl L M) H_203 := hP
              have hD : va_D A ([(xa, .inr (11, [.ref x0, .int (nI x1), .ref x2, .int (nI x3), .ref x4, .ref x5, .ref x6, .int x7, .ref x8, .int 9, .int (-1)]))] ++ va_pl L M) := hD
              have hq := Eq.symm hp_206
              subst hq
              refine W.widen (k := 1) (n := 4) (Nat.le_of_ble_eq_true rfl) (Nat.le_of_ble_eq_true rfl) ?_
              have hE : cntQ k1 k2 x1 x3 = x3 := by unfold cntQ; rw [if_neg (fun q => absurd q.2 (by omega))]
              have hP : va_P D vwCl ([(xa, .inr (11, [.ref x0, .int (nI x1), .ref x2, .int (nI (cntQ k1 k2 x1 x3)), .ref x4, .ref x5, .ref x6, .int x7, .ref x8, .int 9, .int (-1)]))] ++ va_pl L M) H_203 := by rw [hE]; exact hP
              have hD : va_D A ([(xa, .inr (11, [.ref x0, .int (nI x1), .ref x2, .int (nI (cntQ k1 k2 x1 x3)), .ref x4, .ref x5, .ref x6, .int x7, .ref x8, .int 9, .int (-1)]))] ++ va_pl L M) := by rw [hE]; exact hD
              rw [hQ]
              exact W.iret (v := (-1)) hx hb hr (fun t ht hW9 => ⟨⟨(-1), (K, L, M), rfl, ⟨hX0, hW, hF, (by unfold ansP; rw [if_neg (fun q => absurd q.2 (by omega))]; first | done | rfl)⟩, ⟨9, (-1), by rw [ht]; exact hP, hD⟩⟩, hS.F ht⟩) hS.2.2 dX11_partner_84
    · have hz := rfl (a := 0)
      refine lv_aload_n hx hb dX11_partner_10 rfl (lv_at hl 0 rfl) ?_
      refine lv_iconst (v := 2) hx hb dX11_partner_11 (by decide) ?_
      have hPc := hP.sub (ws' := [(xa, .inr (11, [.ref x0, .int (nI x1), .ref x2, .int (nI x3), .ref x4, .ref x5, .ref x6, .int x7, .ref x8, .int x9, .int x10]))]) [0] rfl
      have hDc := hD.sub (ws' := [(xa, .inr (11, [.ref x0, .int (nI x1), .ref x2, .int (nI x3), .ref x4, .ref x5, .ref x6, .int x7, .ref x8, .int x9, .int x10]))]) [0] (by decide) rfl
      have hKc := hK.sub (tys' := []) [] rfl
      have hFc := va_free (wc := [(xa, .inr (11, [.ref x0, .int (nI x1), .ref x2, .int (nI x3), .ref x4, .ref x5, .ref x6, .int x7, .ref x8, .int x9, .int x10]))]) hD hS hA [0] rfl
      refine va_calli (va_runV (As := [.int 2]) (rest := []) ⟨hx, hb, hml, hown, hg⟩ (k_refuse l D s.heap.size xa x0 (nI x1) x2 (nI x3) x4 x5 x6 x7 x8 x9 x10 2) (cwV 1 hg (gV wd_344 wd_345 wd_346 wd_3 wd_347) rfl rfl rfl (by decide +kernel) ⟨(Nat.le_trans (Nat.le_of_ble_eq_true rfl) hRf), (Nat.le_trans (Nat.le_of_ble_eq_true rfl) hRl)⟩) ⟨Pr.blind, va_recv hK hP (ci := 11) (q0 := 0) rfl rfl, fun U hU hW => ⟨rfl, Pr.at hPc hKc hDc hN hU hW⟩⟩ rfl rfl hl.1 rfl (lv_room (Nat.le_of_ble_eq_true rfl)) dX11_partner_12 ⟨(Nat.le_trans (Nat.le_of_ble_eq_true rfl) hRc), (Nat.le_trans (Nat.le_of_ble_eq_true rfl) hRs)⟩) hS (fun q _ h => hFc q h) hFc (fun r_208 M_209 t H_207 locs ht hvm hw hB hz1 hk1 hS => ?_)
      have hp_210 := hw
      obtain ⟨hP1, hK1, hD1⟩ := hB
      rw [ht] at hP1
      obtain ⟨hP, hD⟩ := va_joinQ (X := [(xa, .inr (11, [.ref x0, .int (nI x1), .ref x2, .int (nI x3), .ref x4, .ref x5, .ref x6, .int x7, .ref x8, .int x9, .int x10]))]) (cx := [(xa, .inr (11, [.ref x0, .int (nI x1), .ref x2, .int (nI x3), .ref x4, .ref x5, .ref x6, .int x7, .ref x8, .int x9, .int x10]))]) (wr := []) (w1 := [(xa, .inr (11, [.ref x0, .int (nI x1), .ref x2, .int (nI x3), .ref x4, .ref x5, .ref x6, .int x7, .ref x8, .int 2, .int (-1)]))]) (pl := va_pl L M) hP hD [0] [] rfl rfl (by decide) (by decide) hk1 hFc hP1 hD1
      have hP : va_P D vwCl ([(xa, .inr (11, [.ref x0, .int (nI x1), .ref x2, .int (nI x3), .ref x4, .ref x5, .ref x6, .int x7, .ref x8, .int 2, .int (-1)]))] ++ va_pl L M) H_207 := hP
      have hD : va_D A ([(xa, .inr (11, [.ref x0, .int (nI x1), .ref x2, .int (nI x3), .ref x4, .ref x5, .ref x6, .int x7, .ref x8, .int 2, .int (-1)]))] ++ va_pl L M) := hD
      have hq := Eq.symm hp_210
      subst hq
      refine W.widen (k := 1) (n := 4) (Nat.le_of_ble_eq_true rfl) (Nat.le_of_ble_eq_true rfl) ?_
      have hE : cntQ k1 k2 x1 x3 = x3 := by unfold cntQ; rw [if_neg (fun q => c_6 q.1.2.1)]
      have hP : va_P D vwCl ([(xa, .inr (11, [.ref x0, .int (nI x1), .ref x2, .int (nI (cntQ k1 k2 x1 x3)), .ref x4, .ref x5, .ref x6, .int x7, .ref x8, .int 2, .int (-1)]))] ++ va_pl L M) H_207 := by rw [hE]; exact hP
      have hD : va_D A ([(xa, .inr (11, [.ref x0, .int (nI x1), .ref x2, .int (nI (cntQ k1 k2 x1 x3)), .ref x4, .ref x5, .ref x6, .int x7, .ref x8, .int 2, .int (-1)]))] ++ va_pl L M) := by rw [hE]; exact hD
      rw [hQ]
      exact W.iret (v := (-1)) hx hb hr (fun t ht hW9 => ⟨⟨(-1), (K, L, M), rfl, ⟨hX0, hW, hF, (by unfold ansP; rw [if_neg (fun q => c_6 q.1.2.1)]; first | done | rfl)⟩, ⟨2, (-1), by rw [ht]; exact hP, hD⟩⟩, hS.F ht⟩) hS.2.2 dX11_partner_15
set_option maxHeartbeats 4000000 in
set_option maxRecDepth 100000 in
theorem r_isHouseE (l : Launch) (D : va_G) (cy : Nat → ClassId) (K : Kp) (L : List Nat) (M : Hp) (sz : Nat) (za : Nat) (z0 : Int32) (z1 : Nat) (z2 : Nat) (z3 : Nat) (z4 : Int32) (z5 : Int32) (z6 : Nat) (z7 : Nat) (z8 : Nat) (z9 : Nat) (z10 : Nat) (z11 : Nat) (z12 : Nat) (z13 : Nat) (z14 : Nat) (z15 : Nat) (z16 : Nat) (z17 : Nat) (z18 : Int32) (z19 : Nat) (k1 : Int32) (hW : WOM cy K L M) (i1 : isk K L z1 23 8) (b2 : z2 ≤ 8) (b3 : z3 ≤ 40) (i6 : isk K L z6 47 40) (i7 : isk K L z7 48 40) (i8 : isk K L z8 49 8) (i9 : isk K L z9 50 8) (b10 : z10 ≤ 8) (i11 : isk K L z11 32 24) (i12 : isk K L z12 14 24) (i13 : isk K L z13 15 24) (i14 : isk K L z14 15 24) (i15 : isk K L z15 15 24) (b16 : z16 ≤ 24) (i17 : isk K L z17 14 24) (i19 : isk K L z19 15 25) : Met l yX13_isHouse (wsM yX13_isHouse cX13_isHouse 2 (some .boolean)) ({ frames := 0, cells := 0, slots := 0, locals := 0 }) (va_Pc [.ref za, .int k1] (PG D cy [(za, .inr (13, [.int z0, .ref z1, .int (nI z2), .int (nI z3), .int z4, .int z5, .ref z6, .ref z7, .ref z8, .ref z9, .int (nI z10), .ref z11, .ref z12, .ref z13, .ref z14, .ref z15, .int (nI z16), .ref z17, .int z18, .ref z19]))] L M sz)) (va_Qi (fun (r : Int32) (_ : Unit) => (r = 1 ∧ ¬ k1 < 0 ∧ ¬ (nI z2) ≤ k1) ∨ (r = 0 ∧ (k1 < 0 ∨ (nI z2) ≤ k1))) (fun _ t => PQ D [(za, .inr (13, [.int z0, .ref z1, .int (nI z2), .int (nI z3), .int z4, .int z5, .ref z6, .ref z7, .ref z8, .ref z9, .int (nI z10), .ref z11, .ref z12, .ref z13, .ref z14, .ref z15, .int (nI z16), .ref z17, .int z18, .ref z19]))] L M (va_A ([(za, .inr (13, [.int z0, .ref z1, .int (nI z2), .int (nI z3), .int z4, .int z5, .ref z6, .ref z7, .ref z8, .ref z9, .int (nI z10), .ref z11, .ref z12, .ref z13, .ref z14, .ref z15, .int (nI z16), .ref z17, .int z18, .ref z19]))] ++ va_pl L M) sz) t) (va_A ([(za, .inr (13, [.int z0, .ref z1, .int (nI z2), .int (nI z3), .int z4, .int z5, .ref z6, .ref z7, .ref z8, .ref z9, .int (nI z10), .ref z11, .ref z12, .ref z13, .ref z14, .ref z15, .int (nI z16), .ref z17, .int z18, .ref z19]))] ++ va_pl L M) sz)) 0 0 (va_A ([(za, .inr (13, [.int z0, .ref z1, .int (nI z2), .int (nI z3), .int z4, .int z5, .ref z6, .ref z7, .ref z8, .ref z9, .int (nI z10), .ref z11, .ref z12, .ref z13, .ref z14, .ref z15, .int (nI z16), .ref z17, .int z18, .ref z19]))] ++ va_pl L M) sz) := by
  refine Met.ofW (cc := cX13_isHouse) (maxL := 2) (ret := (some .boolean)) (by decide) rfl ?_
  intro p e s m args below meth c s₁ B hml hv
  obtain ⟨rfl, hsz, hP, hK, hD0, hN⟩ := hv
  have hx := B.exec
  have hb := B.bytes
  have hr := B.returns
  have hts := atoms_spec (ws := (wsM yX13_isHouse cX13_isHouse 2 (some .boolean))) B.pre
  have hg : ∀ w ∈ lw_good, w.before _ s = true := fun w h => hts w (List.mem_cons_of_mem _ h)
  have hown : s.vm.findClass RX13 = some m.cls := findClass_of_methodNamed B.named
  have hlocks := B.notSynchronized
  subst hsz
  have hD := hD0.self (sz := s.heap.size)
  generalize hAe : va_A ([(za, .inr (13, [.int z0, .ref z1, .int (nI z2), .int (nI z3), .int z4, .int z5, .ref z6, .ref z7, .ref z8, .ref z9, .int (nI z10), .ref z11, .ref z12, .ref z13, .ref z14, .ref z15, .int (nI z16), .ref z17, .int z18, .ref z19]))] ++ va_pl L M) s.heap.size = A at hD ⊢
  have hA : ∀ q : Nat, s.heap.size ≤ q → A q := fun q h => by rw [← hAe]; exact Or.inr h
  have hS : va_S A s.heap s.heap [] := va_S.rf
  have hl := lv_entry ([.ref za, .int k1]) (n := 2) (Nat.le_of_ble_eq_true rfl)
  rw [lg_entry_eq]
  generalize (lg_sl ([.ref za, .int k1]) ++ List.replicate (2 - (lg_sl ([.ref za, .int k1])).length) Slot.unset).toArray = ls at hl ⊢
  refine W.nameQ (fun Q hQ => ?_)
  refine W.nameR (fun R hR => ?_)
  have hRf : 0 ≤ R.frames := by rw [hR]; exact Nat.le_of_ble_eq_true rfl
  have hRl : 0 ≤ R.locals := by rw [hR]; exact Nat.le_of_ble_eq_true rfl
  have hRc : 0 ≤ R.cells := by rw [hR]; exact Nat.le_of_ble_eq_true rfl
  have hRs : 0 ≤ R.slots := by rw [hR]; exact Nat.le_of_ble_eq_true rfl
  have hl : lv_has ls 2 [(0, .ref za), (1, .int k1)] := hl
  refine lv_iload_n hx hb dX13_isHouse_0 rfl (lv_at hl 1 rfl) ?_
  refine lv_if_lt (tgt := 16) hx hb dX13_isHouse_1 (by decide) (fun c_1 => ?_) (fun c_1 => ?_)
  · have hz := rfl (a := 0)
    refine lv_iconst (v := 0) hx hb dX13_isHouse_16 (by decide) ?_
    rw [hQ]
    exact W.zret (v := 0) hx hb hr rfl (fun t ht hW9 => ⟨⟨0, (), rfl, (Or.inr ⟨rfl, Or.inl c_1⟩), ⟨by rw [ht]; exact hP, hD⟩⟩, hS.F ht⟩) hS.2.2 dX13_isHouse_17
  · have hz := rfl (a := 0)
    refine lv_iload_n hx hb dX13_isHouse_4 rfl (lv_at hl 1 rfl) ?_
    refine lv_aload_n hx hb dX13_isHouse_5 rfl (lv_at hl 0 rfl) ?_
    refine va_get (D := D) (ci := 13) (v := .int (nI z2)) (C := RX13) (T := TX13) (N := 20) hx hb hg inG13 hown hK hP 0 rfl rfl 2 (by decide) (hg _ wd_713) (fun _ h9 => h9) rfl dX13_isHouse_6 ?_
    refine lv_icmp_ge (tgt := 16) hx hb dX13_isHouse_9 (by decide) (fun c_2 => ?_) (fun c_2 => ?_)
    · have hz := rfl (a := 0)
      refine lv_iconst (v := 0) hx hb dX13_isHouse_16 (by decide) ?_
      rw [hQ]
      exact W.zret (v := 0) hx hb hr rfl (fun t ht hW9 => ⟨⟨0, (), rfl, (Or.inr ⟨rfl, Or.inr c_2⟩), ⟨by rw [ht]; exact hP, hD⟩⟩, hS.F ht⟩) hS.2.2 dX13_isHouse_17
    · have hz := rfl (a := 0)
      have n_3 : ¬ 8 ≤ k1 := ltB (b := 8) (by decide) (by omega) (Int32.not_le.mp c_2)
      refine lv_iconst (v := 1) hx hb dX13_isHouse_12 (by decide) ?_
      refine lv_goto (tgt := 17) hx hb dX13_isHouse_13 (by decide) ?_
      rw [hQ]
      exact W.zret (v := 1) hx hb hr rfl (fun t ht hW9 => ⟨⟨1, (), rfl, (Or.inl ⟨rfl, c_1, c_2⟩), ⟨by rw [ht]; exact hP, hD⟩⟩, hS.F ht⟩) hS.2.2 dX13_isHouse_17
set_option maxHeartbeats 4000000 in
set_option maxRecDepth 100000 in
theorem r_partnerE (l : Launch) (D : va_G) (cy : Nat → ClassId) (K : Kp) (L : List Nat) (M : Hp) (sz : Nat) (za : Nat) (z0 : Int32) (z1 : Nat) (z2 : Nat) (z3 : Nat) (z4 : Int32) (z5 : Int32) (z6 : Nat) (z7 : Nat) (z8 : Nat) (z9 : Nat) (z10 : Nat) (z11 : Nat) (z12 : Nat) (z13 : Nat) (z14 : Nat) (z15 : Nat) (z16 : Nat) (z17 : Nat) (z18 : Int32) (z19 : Nat) (k1 : Int32) (k2 : Int32) (hW : WOM cy K L M) (i1 : isk K L z1 23 8) (b2 : z2 ≤ 8) (b3 : z3 ≤ 40) (i6 : isk K L z6 47 40) (i7 : isk K L z7 48 40) (i8 : isk K L z8 49 8) (i9 : isk K L z9 50 8) (b10 : z10 ≤ 8) (i11 : isk K L z11 32 24) (i12 : isk K L z12 14 24) (i13 : isk K L z13 15 24) (i14 : isk K L z14 15 24) (i15 : isk K L z15 15 24) (b16 : z16 ≤ 24) (i17 : isk K L z17 14 24) (i19 : isk K L z19 15 25) (hR5 : R5 z6 z7 M) : Met l yX13_partner (wsM yX13_partner cX13_partner 4 (some .int)) ({ frames := 1, cells := 0, slots := 0, locals := 21 }) (va_Pc [.ref za, .int k1, .int k2] (PG D cy [(za, .inr (13, [.int z0, .ref z1, .int (nI z2), .int (nI z3), .int z4, .int z5, .ref z6, .ref z7, .ref z8, .ref z9, .int (nI z10), .ref z11, .ref z12, .ref z13, .ref z14, .ref z15, .int (nI z16), .ref z17, .int z18, .ref z19]))] L M sz)) (va_Qi (fun (r : Int32) (M9 : Hp) => WOM cy K L M9 ∧ fr K L [47, 48] M M9 ∧ (R5 z6 z7 M9) ∧ ((r = ansP k1 k2 z2 z3))) (fun M9 t => ∃ (w4 : Int32) (w5 : Int32), PQ D [(za, .inr (13, [.int 0, .ref z1, .int (nI z2), .int (nI (cntQ k1 k2 z2 z3)), .int w4, .int w5, .ref z6, .ref z7, .ref z8, .ref z9, .int (nI z10), .ref z11, .ref z12, .ref z13, .ref z14, .ref z15, .int (nI z16), .ref z17, .int z18, .ref z19]))] L M9 (va_A ([(za, .inr (13, [.int z0, .ref z1, .int (nI z2), .int (nI z3), .int z4, .int z5, .ref z6, .ref z7, .ref z8, .ref z9, .int (nI z10), .ref z11, .ref z12, .ref z13, .ref z14, .ref z15, .int (nI z16), .ref z17, .int z18, .ref z19]))] ++ va_pl L M) sz) t) (va_A ([(za, .inr (13, [.int z0, .ref z1, .int (nI z2), .int (nI z3), .int z4, .int z5, .ref z6, .ref z7, .ref z8, .ref z9, .int (nI z10), .ref z11, .ref z12, .ref z13, .ref z14, .ref z15, .int (nI z16), .ref z17, .int z18, .ref z19]))] ++ va_pl L M) sz)) 0 0 (va_A ([(za, .inr (13, [.int z0, .ref z1, .int (nI z2), .int (nI z3), .int z4, .int z5, .ref z6, .ref z7, .ref z8, .ref z9, .int (nI z10), .ref z11, .ref z12, .ref z13, .ref z14, .ref z15, .int (nI z16), .ref z17, .int z18, .ref z19]))] ++ va_pl L M) sz) := by
  refine Met.ofW (cc := cX13_partner) (maxL := 4) (ret := (some .int)) (by decide) rfl ?_
  intro p e s m args below meth c s₁ B hml hv
  obtain ⟨rfl, hsz, hP, hK, hD0, hN⟩ := hv
  have hx := B.exec
  have hb := B.bytes
  have hr := B.returns
  have hts := atoms_spec (ws := (wsM yX13_partner cX13_partner 4 (some .int))) B.pre
  have hg : ∀ w ∈ lw_good, w.before _ s = true := fun w h => hts w (List.mem_cons_of_mem _ h)
  have hown : s.vm.findClass RX13 = some m.cls := findClass_of_methodNamed B.named
  have hlocks := B.notSynchronized
  subst hsz
  have hD := hD0.self (sz := s.heap.size)
  generalize hAe : va_A ([(za, .inr (13, [.int z0, .ref z1, .int (nI z2), .int (nI z3), .int z4, .int z5, .ref z6, .ref z7, .ref z8, .ref z9, .int (nI z10), .ref z11, .ref z12, .ref z13, .ref z14, .ref z15, .int (nI z16), .ref z17, .int z18, .ref z19]))] ++ va_pl L M) s.heap.size = A at hD ⊢
  have hA : ∀ q : Nat, s.heap.size ≤ q → A q := fun q h => by rw [← hAe]; exact Or.inr h
  have hS : va_S A s.heap s.heap [] := va_S.rf
  have hl := lv_entry ([.ref za, .int k1, .int k2]) (n := 4) (Nat.le_of_ble_eq_true rfl)
  rw [lg_entry_eq]
  generalize (lg_sl ([.ref za, .int k1, .int k2]) ++ List.replicate (4 - (lg_sl ([.ref za, .int k1, .int k2])).length) Slot.unset).toArray = ls at hl ⊢
  refine W.nameQ (fun Q hQ => ?_)
  refine W.nameR (fun R hR => ?_)
  have hRf : 1 ≤ R.frames := by rw [hR]; exact Nat.le_of_ble_eq_true rfl
  have hRl : 21 ≤ R.locals := by rw [hR]; exact Nat.le_of_ble_eq_true rfl
  have hRc : 0 ≤ R.cells := by rw [hR]; exact Nat.le_of_ble_eq_true rfl
  have hRs : 0 ≤ R.slots := by rw [hR]; exact Nat.le_of_ble_eq_true rfl
  have hF : fr K L [47, 48] M M := fr.rf
  have hl : lv_has ls 4 [(0, .ref za), (1, .int k1), (2, .int k2)] := hl
  refine lv_aload_n hx hb dX13_partner_0 rfl (lv_at hl 0 rfl) ?_
  refine lv_iconst (v := 0) hx hb dX13_partner_1 (by decide) ?_
  refine va_put (D := D) (ci := 13) (v := .int 0) (ty := .int) (C := RX13) (T := TX13) (N := 20) hx hb hg inG13 tyX13 tyX13_ok nmX13 hown hK hP hD hS 0 rfl rfl 0 (by decide) (hg _ wd_720) (fun _ h9 => h9) rfl (by decide +kernel) rfl rfl (Nat.le_of_ble_eq_true rfl) dX13_partner_2 (fun H_1 locs hP hD hS => ?_)
  have hP : va_P D vwCl ([(za, .inr (13, [.int 0, .ref z1, .int (nI z2), .int (nI z3), .int z4, .int z5, .ref z6, .ref z7, .ref z8, .ref z9, .int (nI z10), .ref z11, .ref z12, .ref z13, .ref z14, .ref z15, .int (nI z16), .ref z17, .int z18, .ref z19]))] ++ va_pl L M) H_1 := hP
  have hD : va_D A ([(za, .inr (13, [.int 0, .ref z1, .int (nI z2), .int (nI z3), .int z4, .int z5, .ref z6, .ref z7, .ref z8, .ref z9, .int (nI z10), .ref z11, .ref z12, .ref z13, .ref z14, .ref z15, .int (nI z16), .ref z17, .int z18, .ref z19]))] ++ va_pl L M) := hD
  refine lv_iload_n hx hb dX13_partner_5 rfl (lv_at hl 1 rfl) ?_
  refine lv_iconst (v := 1) hx hb dX13_partner_6 (by decide) ?_
  refine lv_icmp_eq (tgt := 20) hx hb dX13_partner_7 (by decide) (fun c_2 => ?_) (fun c_2 => ?_)
  · have hz := rfl (a := 0)
    refine lv_iconst (v := 1) hx hb dX13_partner_20 (by decide) ?_
    refine lv_goto (tgt := 25) hx hb dX13_partner_21 (by decide) ?_
    refine lv_istore_n (lv' := [(3, .int 1), (0, .ref za), (1, .int k1), (2, .int k2)]) hx hb dX13_partner_25 rfl hl (by decide) rfl (fun ls hl => ?_)
    have hlim : (k1 = 1 ∨ k1 = 2 ∨ k1 = 4) := Or.inl c_2
    refine lv_iload_n hx hb dX13_partner_26 rfl (lv_at hl 2 rfl) ?_
    refine lv_if_lt (tgt := 49) hx hb dX13_partner_27 (by decide) (fun c_3 => absurd c_3 (by rw [c_2]; decide)) (fun c_3 => ?_)
    refine lv_iload_n hx hb dX13_partner_30 rfl (lv_at hl 2 rfl) ?_
    refine lv_iconst (v := 5) hx hb dX13_partner_31 (by decide) ?_
    refine lv_icmp_gt (tgt := 49) hx hb dX13_partner_32 (by decide) (fun c_4 => absurd c_4 (by rw [c_2]; decide)) (fun c_4 => ?_)
    refine lv_iload_n hx hb dX13_partner_35 rfl (lv_at hl 0 rfl) ?_
    refine lv_if_eq (tgt := 55) hx hb dX13_partner_36 (by decide) (fun c_5 => absurd c_5 (by decide)) (fun _ => ?_)
    refine lv_iload_n hx hb dX13_partner_39 rfl (lv_at hl 3 rfl) ?_
    refine lv_if_lt (tgt := 49) hx hb dX13_partner_40 (by decide) (fun c_6 => ?_) (fun c_6 => ?_)
    · have hz := rfl (a := 0)
      refine lv_aload_n hx hb dX13_partner_49 rfl (lv_at hl 1 rfl) ?_
      refine lv_iconst (v := 2) hx hb dX13_partner_50 (by decide) ?_
      have hPc := hP.sub (ws' := [(za, .inr (13, [.int 0, .ref z1, .int (nI z2), .int (nI z3), .int z4, .int z5, .ref z6, .ref z7, .ref z8, .ref z9, .int (nI z10), .ref z11, .ref z12, .ref z13, .ref z14, .ref z15, .int (nI z16), .ref z17, .int z18, .ref z19]))]) [0] rfl
      have hDc := hD.sub (ws' := [(za, .inr (13, [.int 0, .ref z1, .int (nI z2), .int (nI z3), .int z4, .int z5, .ref z6, .ref z7, .ref z8, .ref z9, .int (nI z10), .ref z11, .ref z12, .ref z13, .ref z14, .ref z15, .int (nI z16), .ref z17, .int z18, .ref z19]))]) [0] (by decide) rfl
      have hKc := hK.sub (tys' := []) [] rfl
      have hFc := va_free (wc := [(za, .inr (13, [.int 0, .ref z1, .int (nI z2), .int (nI z3), .int z4, .int z5, .ref z6, .ref z7, .ref z8, .ref z9, .int (nI z10), .ref z11, .ref z12, .ref z13, .ref z14, .ref z15, .int (nI z16), .ref z17, .int z18, .ref z19]))]) hD hS hA [0] rfl
      refine va_calli (va_runV (As := [.int 2]) (rest := []) ⟨hx, hb, hml, hown, hg⟩ (m_refused l D H_1.size za 0 z1 (nI z2) (nI z3) z4 z5 z6 z7 z8 z9 (nI z10) z11 z12 z13 z14 z15 (nI z16) z17 z18 z19 2) (cwV 1 hg (gV wd_725 wd_726 wd_727 wd_717 wd_728) rfl rfl rfl (by decide +kernel) ⟨(Nat.le_trans (Nat.le_of_ble_eq_true rfl) hRf), (Nat.le_trans (Nat.le_of_ble_eq_true rfl) hRl)⟩) ⟨Pr.blind, va_recv hK hP (ci := 13) (q0 := 0) rfl rfl, fun U hU hW => ⟨rfl, Pr.at hPc hKc hDc hN hU hW⟩⟩ rfl rfl hl.1 rfl (lv_room (Nat.le_of_ble_eq_true rfl)) dX13_partner_51 ⟨(Nat.le_trans (Nat.le_of_ble_eq_true rfl) hRc), (Nat.le_trans (Nat.le_of_ble_eq_true rfl) hRs)⟩) hS (fun q _ h => hFc q h) hFc (fun r_8 M_9 t H_7 locs ht hvm hw hB hz1 hk1 hS => ?_)
      have hp_10 := hw
      obtain ⟨hP1, hK1, hD1⟩ := hB
      rw [ht] at hP1
      obtain ⟨hP, hD⟩ := va_joinQ (X := [(za, .inr (13, [.int 0, .ref z1, .int (nI z2), .int (nI z3), .int z4, .int z5, .ref z6, .ref z7, .ref z8, .ref z9, .int (nI z10), .ref z11, .ref z12, .ref z13, .ref z14, .ref z15, .int (nI z16), .ref z17, .int z18, .ref z19]))]) (cx := [(za, .inr (13, [.int 0, .ref z1, .int (nI z2), .int (nI z3), .int z4, .int z5, .ref z6, .ref z7, .ref z8, .ref z9, .int (nI z10), .ref z11, .ref z12, .ref z13, .ref z14, .ref z15, .int (nI z16), .ref z17, .int z18, .ref z19]))]) (wr := []) (w1 := [(za, .inr (13, [.int 0, .ref z1, .int (nI z2), .int (nI z3), .int 2, .int (-1), .ref z6, .ref z7, .ref z8, .ref z9, .int (nI z10), .ref z11, .ref z12, .ref z13, .ref z14, .ref z15, .int (nI z16), .ref z17, .int z18, .ref z19]))]) (pl := va_pl L M) hP hD [0] [] rfl rfl (by decide) (by decide) hk1 hFc hP1 hD1
      have hP : va_P D vwCl ([(za, .inr (13, [.int 0, .ref z1, .int (nI z2), .int (nI z3), .int 2, .int (-1), .ref z6, .ref z7, .ref z8, .ref z9, .int (nI z10), .ref z11, .ref z12, .ref z13, .ref z14, .ref z15, .int (nI z16), .ref z17, .int z18, .ref z19]))] ++ va_pl L M) H_7 := hP
      have hD : va_D A ([(za, .inr (13, [.int 0, .ref z1, .int (nI z2), .int (nI z3), .int 2, .int (-1), .ref z6, .ref z7, .ref z8, .ref z9, .int (nI z10), .ref z11, .ref z12, .ref z13, .ref z14, .ref z15, .int (nI z16), .ref z17, .int z18, .ref z19]))] ++ va_pl L M) := hD
      have hq := Eq.symm hp_10
      subst hq
      have hE : cntQ k1 k2 z2 z3 = z3 := by unfold cntQ; rw [if_neg (fun q => (q.1.2.2.1 hlim).1 c_6)]
      have hP : va_P D vwCl ([(za, .inr (13, [.int 0, .ref z1, .int (nI z2), .int (nI (cntQ k1 k2 z2 z3)), .int 2, .int (-1), .ref z6, .ref z7, .ref z8, .ref z9, .int (nI z10), .ref z11, .ref z12, .ref z13, .ref z14, .ref z15, .int (nI z16), .ref z17, .int z18, .ref z19]))] ++ va_pl L M) H_7 := by rw [hE]; exact hP
      have hD : va_D A ([(za, .inr (13, [.int 0, .ref z1, .int (nI z2), .int (nI (cntQ k1 k2 z2 z3)), .int 2, .int (-1), .ref z6, .ref z7, .ref z8, .ref z9, .int (nI z10), .ref z11, .ref z12, .ref z13, .ref z14, .ref z15, .int (nI z16), .ref z17, .int z18, .ref z19]))] ++ va_pl L M) := by rw [hE]; exact hD
      rw [hQ]
      exact W.iret (v := (-1)) hx hb hr (fun t ht hW9 => ⟨⟨(-1), M, rfl, ⟨hW, hF, hR5, (by unfold ansP; rw [if_neg (fun q => (q.1.2.2.1 hlim).1 c_6)]; first | done | rfl)⟩, ⟨2, (-1), by rw [ht]; exact hP, hD⟩⟩, hS.F ht⟩) hS.2.2 dX13_partner_54
    · have hz := rfl (a := 0)
      refine lv_iload_n hx hb dX13_partner_43 rfl (lv_at hl 3 rfl) ?_
      refine lv_ldc (v := 1000000000) hx hb hown (hg _ wd_712) dX13_partner_44 ?_
      refine lv_icmp_le (tgt := 55) hx hb dX13_partner_46 (by decide) (fun c_11 => ?_) (fun c_11 => ?_)
      · have hz := rfl (a := 0)
        refine lv_iload_n hx hb dX13_partner_55 rfl (lv_at hl 2 rfl) ?_
        refine lv_iconst (v := 5) hx hb dX13_partner_56 (by decide) ?_
        refine lv_icmp_ne (tgt := 74) hx hb dX13_partner_57 (by decide) (fun c_12 => ?_) (fun c_12 => absurd c_12 (by rw [c_2]; decide))
        refine lv_aload_n hx hb dX13_partner_74 rfl (lv_at hl 1 rfl) ?_
        refine va_get (D := D) (ci := 13) (v := .int (nI z3)) (C := RX13) (T := TX13) (N := 20) hx hb hg inG13 hown hK hP 0 rfl rfl 3 (by decide) (hg _ wd_831) (fun _ h9 => h9) rfl dX13_partner_75 ?_
        refine lv_bipush (v := 40) hx hb dX13_partner_78 (by decide) ?_
        refine lv_icmp_ne (tgt := 90) hx hb dX13_partner_80 (by decide) (fun c_13 => ?_) (fun c_13 => ?_)
        · have hz := rfl (a := 0)
          have n_14 : ¬ (z3 = 40) := fun q => c_13 ((iEQ (a := z3) (b := 40) (by omega) (by omega)).mpr q)
          obtain ⟨f15, hM15, hf15⟩ := hW.open_47 i6
          obtain ⟨f16, hM16⟩ := hW.open_48 i7
          have he6 := hM15
          have he7 := hM16
          refine lv_aload_n hx hb dX13_partner_90 rfl (lv_at hl 1 rfl) ?_
          refine va_get (D := D) (ci := 13) (v := .ref z6) (C := RX13) (T := TX13) (N := 20) hx hb hg inG13 hown hK hP 0 rfl rfl 6 (by decide) (hg _ wd_719) (fun _ h9 => h9) rfl dX13_partner_91 ?_
          refine lv_aload_n hx hb dX13_partner_94 rfl (lv_at hl 1 rfl) ?_
          refine va_get (D := D) (ci := 13) (v := .int (nI z3)) (C := RX13) (T := TX13) (N := 20) hx hb hg inG13 hown hK hP 0 rfl rfl 3 (by decide) (hg _ wd_831) (fun _ h9 => h9) rfl dX13_partner_95 ?_
          refine lv_iload_n hx hb dX13_partner_98 rfl (lv_at hl 2 rfl) ?_
          obtain ⟨j_17, hj_18, rfl⟩ := i32nat 6 (by decide) c_3 (leB (b := 6) (c := 5) (by decide) (by decide) (Int32.not_lt.mp c_4))
          refine pg_iast hx hb hK hP hD hS i6.1 0 hM15 rfl (inbN z3 40 (by omega) (by omega)) dX13_partner_99 (fun H_19 locs hP hD hS => ?_)
          obtain ⟨M_20, eM_20⟩ : ∃ M1 : Hp, M1 = va_up M z6 (.inl (cy 14, 40, .inl (upd f15 ((nI z3) : Int32).toNatClampNeg (nI j_17)))) := ⟨_, rfl⟩
          have hP : va_P D vwCl ([(za, .inr (13, [.int 0, .ref z1, .int (nI z2), .int (nI z3), .int z4, .int z5, .ref z6, .ref z7, .ref z8, .ref z9, .int (nI z10), .ref z11, .ref z12, .ref z13, .ref z14, .ref z15, .int (nI z16), .ref z17, .int z18, .ref z19]))] ++ va_pl L M_20) H_19 := by rw [eM_20]; exact hP
          have hD : va_D A ([(za, .inr (13, [.int 0, .ref z1, .int (nI z2), .int (nI z3), .int z4, .int z5, .ref z6, .ref z7, .ref z8, .ref z9, .int (nI z10), .ref z11, .ref z12, .ref z13, .ref z14, .ref z15, .int (nI z16), .ref z17, .int z18, .ref z19]))] ++ va_pl L M_20) := by rw [eM_20]; exact hD
          have hW : WOM cy K L M_20 := by rw [eM_20]; exact hW.up_47 i6 ⟨_, rfl, (updP (P := fun z => ∃ c : Nat, c < 6 ∧ z = nI c) hf15 ⟨j_17, by omega, rfl⟩)⟩
          have hF : fr K L [47, 48] M M_20 := by rw [eM_20]; exact hF.up i6 (by decide)
          have hM_21 : M_20 z6 = .inl (cy 14, 40, .inl (upd f15 ((nI z3) : Int32).toNatClampNeg (nI j_17))) := by rw [eM_20]; exact va_up_self _ _ _
          have hM_22 : M_20 z7 = .inl (cy 14, 40, .inl (f16)) := by rw [eM_20, va_up_ne _ _ (i7.neT i6 (by decide))]; exact hM16
          have hf_24 : ∀ j, j < 40 → ∃ c : Nat, c < 6 ∧ (upd f15 ((nI z3) : Int32).toNatClampNeg (nI j_17)) j = nI c := (updP (P := fun z => ∃ c : Nat, c < 6 ∧ z = nI c) hf15 ⟨j_17, by omega, rfl⟩)
          obtain ⟨f_23, ef_23⟩ : ∃ f : Nat → Int32, f = upd f15 ((nI z3) : Int32).toNatClampNeg (nI j_17) := ⟨_, rfl⟩
          rw [← ef_23] at hM_21 hf_24
          refine lv_aload_n hx hb dX13_partner_100 rfl (lv_at hl 1 rfl) ?_
          refine va_get (D := D) (ci := 13) (v := .ref z7) (C := RX13) (T := TX13) (N := 20) hx hb hg inG13 hown hK hP 0 rfl rfl 7 (by decide) (hg _ wd_760) (fun _ h9 => h9) rfl dX13_partner_101 ?_
          refine lv_aload_n hx hb dX13_partner_104 rfl (lv_at hl 1 rfl) ?_
          refine va_get (D := D) (ci := 13) (v := .int (nI z3)) (C := RX13) (T := TX13) (N := 20) hx hb hg inG13 hown hK hP 0 rfl rfl 3 (by decide) (hg _ wd_831) (fun _ h9 => h9) rfl dX13_partner_105 ?_
          refine lv_iload_n hx hb dX13_partner_108 rfl (lv_at hl 3 rfl) ?_
          refine pg_iast hx hb hK hP hD hS i7.1 0 hM_22 rfl (inbN z3 40 (by omega) (by omega)) dX13_partner_109 (fun H_25 locs hP hD hS => ?_)
          obtain ⟨M_26, eM_26⟩ : ∃ M1 : Hp, M1 = va_up M_20 z7 (.inl (cy 14, 40, .inl (upd f16 ((nI z3) : Int32).toNatClampNeg k2))) := ⟨_, rfl⟩
          have hP : va_P D vwCl ([(za, .inr (13, [.int 0, .ref z1, .int (nI z2), .int (nI z3), .int z4, .int z5, .ref z6, .ref z7, .ref z8, .ref z9, .int (nI z10), .ref z11, .ref z12, .ref z13, .ref z14, .ref z15, .int (nI z16), .ref z17, .int z18, .ref z19]))] ++ va_pl L M_26) H_25 := by rw [eM_26]; exact hP
          have hD : va_D A ([(za, .inr (13, [.int 0, .ref z1, .int (nI z2), .int (nI z3), .int z4, .int z5, .ref z6, .ref z7, .ref z8, .ref z9, .int (nI z10), .ref z11, .ref z12, .ref z13, .ref z14, .ref z15, .int (nI z16), .ref z17, .int z18, .ref z19]))] ++ va_pl L M_26) := by rw [eM_26]; exact hD
          have hW : WOM cy K L M_26 := by rw [eM_26]; exact hW.up_48 i7 ⟨_, rfl⟩
          have hF : fr K L [47, 48] M M_26 := by rw [eM_26]; exact hF.up i7 (by decide)
          have hM_27 : M_26 z7 = .inl (cy 14, 40, .inl (upd f16 ((nI z3) : Int32).toNatClampNeg k2)) := by rw [eM_26]; exact va_up_self _ _ _
          have hM_28 : M_26 z6 = .inl (cy 14, 40, .inl (f_23)) := by rw [eM_26, va_up_ne _ _ (i6.neT i7 (by decide))]; exact hM_21
          obtain ⟨f_29, ef_29⟩ : ∃ f : Nat → Int32, f = upd f16 ((nI z3) : Int32).toNatClampNeg k2 := ⟨_, rfl⟩
          rw [← ef_29] at hM_27
          refine lv_aload_n hx hb dX13_partner_110 rfl (lv_at hl 1 rfl) ?_
          refine lv_dup hx hb dX13_partner_111 rfl ?_
          refine va_get (D := D) (ci := 13) (v := .int (nI z3)) (C := RX13) (T := TX13) (N := 20) hx hb hg inG13 hown hK hP 0 rfl rfl 3 (by decide) (hg _ wd_831) (fun _ h9 => h9) rfl dX13_partner_112 ?_
          refine lv_iconst (v := 1) hx hb dX13_partner_115 (by decide) ?_
          refine lv_iadd hx hb dX13_partner_116 ?_
          refine lv_topi (fun f_30 ef_30 => ?_)
          obtain rfl : f_30 = (nI (z3 + 1)) := ef_30.trans (nI_add z3 1)
          refine va_put (D := D) (ci := 13) (v := .int (nI (z3 + 1))) (ty := .int) (C := RX13) (T := TX13) (N := 20) hx hb hg inG13 tyX13 tyX13_ok nmX13 hown hK hP hD hS 0 rfl rfl 3 (by decide) (hg _ wd_831) (fun _ h9 => h9) rfl (by decide +kernel) rfl rfl (Nat.le_of_ble_eq_true rfl) dX13_partner_117 (fun H_31 locs hP hD hS => ?_)
          have hP : va_P D vwCl ([(za, .inr (13, [.int 0, .ref z1, .int (nI z2), .int (nI (z3 + 1)), .int z4, .int z5, .ref z6, .ref z7, .ref z8, .ref z9, .int (nI z10), .ref z11, .ref z12, .ref z13, .ref z14, .ref z15, .int (nI z16), .ref z17, .int z18, .ref z19]))] ++ va_pl L M_26) H_31 := hP
          have hD : va_D A ([(za, .inr (13, [.int 0, .ref z1, .int (nI z2), .int (nI (z3 + 1)), .int z4, .int z5, .ref z6, .ref z7, .ref z8, .ref z9, .int (nI z10), .ref z11, .ref z12, .ref z13, .ref z14, .ref z15, .int (nI z16), .ref z17, .int z18, .ref z19]))] ++ va_pl L M_26) := hD
          refine lv_aload_n hx hb dX13_partner_120 rfl (lv_at hl 1 rfl) ?_
          refine lv_aload_n hx hb dX13_partner_121 rfl (lv_at hl 1 rfl) ?_
          refine va_get (D := D) (ci := 13) (v := .int (nI (z3 + 1))) (C := RX13) (T := TX13) (N := 20) hx hb hg inG13 hown hK hP 0 rfl rfl 3 (by decide) (hg _ wd_831) (fun _ h9 => h9) rfl dX13_partner_122 ?_
          refine lv_iconst (v := 1) hx hb dX13_partner_125 (by decide) ?_
          refine lv_isub hx hb dX13_partner_126 ?_
          refine lv_topi (fun f_32 ef_32 => ?_)
          obtain rfl : f_32 = (nI ((z3 + 1) - 1)) := ef_32.trans (nI_prd (by omega))
          have hPc := hP.sub (ws' := [(za, .inr (13, [.int 0, .ref z1, .int (nI z2), .int (nI (z3 + 1)), .int z4, .int z5, .ref z6, .ref z7, .ref z8, .ref z9, .int (nI z10), .ref z11, .ref z12, .ref z13, .ref z14, .ref z15, .int (nI z16), .ref z17, .int z18, .ref z19]))]) [0] rfl
          have hDc := hD.sub (ws' := [(za, .inr (13, [.int 0, .ref z1, .int (nI z2), .int (nI (z3 + 1)), .int z4, .int z5, .ref z6, .ref z7, .ref z8, .ref z9, .int (nI z10), .ref z11, .ref z12, .ref z13, .ref z14, .ref z15, .int (nI z16), .ref z17, .int z18, .ref z19]))]) [0] (by decide) rfl
          have hKc := hK.sub (tys' := []) [] rfl
          have hFc := va_free (wc := [(za, .inr (13, [.int 0, .ref z1, .int (nI z2), .int (nI (z3 + 1)), .int z4, .int z5, .ref z6, .ref z7, .ref z8, .ref z9, .int (nI z10), .ref z11, .ref z12, .ref z13, .ref z14, .ref z15, .int (nI z16), .ref z17, .int z18, .ref z19]))]) hD hS hA [0] rfl
          refine va_calli (va_runV (As := [.int (nI ((z3 + 1) - 1))]) (rest := []) ⟨hx, hb, hml, hown, hg⟩ (m_done l D H_31.size za 0 z1 (nI z2) (nI (z3 + 1)) z4 z5 z6 z7 z8 z9 (nI z10) z11 z12 z13 z14 z15 (nI z16) z17 z18 z19 (nI ((z3 + 1) - 1))) (cwV 1 hg (gV wd_730 wd_731 wd_732 wd_717 wd_733) rfl rfl rfl (by decide +kernel) ⟨(Nat.le_trans (Nat.le_of_ble_eq_true rfl) hRf), (Nat.le_trans (Nat.le_of_ble_eq_true rfl) hRl)⟩) ⟨Pr.blind, va_recv hK hP (ci := 13) (q0 := 0) rfl rfl, fun U hU hW => ⟨rfl, Pr.at hPc hKc hDc hN hU hW⟩⟩ rfl rfl hl.1 rfl (lv_room (Nat.le_of_ble_eq_true rfl)) dX13_partner_127 ⟨(Nat.le_trans (Nat.le_of_ble_eq_true rfl) hRc), (Nat.le_trans (Nat.le_of_ble_eq_true rfl) hRs)⟩) hS (fun q _ h => hFc q h) hFc (fun r_34 M_35 t H_33 locs ht hvm hw hB hz1 hk1 hS => ?_)
          have hp_36 := hw
          obtain ⟨hP1, hK1, hD1⟩ := hB
          rw [ht] at hP1
          obtain ⟨hP, hD⟩ := va_joinQ (X := [(za, .inr (13, [.int 0, .ref z1, .int (nI z2), .int (nI (z3 + 1)), .int z4, .int z5, .ref z6, .ref z7, .ref z8, .ref z9, .int (nI z10), .ref z11, .ref z12, .ref z13, .ref z14, .ref z15, .int (nI z16), .ref z17, .int z18, .ref z19]))]) (cx := [(za, .inr (13, [.int 0, .ref z1, .int (nI z2), .int (nI (z3 + 1)), .int z4, .int z5, .ref z6, .ref z7, .ref z8, .ref z9, .int (nI z10), .ref z11, .ref z12, .ref z13, .ref z14, .ref z15, .int (nI z16), .ref z17, .int z18, .ref z19]))]) (wr := []) (w1 := [(za, .inr (13, [.int 0, .ref z1, .int (nI z2), .int (nI (z3 + 1)), .int 0, .int (-1), .ref z6, .ref z7, .ref z8, .ref z9, .int (nI z10), .ref z11, .ref z12, .ref z13, .ref z14, .ref z15, .int (nI z16), .ref z17, .int z18, .ref z19]))]) (pl := va_pl L M_26) hP hD [0] [] rfl rfl (by decide) (by decide) hk1 hFc hP1 hD1
          have hP : va_P D vwCl ([(za, .inr (13, [.int 0, .ref z1, .int (nI z2), .int (nI (z3 + 1)), .int 0, .int (-1), .ref z6, .ref z7, .ref z8, .ref z9, .int (nI z10), .ref z11, .ref z12, .ref z13, .ref z14, .ref z15, .int (nI z16), .ref z17, .int z18, .ref z19]))] ++ va_pl L M_26) H_33 := hP
          have hD : va_D A ([(za, .inr (13, [.int 0, .ref z1, .int (nI z2), .int (nI (z3 + 1)), .int 0, .int (-1), .ref z6, .ref z7, .ref z8, .ref z9, .int (nI z10), .ref z11, .ref z12, .ref z13, .ref z14, .ref z15, .int (nI z16), .ref z17, .int z18, .ref z19]))] ++ va_pl L M_26) := hD
          have hq := Eq.symm hp_36
          subst hq
          have hE : cntQ (nI j_17) k2 z2 z3 = (z3 + 1) := by unfold cntQ; rw [if_pos ⟨⟨c_3, (lt6 c_4), (fun _ => ⟨c_6, c_11⟩), (fun q => absurd q c_12)⟩, by omega⟩]
          have hP : va_P D vwCl ([(za, .inr (13, [.int 0, .ref z1, .int (nI z2), .int (nI (cntQ (nI j_17) k2 z2 z3)), .int 0, .int (-1), .ref z6, .ref z7, .ref z8, .ref z9, .int (nI z10), .ref z11, .ref z12, .ref z13, .ref z14, .ref z15, .int (nI z16), .ref z17, .int z18, .ref z19]))] ++ va_pl L M_26) H_33 := by rw [hE]; exact hP
          have hD : va_D A ([(za, .inr (13, [.int 0, .ref z1, .int (nI z2), .int (nI (cntQ (nI j_17) k2 z2 z3)), .int 0, .int (-1), .ref z6, .ref z7, .ref z8, .ref z9, .int (nI z10), .ref z11, .ref z12, .ref z13, .ref z14, .ref z15, .int (nI z16), .ref z17, .int z18, .ref z19]))] ++ va_pl L M_26) := by rw [hE]; exact hD
          have hR9 : R5 z6 z7 M_26 := R5.put hR5 he6 he7 (by rw [hM_28, ef_23]) (by rw [hM_27, ef_29]) (fun q => absurd q c_12)
          rw [hQ]
          exact W.iret (v := (nI ((z3 + 1) - 1))) hx hb hr (fun t ht hW9 => ⟨⟨(nI ((z3 + 1) - 1)), M_26, rfl, ⟨hW, hF, hR9, (by unfold ansP; rw [if_pos ⟨⟨c_3, (lt6 c_4), (fun _ => ⟨c_6, c_11⟩), (fun q => absurd q c_12)⟩, by omega⟩]; first | done | rfl)⟩, ⟨0, (-1), by rw [ht]; exact hP, hD⟩⟩, hS.F ht⟩) hS.2.2 dX13_partner_130
        · have hz := rfl (a := 0)
          have n_37 : z3 = 40 := (iEQ (a := z3) (b := 40) (by omega) (by omega)).mp c_13
          refine lv_aload_n hx hb dX13_partner_83 rfl (lv_at hl 1 rfl) ?_
          refine lv_bipush (v := 9) hx hb dX13_partner_84 (by decide) ?_
          have hPc := hP.sub (ws' := [(za, .inr (13, [.int 0, .ref z1, .int (nI z2), .int (nI z3), .int z4, .int z5, .ref z6, .ref z7, .ref z8, .ref z9, .int (nI z10), .ref z11, .ref z12, .ref z13, .ref z14, .ref z15, .int (nI z16), .ref z17, .int z18, .ref z19]))]) [0] rfl
          have hDc := hD.sub (ws' := [(za, .inr (13, [.int 0, .ref z1, .int (nI z2), .int (nI z3), .int z4, .int z5, .ref z6, .ref z7, .ref z8, .ref z9, .int (nI z10), .ref z11, .ref z12, .ref z13, .ref z14, .ref z15, .int (nI z16), .ref z17, .int z18, .ref z19]))]) [0] (by decide) rfl
          have hKc := hK.sub (tys' := []) [] rfl
          have hFc := va_free (wc := [(za, .inr (13, [.int 0, .ref z1, .int (nI z2), .int (nI z3), .int z4, .int z5, .ref z6, .ref z7, .ref z8, .ref z9, .int (nI z10), .ref z11, .ref z12, .ref z13, .ref z14, .ref z15, .int (nI z16), .ref z17, .int z18, .ref z19]))]) hD hS hA [0] rfl
          refine va_calli (va_runV (As := [.int 9]) (rest := []) ⟨hx, hb, hml, hown, hg⟩ (m_refused l D H_1.size za 0 z1 (nI z2) (nI z3) z4 z5 z6 z7 z8 z9 (nI z10) z11 z12 z13 z14 z15 (nI z16) z17 z18 z19 9) (cwV 1 hg (gV wd_725 wd_726 wd_727 wd_717 wd_728) rfl rfl rfl (by decide +kernel) ⟨(Nat.le_trans (Nat.le_of_ble_eq_true rfl) hRf), (Nat.le_trans (Nat.le_of_ble_eq_true rfl) hRl)⟩) ⟨Pr.blind, va_recv hK hP (ci := 13) (q0 := 0) rfl rfl, fun U hU hW => ⟨rfl, Pr.at hPc hKc hDc hN hU hW⟩⟩ rfl rfl hl.1 rfl (lv_room (Nat.le_of_ble_eq_true rfl)) dX13_partner_86 ⟨(Nat.le_trans (Nat.le_of_ble_eq_true rfl) hRc), (Nat.le_trans (Nat.le_of_ble_eq_true rfl) hRs)⟩) hS (fun q _ h => hFc q h) hFc (fun r_39 M_40 t H_38 locs ht hvm hw hB hz1 hk1 hS => ?_)
          have hp_41 := hw
          obtain ⟨hP1, hK1, hD1⟩ := hB
          rw [ht] at hP1
          obtain ⟨hP, hD⟩ := va_joinQ (X := [(za, .inr (13, [.int 0, .ref z1, .int (nI z2), .int (nI z3), .int z4, .int z5, .ref z6, .ref z7, .ref z8, .ref z9, .int (nI z10), .ref z11, .ref z12, .ref z13, .ref z14, .ref z15, .int (nI z16), .ref z17, .int z18, .ref z19]))]) (cx := [(za, .inr (13, [.int 0, .ref z1, .int (nI z2), .int (nI z3), .int z4, .int z5, .ref z6, .ref z7, .ref z8, .ref z9, .int (nI z10), .ref z11, .ref z12, .ref z13, .ref z14, .ref z15, .int (nI z16), .ref z17, .int z18, .ref z19]))]) (wr := []) (w1 := [(za, .inr (13, [.int 0, .ref z1, .int (nI z2), .int (nI z3), .int 9, .int (-1), .ref z6, .ref z7, .ref z8, .ref z9, .int (nI z10), .ref z11, .ref z12, .ref z13, .ref z14, .ref z15, .int (nI z16), .ref z17, .int z18, .ref z19]))]) (pl := va_pl L M) hP hD [0] [] rfl rfl (by decide) (by decide) hk1 hFc hP1 hD1
          have hP : va_P D vwCl ([(za, .inr (13, [.int 0, .ref z1, .int (nI z2), .int (nI z3), .int 9, .int (-1), .ref z6, .ref z7, .ref z8, .ref z9, .int (nI z10), .ref z11, .ref z12, .ref z13, .ref z14, .ref z15, .int (nI z16), .ref z17, .int z18, .ref z19]))] ++ va_pl L M) H_38 := hP
          have hD : va_D A ([(za, .inr (13, [.int 0, .ref z1, .int (nI z2), .int (nI z3), .int 9, .int (-1), .ref z6, .ref z7, .ref z8, .ref z9, .int (nI z10), .ref z11, .ref z12, .ref z13, .ref z14, .ref z15, .int (nI z16), .ref z17, .int z18, .ref z19]))] ++ va_pl L M) := hD
          have hq := Eq.symm hp_41
          subst hq
          have hE : cntQ k1 k2 z2 z3 = z3 := by unfold cntQ; rw [if_neg (fun q => absurd q.2 (by omega))]
          have hP : va_P D vwCl ([(za, .inr (13, [.int 0, .ref z1, .int (nI z2), .int (nI (cntQ k1 k2 z2 z3)), .int 9, .int (-1), .ref z6, .ref z7, .ref z8, .ref z9, .int (nI z10), .ref z11, .ref z12, .ref z13, .ref z14, .ref z15, .int (nI z16), .ref z17, .int z18, .ref z19]))] ++ va_pl L M) H_38 := by rw [hE]; exact hP
          have hD : va_D A ([(za, .inr (13, [.int 0, .ref z1, .int (nI z2), .int (nI (cntQ k1 k2 z2 z3)), .int 9, .int (-1), .ref z6, .ref z7, .ref z8, .ref z9, .int (nI z10), .ref z11, .ref z12, .ref z13, .ref z14, .ref z15, .int (nI z16), .ref z17, .int z18, .ref z19]))] ++ va_pl L M) := by rw [hE]; exact hD
          rw [hQ]
          exact W.iret (v := (-1)) hx hb hr (fun t ht hW9 => ⟨⟨(-1), M, rfl, ⟨hW, hF, hR5, (by unfold ansP; rw [if_neg (fun q => absurd q.2 (by omega))]; first | done | rfl)⟩, ⟨9, (-1), by rw [ht]; exact hP, hD⟩⟩, hS.F ht⟩) hS.2.2 dX13_partner_89
      · have hz := rfl (a := 0)
        have n_42 : ¬ k2 < 0 := gtN (c := 1000000000) (by omega) (Int32.not_le.mp c_11)
        refine lv_aload_n hx hb dX13_partner_49 rfl (lv_at hl 1 rfl) ?_
        refine lv_iconst (v := 2) hx hb dX13_partner_50 (by decide) ?_
        have hPc := hP.sub (ws' := [(za, .inr (13, [.int 0, .ref z1, .int (nI z2), .int (nI z3), .int z4, .int z5, .ref z6, .ref z7, .ref z8, .ref z9, .int (nI z10), .ref z11, .ref z12, .ref z13, .ref z14, .ref z15, .int (nI z16), .ref z17, .int z18, .ref z19]))]) [0] rfl
        have hDc := hD.sub (ws' := [(za, .inr (13, [.int 0, .ref z1, .int (nI z2), .int (nI z3), .int z4, .int z5, .ref z6, .ref z7, .ref z8, .ref z9, .int (nI z10), .ref z11, .ref z12, .ref z13, .ref z14, .ref z15, .int (nI z16), .ref z17, .int z18, .ref z19]))]) [0] (by decide) rfl
        have hKc := hK.sub (tys' := []) [] rfl
        have hFc := va_free (wc := [(za, .inr (13, [.int 0, .ref z1, .int (nI z2), .int (nI z3), .int z4, .int z5, .ref z6, .ref z7, .ref z8, .ref z9, .int (nI z10), .ref z11, .ref z12, .ref z13, .ref z14, .ref z15, .int (nI z16), .ref z17, .int z18, .ref z19]))]) hD hS hA [0] rfl
        refine va_calli (va_runV (As := [.int 2]) (rest := []) ⟨hx, hb, hml, hown, hg⟩ (m_refused l D H_1.size za 0 z1 (nI z2) (nI z3) z4 z5 z6 z7 z8 z9 (nI z10) z11 z12 z13 z14 z15 (nI z16) z17 z18 z19 2) (cwV 1 hg (gV wd_725 wd_726 wd_727 wd_717 wd_728) rfl rfl rfl (by decide +kernel) ⟨(Nat.le_trans (Nat.le_of_ble_eq_true rfl) hRf), (Nat.le_trans (Nat.le_of_ble_eq_true rfl) hRl)⟩) ⟨Pr.blind, va_recv hK hP (ci := 13) (q0 := 0) rfl rfl, fun U hU hW => ⟨rfl, Pr.at hPc hKc hDc hN hU hW⟩⟩ rfl rfl hl.1 rfl (lv_room (Nat.le_of_ble_eq_true rfl)) dX13_partner_51 ⟨(Nat.le_trans (Nat.le_of_ble_eq_true rfl) hRc), (Nat.le_trans (Nat.le_of_ble_eq_true rfl) hRs)⟩) hS (fun q _ h => hFc q h) hFc (fun r_44 M_45 t H_43 locs ht hvm hw hB hz1 hk1 hS => ?_)
        have hp_46 := hw
        obtain ⟨hP1, hK1, hD1⟩ := hB
        rw [ht] at hP1
        obtain ⟨hP, hD⟩ := va_joinQ (X := [(za, .inr (13, [.int 0, .ref z1, .int (nI z2), .int (nI z3), .int z4, .int z5, .ref z6, .ref z7, .ref z8, .ref z9, .int (nI z10), .ref z11, .ref z12, .ref z13, .ref z14, .ref z15, .int (nI z16), .ref z17, .int z18, .ref z19]))]) (cx := [(za, .inr (13, [.int 0, .ref z1, .int (nI z2), .int (nI z3), .int z4, .int z5, .ref z6, .ref z7, .ref z8, .ref z9, .int (nI z10), .ref z11, .ref z12, .ref z13, .ref z14, .ref z15, .int (nI z16), .ref z17, .int z18, .ref z19]))]) (wr := []) (w1 := [(za, .inr (13, [.int 0, .ref z1, .int (nI z2), .int (nI z3), .int 2, .int (-1), .ref z6, .ref z7, .ref z8, .ref z9, .int (nI z10), .ref z11, .ref z12, .ref z13, .ref z14, .ref z15, .int (nI z16), .ref z17, .int z18, .ref z19]))]) (pl := va_pl L M) hP hD [0] [] rfl rfl (by decide) (by decide) hk1 hFc hP1 hD1
        have hP : va_P D vwCl ([(za, .inr (13, [.int 0, .ref z1, .int (nI z2), .int (nI z3), .int 2, .int (-1), .ref z6, .ref z7, .ref z8, .ref z9, .int (nI z10), .ref z11, .ref z12, .ref z13, .ref z14, .ref z15, .int (nI z16), .ref z17, .int z18, .ref z19]))] ++ va_pl L M) H_43 := hP
        have hD : va_D A ([(za, .inr (13, [.int 0, .ref z1, .int (nI z2), .int (nI z3), .int 2, .int (-1), .ref z6, .ref z7, .ref z8, .ref z9, .int (nI z10), .ref z11, .ref z12, .ref z13, .ref z14, .ref z15, .int (nI z16), .ref z17, .int z18, .ref z19]))] ++ va_pl L M) := hD
        have hq := Eq.symm hp_46
        subst hq
        have hE : cntQ k1 k2 z2 z3 = z3 := by unfold cntQ; rw [if_neg (fun q => c_11 (q.1.2.2.1 hlim).2)]
        have hP : va_P D vwCl ([(za, .inr (13, [.int 0, .ref z1, .int (nI z2), .int (nI (cntQ k1 k2 z2 z3)), .int 2, .int (-1), .ref z6, .ref z7, .ref z8, .ref z9, .int (nI z10), .ref z11, .ref z12, .ref z13, .ref z14, .ref z15, .int (nI z16), .ref z17, .int z18, .ref z19]))] ++ va_pl L M) H_43 := by rw [hE]; exact hP
        have hD : va_D A ([(za, .inr (13, [.int 0, .ref z1, .int (nI z2), .int (nI (cntQ k1 k2 z2 z3)), .int 2, .int (-1), .ref z6, .ref z7, .ref z8, .ref z9, .int (nI z10), .ref z11, .ref z12, .ref z13, .ref z14, .ref z15, .int (nI z16), .ref z17, .int z18, .ref z19]))] ++ va_pl L M) := by rw [hE]; exact hD
        rw [hQ]
        exact W.iret (v := (-1)) hx hb hr (fun t ht hW9 => ⟨⟨(-1), M, rfl, ⟨hW, hF, hR5, (by unfold ansP; rw [if_neg (fun q => c_11 (q.1.2.2.1 hlim).2)]; first | done | rfl)⟩, ⟨2, (-1), by rw [ht]; exact hP, hD⟩⟩, hS.F ht⟩) hS.2.2 dX13_partner_54
  · have hz := rfl (a := 0)
    refine lv_iload_n hx hb dX13_partner_10 rfl (lv_at hl 1 rfl) ?_
    refine lv_iconst (v := 2) hx hb dX13_partner_11 (by decide) ?_
    refine lv_icmp_eq (tgt := 20) hx hb dX13_partner_12 (by decide) (fun c_47 => ?_) (fun c_47 => ?_)
    · have hz := rfl (a := 0)
      refine lv_iconst (v := 1) hx hb dX13_partner_20 (by decide) ?_
      refine lv_goto (tgt := 25) hx hb dX13_partner_21 (by decide) ?_
      refine lv_istore_n (lv' := [(3, .int 1), (0, .ref za), (1, .int k1), (2, .int k2)]) hx hb dX13_partner_25 rfl hl (by decide) rfl (fun ls hl => ?_)
      have hlim : (k1 = 1 ∨ k1 = 2 ∨ k1 = 4) := Or.inr (Or.inl c_47)
      refine lv_iload_n hx hb dX13_partner_26 rfl (lv_at hl 2 rfl) ?_
      refine lv_if_lt (tgt := 49) hx hb dX13_partner_27 (by decide) (fun c_48 => absurd c_48 (by rw [c_47]; decide)) (fun c_48 => ?_)
      refine lv_iload_n hx hb dX13_partner_30 rfl (lv_at hl 2 rfl) ?_
      refine lv_iconst (v := 5) hx hb dX13_partner_31 (by decide) ?_
      refine lv_icmp_gt (tgt := 49) hx hb dX13_partner_32 (by decide) (fun c_49 => absurd c_49 (by rw [c_47]; decide)) (fun c_49 => ?_)
      refine lv_iload_n hx hb dX13_partner_35 rfl (lv_at hl 0 rfl) ?_
      refine lv_if_eq (tgt := 55) hx hb dX13_partner_36 (by decide) (fun c_50 => absurd c_50 (by decide)) (fun _ => ?_)
      refine lv_iload_n hx hb dX13_partner_39 rfl (lv_at hl 3 rfl) ?_
      refine lv_if_lt (tgt := 49) hx hb dX13_partner_40 (by decide) (fun c_51 => ?_) (fun c_51 => ?_)
      · have hz := rfl (a := 0)
        refine lv_aload_n hx hb dX13_partner_49 rfl (lv_at hl 1 rfl) ?_
        refine lv_iconst (v := 2) hx hb dX13_partner_50 (by decide) ?_
        have hPc := hP.sub (ws' := [(za, .inr (13, [.int 0, .ref z1, .int (nI z2), .int (nI z3), .int z4, .int z5, .ref z6, .ref z7, .ref z8, .ref z9, .int (nI z10), .ref z11, .ref z12, .ref z13, .ref z14, .ref z15, .int (nI z16), .ref z17, .int z18, .ref z19]))]) [0] rfl
        have hDc := hD.sub (ws' := [(za, .inr (13, [.int 0, .ref z1, .int (nI z2), .int (nI z3), .int z4, .int z5, .ref z6, .ref z7, .ref z8, .ref z9, .int (nI z10), .ref z11, .ref z12, .ref z13, .ref z14, .ref z15, .int (nI z16), .ref z17, .int z18, .ref z19]))]) [0] (by decide) rfl
        have hKc := hK.sub (tys' := []) [] rfl
        have hFc := va_free (wc := [(za, .inr (13, [.int 0, .ref z1, .int (nI z2), .int (nI z3), .int z4, .int z5, .ref z6, .ref z7, .ref z8, .ref z9, .int (nI z10), .ref z11, .ref z12, .ref z13, .ref z14, .ref z15, .int (nI z16), .ref z17, .int z18, .ref z19]))]) hD hS hA [0] rfl
        refine va_calli (va_runV (As := [.int 2]) (rest := []) ⟨hx, hb, hml, hown, hg⟩ (m_refused l D H_1.size za 0 z1 (nI z2) (nI z3) z4 z5 z6 z7 z8 z9 (nI z10) z11 z12 z13 z14 z15 (nI z16) z17 z18 z19 2) (cwV 1 hg (gV wd_725 wd_726 wd_727 wd_717 wd_728) rfl rfl rfl (by decide +kernel) ⟨(Nat.le_trans (Nat.le_of_ble_eq_true rfl) hRf), (Nat.le_trans (Nat.le_of_ble_eq_true rfl) hRl)⟩) ⟨Pr.blind, va_recv hK hP (ci := 13) (q0 := 0) rfl rfl, fun U hU hW => ⟨rfl, Pr.at hPc hKc hDc hN hU hW⟩⟩ rfl rfl hl.1 rfl (lv_room (Nat.le_of_ble_eq_true rfl)) dX13_partner_51 ⟨(Nat.le_trans (Nat.le_of_ble_eq_true rfl) hRc), (Nat.le_trans (Nat.le_of_ble_eq_true rfl) hRs)⟩) hS (fun q _ h => hFc q h) hFc (fun r_53 M_54 t H_52 locs ht hvm hw hB hz1 hk1 hS => ?_)
        have hp_55 := hw
        obtain ⟨hP1, hK1, hD1⟩ := hB
        rw [ht] at hP1
        obtain ⟨hP, hD⟩ := va_joinQ (X := [(za, .inr (13, [.int 0, .ref z1, .int (nI z2), .int (nI z3), .int z4, .int z5, .ref z6, .ref z7, .ref z8, .ref z9, .int (nI z10), .ref z11, .ref z12, .ref z13, .ref z14, .ref z15, .int (nI z16), .ref z17, .int z18, .ref z19]))]) (cx := [(za, .inr (13, [.int 0, .ref z1, .int (nI z2), .int (nI z3), .int z4, .int z5, .ref z6, .ref z7, .ref z8, .ref z9, .int (nI z10), .ref z11, .ref z12, .ref z13, .ref z14, .ref z15, .int (nI z16), .ref z17, .int z18, .ref z19]))]) (wr := []) (w1 := [(za, .inr (13, [.int 0, .ref z1, .int (nI z2), .int (nI z3), .int 2, .int (-1), .ref z6, .ref z7, .ref z8, .ref z9, .int (nI z10), .ref z11, .ref z12, .ref z13, .ref z14, .ref z15, .int (nI z16), .ref z17, .int z18, .ref z19]))]) (pl := va_pl L M) hP hD [0] [] rfl rfl (by decide) (by decide) hk1 hFc hP1 hD1
        have hP : va_P D vwCl ([(za, .inr (13, [.int 0, .ref z1, .int (nI z2), .int (nI z3), .int 2, .int (-1), .ref z6, .ref z7, .ref z8, .ref z9, .int (nI z10), .ref z11, .ref z12, .ref z13, .ref z14, .ref z15, .int (nI z16), .ref z17, .int z18, .ref z19]))] ++ va_pl L M) H_52 := hP
        have hD : va_D A ([(za, .inr (13, [.int 0, .ref z1, .int (nI z2), .int (nI z3), .int 2, .int (-1), .ref z6, .ref z7, .ref z8, .ref z9, .int (nI z10), .ref z11, .ref z12, .ref z13, .ref z14, .ref z15, .int (nI z16), .ref z17, .int z18, .ref z19]))] ++ va_pl L M) := hD
        have hq := Eq.symm hp_55
        subst hq
        have hE : cntQ k1 k2 z2 z3 = z3 := by unfold cntQ; rw [if_neg (fun q => (q.1.2.2.1 hlim).1 c_51)]
        have hP : va_P D vwCl ([(za, .inr (13, [.int 0, .ref z1, .int (nI z2), .int (nI (cntQ k1 k2 z2 z3)), .int 2, .int (-1), .ref z6, .ref z7, .ref z8, .ref z9, .int (nI z10), .ref z11, .ref z12, .ref z13, .ref z14, .ref z15, .int (nI z16), .ref z17, .int z18, .ref z19]))] ++ va_pl L M) H_52 := by rw [hE]; exact hP
        have hD : va_D A ([(za, .inr (13, [.int 0, .ref z1, .int (nI z2), .int (nI (cntQ k1 k2 z2 z3)), .int 2, .int (-1), .ref z6, .ref z7, .ref z8, .ref z9, .int (nI z10), .ref z11, .ref z12, .ref z13, .ref z14, .ref z15, .int (nI z16), .ref z17, .int z18, .ref z19]))] ++ va_pl L M) := by rw [hE]; exact hD
        rw [hQ]
        exact W.iret (v := (-1)) hx hb hr (fun t ht hW9 => ⟨⟨(-1), M, rfl, ⟨hW, hF, hR5, (by unfold ansP; rw [if_neg (fun q => (q.1.2.2.1 hlim).1 c_51)]; first | done | rfl)⟩, ⟨2, (-1), by rw [ht]; exact hP, hD⟩⟩, hS.F ht⟩) hS.2.2 dX13_partner_54
      · have hz := rfl (a := 0)
        refine lv_iload_n hx hb dX13_partner_43 rfl (lv_at hl 3 rfl) ?_
        refine lv_ldc (v := 1000000000) hx hb hown (hg _ wd_712) dX13_partner_44 ?_
        refine lv_icmp_le (tgt := 55) hx hb dX13_partner_46 (by decide) (fun c_56 => ?_) (fun c_56 => ?_)
        · have hz := rfl (a := 0)
          refine lv_iload_n hx hb dX13_partner_55 rfl (lv_at hl 2 rfl) ?_
          refine lv_iconst (v := 5) hx hb dX13_partner_56 (by decide) ?_
          refine lv_icmp_ne (tgt := 74) hx hb dX13_partner_57 (by decide) (fun c_57 => ?_) (fun c_57 => absurd c_57 (by rw [c_47]; decide))
          refine lv_aload_n hx hb dX13_partner_74 rfl (lv_at hl 1 rfl) ?_
          refine va_get (D := D) (ci := 13) (v := .int (nI z3)) (C := RX13) (T := TX13) (N := 20) hx hb hg inG13 hown hK hP 0 rfl rfl 3 (by decide) (hg _ wd_831) (fun _ h9 => h9) rfl dX13_partner_75 ?_
          refine lv_bipush (v := 40) hx hb dX13_partner_78 (by decide) ?_
          refine lv_icmp_ne (tgt := 90) hx hb dX13_partner_80 (by decide) (fun c_58 => ?_) (fun c_58 => ?_)
          · have hz := rfl (a := 0)
            have n_59 : ¬ (z3 = 40) := fun q => c_58 ((iEQ (a := z3) (b := 40) (by omega) (by omega)).mpr q)
            obtain ⟨f60, hM60, hf60⟩ := hW.open_47 i6
            obtain ⟨f61, hM61⟩ := hW.open_48 i7
            have he6 := hM60
            have he7 := hM61
            refine lv_aload_n hx hb dX13_partner_90 rfl (lv_at hl 1 rfl) ?_
            refine va_get (D := D) (ci := 13) (v := .ref z6) (C := RX13) (T := TX13) (N := 20) hx hb hg inG13 hown hK hP 0 rfl rfl 6 (by decide) (hg _ wd_719) (fun _ h9 => h9) rfl dX13_partner_91 ?_
            refine lv_aload_n hx hb dX13_partner_94 rfl (lv_at hl 1 rfl) ?_
            refine va_get (D := D) (ci := 13) (v := .int (nI z3)) (C := RX13) (T := TX13) (N := 20) hx hb hg inG13 hown hK hP 0 rfl rfl 3 (by decide) (hg _ wd_831) (fun _ h9 => h9) rfl dX13_partner_95 ?_
            refine lv_iload_n hx hb dX13_partner_98 rfl (lv_at hl 2 rfl) ?_
            obtain ⟨j_62, hj_63, rfl⟩ := i32nat 6 (by decide) c_48 (leB (b := 6) (c := 5) (by decide) (by decide) (Int32.not_lt.mp c_49))
            refine pg_iast hx hb hK hP hD hS i6.1 0 hM60 rfl (inbN z3 40 (by omega) (by omega)) dX13_partner_99 (fun H_64 locs hP hD hS => ?_)
            obtain ⟨M_65, eM_65⟩ : ∃ M1 : Hp, M1 = va_up M z6 (.inl (cy 14, 40, .inl (upd f60 ((nI z3) : Int32).toNatClampNeg (nI j_62)))) := ⟨_, rfl⟩
            have hP : va_P D vwCl ([(za, .inr (13, [.int 0, .ref z1, .int (nI z2), .int (nI z3), .int z4, .int z5, .ref z6, .ref z7, .ref z8, .ref z9, .int (nI z10), .ref z11, .ref z12, .ref z13, .ref z14, .ref z15, .int (nI z16), .ref z17, .int z18, .ref z19]))] ++ va_pl L M_65) H_64 := by rw [eM_65]; exact hP
            have hD : va_D A ([(za, .inr (13, [.int 0, .ref z1, .int (nI z2), .int (nI z3), .int z4, .int z5, .ref z6, .ref z7, .ref z8, .ref z9, .int (nI z10), .ref z11, .ref z12, .ref z13, .ref z14, .ref z15, .int (nI z16), .ref z17, .int z18, .ref z19]))] ++ va_pl L M_65) := by rw [eM_65]; exact hD
            have hW : WOM cy K L M_65 := by rw [eM_65]; exact hW.up_47 i6 ⟨_, rfl, (updP (P := fun z => ∃ c : Nat, c < 6 ∧ z = nI c) hf60 ⟨j_62, by omega, rfl⟩)⟩
            have hF : fr K L [47, 48] M M_65 := by rw [eM_65]; exact hF.up i6 (by decide)
            have hM_66 : M_65 z6 = .inl (cy 14, 40, .inl (upd f60 ((nI z3) : Int32).toNatClampNeg (nI j_62))) := by rw [eM_65]; exact va_up_self _ _ _
            have hM_67 : M_65 z7 = .inl (cy 14, 40, .inl (f61)) := by rw [eM_65, va_up_ne _ _ (i7.neT i6 (by decide))]; exact hM61
            have hf_69 : ∀ j, j < 40 → ∃ c : Nat, c < 6 ∧ (upd f60 ((nI z3) : Int32).toNatClampNeg (nI j_62)) j = nI c := (updP (P := fun z => ∃ c : Nat, c < 6 ∧ z = nI c) hf60 ⟨j_62, by omega, rfl⟩)
            obtain ⟨f_68, ef_68⟩ : ∃ f : Nat → Int32, f = upd f60 ((nI z3) : Int32).toNatClampNeg (nI j_62) := ⟨_, rfl⟩
            rw [← ef_68] at hM_66 hf_69
            refine lv_aload_n hx hb dX13_partner_100 rfl (lv_at hl 1 rfl) ?_
            refine va_get (D := D) (ci := 13) (v := .ref z7) (C := RX13) (T := TX13) (N := 20) hx hb hg inG13 hown hK hP 0 rfl rfl 7 (by decide) (hg _ wd_760) (fun _ h9 => h9) rfl dX13_partner_101 ?_
            refine lv_aload_n hx hb dX13_partner_104 rfl (lv_at hl 1 rfl) ?_
            refine va_get (D := D) (ci := 13) (v := .int (nI z3)) (C := RX13) (T := TX13) (N := 20) hx hb hg inG13 hown hK hP 0 rfl rfl 3 (by decide) (hg _ wd_831) (fun _ h9 => h9) rfl dX13_partner_105 ?_
            refine lv_iload_n hx hb dX13_partner_108 rfl (lv_at hl 3 rfl) ?_
            refine pg_iast hx hb hK hP hD hS i7.1 0 hM_67 rfl (inbN z3 40 (by omega) (by omega)) dX13_partner_109 (fun H_70 locs hP hD hS => ?_)
            obtain ⟨M_71, eM_71⟩ : ∃ M1 : Hp, M1 = va_up M_65 z7 (.inl (cy 14, 40, .inl (upd f61 ((nI z3) : Int32).toNatClampNeg k2))) := ⟨_, rfl⟩
            have hP : va_P D vwCl ([(za, .inr (13, [.int 0, .ref z1, .int (nI z2), .int (nI z3), .int z4, .int z5, .ref z6, .ref z7, .ref z8, .ref z9, .int (nI z10), .ref z11, .ref z12, .ref z13, .ref z14, .ref z15, .int (nI z16), .ref z17, .int z18, .ref z19]))] ++ va_pl L M_71) H_70 := by rw [eM_71]; exact hP
            have hD : va_D A ([(za, .inr (13, [.int 0, .ref z1, .int (nI z2), .int (nI z3), .int z4, .int z5, .ref z6, .ref z7, .ref z8, .ref z9, .int (nI z10), .ref z11, .ref z12, .ref z13, .ref z14, .ref z15, .int (nI z16), .ref z17, .int z18, .ref z19]))] ++ va_pl L M_71) := by rw [eM_71]; exact hD
            have hW : WOM cy K L M_71 := by rw [eM_71]; exact hW.up_48 i7 ⟨_, rfl⟩
            have hF : fr K L [47, 48] M M_71 := by rw [eM_71]; exact hF.up i7 (by decide)
            have hM_72 : M_71 z7 = .inl (cy 14, 40, .inl (upd f61 ((nI z3) : Int32).toNatClampNeg k2)) := by rw [eM_71]; exact va_up_self _ _ _
            have hM_73 : M_71 z6 = .inl (cy 14, 40, .inl (f_68)) := by rw [eM_71, va_up_ne _ _ (i6.neT i7 (by decide))]; exact hM_66
            obtain ⟨f_74, ef_74⟩ : ∃ f : Nat → Int32, f = upd f61 ((nI z3) : Int32).toNatClampNeg k2 := ⟨_, rfl⟩
            rw [← ef_74] at hM_72
            refine lv_aload_n hx hb dX13_partner_110 rfl (lv_at hl 1 rfl) ?_
            refine lv_dup hx hb dX13_partner_111 rfl ?_
            refine va_get (D := D) (ci := 13) (v := .int (nI z3)) (C := RX13) (T := TX13) (N := 20) hx hb hg inG13 hown hK hP 0 rfl rfl 3 (by decide) (hg _ wd_831) (fun _ h9 => h9) rfl dX13_partner_112 ?_
            refine lv_iconst (v := 1) hx hb dX13_partner_115 (by decide) ?_
            refine lv_iadd hx hb dX13_partner_116 ?_
            refine lv_topi (fun f_75 ef_75 => ?_)
            obtain rfl : f_75 = (nI (z3 + 1)) := ef_75.trans (nI_add z3 1)
            refine va_put (D := D) (ci := 13) (v := .int (nI (z3 + 1))) (ty := .int) (C := RX13) (T := TX13) (N := 20) hx hb hg inG13 tyX13 tyX13_ok nmX13 hown hK hP hD hS 0 rfl rfl 3 (by decide) (hg _ wd_831) (fun _ h9 => h9) rfl (by decide +kernel) rfl rfl (Nat.le_of_ble_eq_true rfl) dX13_partner_117 (fun H_76 locs hP hD hS => ?_)
            have hP : va_P D vwCl ([(za, .inr (13, [.int 0, .ref z1, .int (nI z2), .int (nI (z3 + 1)), .int z4, .int z5, .ref z6, .ref z7, .ref z8, .ref z9, .int (nI z10), .ref z11, .ref z12, .ref z13, .ref z14, .ref z15, .int (nI z16), .ref z17, .int z18, .ref z19]))] ++ va_pl L M_71) H_76 := hP
            have hD : va_D A ([(za, .inr (13, [.int 0, .ref z1, .int (nI z2), .int (nI (z3 + 1)), .int z4, .int z5, .ref z6, .ref z7, .ref z8, .ref z9, .int (nI z10), .ref z11, .ref z12, .ref z13, .ref z14, .ref z15, .int (nI z16), .ref z17, .int z18, .ref z19]))] ++ va_pl L M_71) := hD
            refine lv_aload_n hx hb dX13_partner_120 rfl (lv_at hl 1 rfl) ?_
            refine lv_aload_n hx hb dX13_partner_121 rfl (lv_at hl 1 rfl) ?_
            refine va_get (D := D) (ci := 13) (v := .int (nI (z3 + 1))) (C := RX13) (T := TX13) (N := 20) hx hb hg inG13 hown hK hP 0 rfl rfl 3 (by decide) (hg _ wd_831) (fun _ h9 => h9) rfl dX13_partner_122 ?_
            refine lv_iconst (v := 1) hx hb dX13_partner_125 (by decide) ?_
            refine lv_isub hx hb dX13_partner_126 ?_
            refine lv_topi (fun f_77 ef_77 => ?_)
            obtain rfl : f_77 = (nI ((z3 + 1) - 1)) := ef_77.trans (nI_prd (by omega))
            have hPc := hP.sub (ws' := [(za, .inr (13, [.int 0, .ref z1, .int (nI z2), .int (nI (z3 + 1)), .int z4, .int z5, .ref z6, .ref z7, .ref z8, .ref z9, .int (nI z10), .ref z11, .ref z12, .ref z13, .ref z14, .ref z15, .int (nI z16), .ref z17, .int z18, .ref z19]))]) [0] rfl
            have hDc := hD.sub (ws' := [(za, .inr (13, [.int 0, .ref z1, .int (nI z2), .int (nI (z3 + 1)), .int z4, .int z5, .ref z6, .ref z7, .ref z8, .ref z9, .int (nI z10), .ref z11, .ref z12, .ref z13, .ref z14, .ref z15, .int (nI z16), .ref z17, .int z18, .ref z19]))]) [0] (by decide) rfl
            have hKc := hK.sub (tys' := []) [] rfl
            have hFc := va_free (wc := [(za, .inr (13, [.int 0, .ref z1, .int (nI z2), .int (nI (z3 + 1)), .int z4, .int z5, .ref z6, .ref z7, .ref z8, .ref z9, .int (nI z10), .ref z11, .ref z12, .ref z13, .ref z14, .ref z15, .int (nI z16), .ref z17, .int z18, .ref z19]))]) hD hS hA [0] rfl
            refine va_calli (va_runV (As := [.int (nI ((z3 + 1) - 1))]) (rest := []) ⟨hx, hb, hml, hown, hg⟩ (m_done l D H_76.size za 0 z1 (nI z2) (nI (z3 + 1)) z4 z5 z6 z7 z8 z9 (nI z10) z11 z12 z13 z14 z15 (nI z16) z17 z18 z19 (nI ((z3 + 1) - 1))) (cwV 1 hg (gV wd_730 wd_731 wd_732 wd_717 wd_733) rfl rfl rfl (by decide +kernel) ⟨(Nat.le_trans (Nat.le_of_ble_eq_true rfl) hRf), (Nat.le_trans (Nat.le_of_ble_eq_true rfl) hRl)⟩) ⟨Pr.blind, va_recv hK hP (ci := 13) (q0 := 0) rfl rfl, fun U hU hW => ⟨rfl, Pr.at hPc hKc hDc hN hU hW⟩⟩ rfl rfl hl.1 rfl (lv_room (Nat.le_of_ble_eq_true rfl)) dX13_partner_127 ⟨(Nat.le_trans (Nat.le_of_ble_eq_true rfl) hRc), (Nat.le_trans (Nat.le_of_ble_eq_true rfl) hRs)⟩) hS (fun q _ h => hFc q h) hFc (fun r_79 M_80 t H_78 locs ht hvm hw hB hz1 hk1 hS => ?_)
            have hp_81 := hw
            obtain ⟨hP1, hK1, hD1⟩ := hB
            rw [ht] at hP1
            obtain ⟨hP, hD⟩ := va_joinQ (X := [(za, .inr (13, [.int 0, .ref z1, .int (nI z2), .int (nI (z3 + 1)), .int z4, .int z5, .ref z6, .ref z7, .ref z8, .ref z9, .int (nI z10), .ref z11, .ref z12, .ref z13, .ref z14, .ref z15, .int (nI z16), .ref z17, .int z18, .ref z19]))]) (cx := [(za, .inr (13, [.int 0, .ref z1, .int (nI z2), .int (nI (z3 + 1)), .int z4, .int z5, .ref z6, .ref z7, .ref z8, .ref z9, .int (nI z10), .ref z11, .ref z12, .ref z13, .ref z14, .ref z15, .int (nI z16), .ref z17, .int z18, .ref z19]))]) (wr := []) (w1 := [(za, .inr (13, [.int 0, .ref z1, .int (nI z2), .int (nI (z3 + 1)), .int 0, .int (-1), .ref z6, .ref z7, .ref z8, .ref z9, .int (nI z10), .ref z11, .ref z12, .ref z13, .ref z14, .ref z15, .int (nI z16), .ref z17, .int z18, .ref z19]))]) (pl := va_pl L M_71) hP hD [0] [] rfl rfl (by decide) (by decide) hk1 hFc hP1 hD1
            have hP : va_P D vwCl ([(za, .inr (13, [.int 0, .ref z1, .int (nI z2), .int (nI (z3 + 1)), .int 0, .int (-1), .ref z6, .ref z7, .ref z8, .ref z9, .int (nI z10), .ref z11, .ref z12, .ref z13, .ref z14, .ref z15, .int (nI z16), .ref z17, .int z18, .ref z19]))] ++ va_pl L M_71) H_78 := hP
            have hD : va_D A ([(za, .inr (13, [.int 0, .ref z1, .int (nI z2), .int (nI (z3 + 1)), .int 0, .int (-1), .ref z6, .ref z7, .ref z8, .ref z9, .int (nI z10), .ref z11, .ref z12, .ref z13, .ref z14, .ref z15, .int (nI z16), .ref z17, .int z18, .ref z19]))] ++ va_pl L M_71) := hD
            have hq := Eq.symm hp_81
            subst hq
            have hE : cntQ (nI j_62) k2 z2 z3 = (z3 + 1) := by unfold cntQ; rw [if_pos ⟨⟨c_48, (lt6 c_49), (fun _ => ⟨c_51, c_56⟩), (fun q => absurd q c_57)⟩, by omega⟩]
            have hP : va_P D vwCl ([(za, .inr (13, [.int 0, .ref z1, .int (nI z2), .int (nI (cntQ (nI j_62) k2 z2 z3)), .int 0, .int (-1), .ref z6, .ref z7, .ref z8, .ref z9, .int (nI z10), .ref z11, .ref z12, .ref z13, .ref z14, .ref z15, .int (nI z16), .ref z17, .int z18, .ref z19]))] ++ va_pl L M_71) H_78 := by rw [hE]; exact hP
            have hD : va_D A ([(za, .inr (13, [.int 0, .ref z1, .int (nI z2), .int (nI (cntQ (nI j_62) k2 z2 z3)), .int 0, .int (-1), .ref z6, .ref z7, .ref z8, .ref z9, .int (nI z10), .ref z11, .ref z12, .ref z13, .ref z14, .ref z15, .int (nI z16), .ref z17, .int z18, .ref z19]))] ++ va_pl L M_71) := by rw [hE]; exact hD
            have hR9 : R5 z6 z7 M_71 := R5.put hR5 he6 he7 (by rw [hM_73, ef_68]) (by rw [hM_72, ef_74]) (fun q => absurd q c_57)
            rw [hQ]
            exact W.iret (v := (nI ((z3 + 1) - 1))) hx hb hr (fun t ht hW9 => ⟨⟨(nI ((z3 + 1) - 1)), M_71, rfl, ⟨hW, hF, hR9, (by unfold ansP; rw [if_pos ⟨⟨c_48, (lt6 c_49), (fun _ => ⟨c_51, c_56⟩), (fun q => absurd q c_57)⟩, by omega⟩]; first | done | rfl)⟩, ⟨0, (-1), by rw [ht]; exact hP, hD⟩⟩, hS.F ht⟩) hS.2.2 dX13_partner_130
          · have hz := rfl (a := 0)
            have n_82 : z3 = 40 := (iEQ (a := z3) (b := 40) (by omega) (by omega)).mp c_58
            refine lv_aload_n hx hb dX13_partner_83 rfl (lv_at hl 1 rfl) ?_
            refine lv_bipush (v := 9) hx hb dX13_partner_84 (by decide) ?_
            have hPc := hP.sub (ws' := [(za, .inr (13, [.int 0, .ref z1, .int (nI z2), .int (nI z3), .int z4, .int z5, .ref z6, .ref z7, .ref z8, .ref z9, .int (nI z10), .ref z11, .ref z12, .ref z13, .ref z14, .ref z15, .int (nI z16), .ref z17, .int z18, .ref z19]))]) [0] rfl
            have hDc := hD.sub (ws' := [(za, .inr (13, [.int 0, .ref z1, .int (nI z2), .int (nI z3), .int z4, .int z5, .ref z6, .ref z7, .ref z8, .ref z9, .int (nI z10), .ref z11, .ref z12, .ref z13, .ref z14, .ref z15, .int (nI z16), .ref z17, .int z18, .ref z19]))]) [0] (by decide) rfl
            have hKc := hK.sub (tys' := []) [] rfl
            have hFc := va_free (wc := [(za, .inr (13, [.int 0, .ref z1, .int (nI z2), .int (nI z3), .int z4, .int z5, .ref z6, .ref z7, .ref z8, .ref z9, .int (nI z10), .ref z11, .ref z12, .ref z13, .ref z14, .ref z15, .int (nI z16), .ref z17, .int z18, .ref z19]))]) hD hS hA [0] rfl
            refine va_calli (va_runV (As := [.int 9]) (rest := []) ⟨hx, hb, hml, hown, hg⟩ (m_refused l D H_1.size za 0 z1 (nI z2) (nI z3) z4 z5 z6 z7 z8 z9 (nI z10) z11 z12 z13 z14 z15 (nI z16) z17 z18 z19 9) (cwV 1 hg (gV wd_725 wd_726 wd_727 wd_717 wd_728) rfl rfl rfl (by decide +kernel) ⟨(Nat.le_trans (Nat.le_of_ble_eq_true rfl) hRf), (Nat.le_trans (Nat.le_of_ble_eq_true rfl) hRl)⟩) ⟨Pr.blind, va_recv hK hP (ci := 13) (q0 := 0) rfl rfl, fun U hU hW => ⟨rfl, Pr.at hPc hKc hDc hN hU hW⟩⟩ rfl rfl hl.1 rfl (lv_room (Nat.le_of_ble_eq_true rfl)) dX13_partner_86 ⟨(Nat.le_trans (Nat.le_of_ble_eq_true rfl) hRc), (Nat.le_trans (Nat.le_of_ble_eq_true rfl) hRs)⟩) hS (fun q _ h => hFc q h) hFc (fun r_84 M_85 t H_83 locs ht hvm hw hB hz1 hk1 hS => ?_)
            have hp_86 := hw
            obtain ⟨hP1, hK1, hD1⟩ := hB
            rw [ht] at hP1
            obtain ⟨hP, hD⟩ := va_joinQ (X := [(za, .inr (13, [.int 0, .ref z1, .int (nI z2), .int (nI z3), .int z4, .int z5, .ref z6, .ref z7, .ref z8, .ref z9, .int (nI z10), .ref z11, .ref z12, .ref z13, .ref z14, .ref z15, .int (nI z16), .ref z17, .int z18, .ref z19]))]) (cx := [(za, .inr (13, [.int 0, .ref z1, .int (nI z2), .int (nI z3), .int z4, .int z5, .ref z6, .ref z7, .ref z8, .ref z9, .int (nI z10), .ref z11, .ref z12, .ref z13, .ref z14, .ref z15, .int (nI z16), .ref z17, .int z18, .ref z19]))]) (wr := []) (w1 := [(za, .inr (13, [.int 0, .ref z1, .int (nI z2), .int (nI z3), .int 9, .int (-1), .ref z6, .ref z7, .ref z8, .ref z9, .int (nI z10), .ref z11, .ref z12, .ref z13, .ref z14, .ref z15, .int (nI z16), .ref z17, .int z18, .ref z19]))]) (pl := va_pl L M) hP hD [0] [] rfl rfl (by decide) (by decide) hk1 hFc hP1 hD1
            have hP : va_P D vwCl ([(za, .inr (13, [.int 0, .ref z1, .int (nI z2), .int (nI z3), .int 9, .int (-1), .ref z6, .ref z7, .ref z8, .ref z9, .int (nI z10), .ref z11, .ref z12, .ref z13, .ref z14, .ref z15, .int (nI z16), .ref z17, .int z18, .ref z19]))] ++ va_pl L M) H_83 := hP
            have hD : va_D A ([(za, .inr (13, [.int 0, .ref z1, .int (nI z2), .int (nI z3), .int 9, .int (-1), .ref z6, .ref z7, .ref z8, .ref z9, .int (nI z10), .ref z11, .ref z12, .ref z13, .ref z14, .ref z15, .int (nI z16), .ref z17, .int z18, .ref z19]))] ++ va_pl L M) := hD
            have hq := Eq.symm hp_86
            subst hq
            have hE : cntQ k1 k2 z2 z3 = z3 := by unfold cntQ; rw [if_neg (fun q => absurd q.2 (by omega))]
            have hP : va_P D vwCl ([(za, .inr (13, [.int 0, .ref z1, .int (nI z2), .int (nI (cntQ k1 k2 z2 z3)), .int 9, .int (-1), .ref z6, .ref z7, .ref z8, .ref z9, .int (nI z10), .ref z11, .ref z12, .ref z13, .ref z14, .ref z15, .int (nI z16), .ref z17, .int z18, .ref z19]))] ++ va_pl L M) H_83 := by rw [hE]; exact hP
            have hD : va_D A ([(za, .inr (13, [.int 0, .ref z1, .int (nI z2), .int (nI (cntQ k1 k2 z2 z3)), .int 9, .int (-1), .ref z6, .ref z7, .ref z8, .ref z9, .int (nI z10), .ref z11, .ref z12, .ref z13, .ref z14, .ref z15, .int (nI z16), .ref z17, .int z18, .ref z19]))] ++ va_pl L M) := by rw [hE]; exact hD
            rw [hQ]
            exact W.iret (v := (-1)) hx hb hr (fun t ht hW9 => ⟨⟨(-1), M, rfl, ⟨hW, hF, hR5, (by unfold ansP; rw [if_neg (fun q => absurd q.2 (by omega))]; first | done | rfl)⟩, ⟨9, (-1), by rw [ht]; exact hP, hD⟩⟩, hS.F ht⟩) hS.2.2 dX13_partner_89
        · have hz := rfl (a := 0)
          have n_87 : ¬ k2 < 0 := gtN (c := 1000000000) (by omega) (Int32.not_le.mp c_56)
          refine lv_aload_n hx hb dX13_partner_49 rfl (lv_at hl 1 rfl) ?_
          refine lv_iconst (v := 2) hx hb dX13_partner_50 (by decide) ?_
          have hPc := hP.sub (ws' := [(za, .inr (13, [.int 0, .ref z1, .int (nI z2), .int (nI z3), .int z4, .int z5, .ref z6, .ref z7, .ref z8, .ref z9, .int (nI z10), .ref z11, .ref z12, .ref z13, .ref z14, .ref z15, .int (nI z16), .ref z17, .int z18, .ref z19]))]) [0] rfl
          have hDc := hD.sub (ws' := [(za, .inr (13, [.int 0, .ref z1, .int (nI z2), .int (nI z3), .int z4, .int z5, .ref z6, .ref z7, .ref z8, .ref z9, .int (nI z10), .ref z11, .ref z12, .ref z13, .ref z14, .ref z15, .int (nI z16), .ref z17, .int z18, .ref z19]))]) [0] (by decide) rfl
          have hKc := hK.sub (tys' := []) [] rfl
          have hFc := va_free (wc := [(za, .inr (13, [.int 0, .ref z1, .int (nI z2), .int (nI z3), .int z4, .int z5, .ref z6, .ref z7, .ref z8, .ref z9, .int (nI z10), .ref z11, .ref z12, .ref z13, .ref z14, .ref z15, .int (nI z16), .ref z17, .int z18, .ref z19]))]) hD hS hA [0] rfl
          refine va_calli (va_runV (As := [.int 2]) (rest := []) ⟨hx, hb, hml, hown, hg⟩ (m_refused l D H_1.size za 0 z1 (nI z2) (nI z3) z4 z5 z6 z7 z8 z9 (nI z10) z11 z12 z13 z14 z15 (nI z16) z17 z18 z19 2) (cwV 1 hg (gV wd_725 wd_726 wd_727 wd_717 wd_728) rfl rfl rfl (by decide +kernel) ⟨(Nat.le_trans (Nat.le_of_ble_eq_true rfl) hRf), (Nat.le_trans (Nat.le_of_ble_eq_true rfl) hRl)⟩) ⟨Pr.blind, va_recv hK hP (ci := 13) (q0 := 0) rfl rfl, fun U hU hW => ⟨rfl, Pr.at hPc hKc hDc hN hU hW⟩⟩ rfl rfl hl.1 rfl (lv_room (Nat.le_of_ble_eq_true rfl)) dX13_partner_51 ⟨(Nat.le_trans (Nat.le_of_ble_eq_true rfl) hRc), (Nat.le_trans (Nat.le_of_ble_eq_true rfl) hRs)⟩) hS (fun q _ h => hFc q h) hFc (fun r_89 M_90 t H_88 locs ht hvm hw hB hz1 hk1 hS => ?_)
          have hp_91 := hw
          obtain ⟨hP1, hK1, hD1⟩ := hB
          rw [ht] at hP1
          obtain ⟨hP, hD⟩ := va_joinQ (X := [(za, .inr (13, [.int 0, .ref z1, .int (nI z2), .int (nI z3), .int z4, .int z5, .ref z6, .ref z7, .ref z8, .ref z9, .int (nI z10), .ref z11, .ref z12, .ref z13, .ref z14, .ref z15, .int (nI z16), .ref z17, .int z18, .ref z19]))]) (cx := [(za, .inr (13, [.int 0, .ref z1, .int (nI z2), .int (nI z3), .int z4, .int z5, .ref z6, .ref z7, .ref z8, .ref z9, .int (nI z10), .ref z11, .ref z12, .ref z13, .ref z14, .ref z15, .int (nI z16), .ref z17, .int z18, .ref z19]))]) (wr := []) (w1 := [(za, .inr (13, [.int 0, .ref z1, .int (nI z2), .int (nI z3), .int 2, .int (-1), .ref z6, .ref z7, .ref z8, .ref z9, .int (nI z10), .ref z11, .ref z12, .ref z13, .ref z14, .ref z15, .int (nI z16), .ref z17, .int z18, .ref z19]))]) (pl := va_pl L M) hP hD [0] [] rfl rfl (by decide) (by decide) hk1 hFc hP1 hD1
          have hP : va_P D vwCl ([(za, .inr (13, [.int 0, .ref z1, .int (nI z2), .int (nI z3), .int 2, .int (-1), .ref z6, .ref z7, .ref z8, .ref z9, .int (nI z10), .ref z11, .ref z12, .ref z13, .ref z14, .ref z15, .int (nI z16), .ref z17, .int z18, .ref z19]))] ++ va_pl L M) H_88 := hP
          have hD : va_D A ([(za, .inr (13, [.int 0, .ref z1, .int (nI z2), .int (nI z3), .int 2, .int (-1), .ref z6, .ref z7, .ref z8, .ref z9, .int (nI z10), .ref z11, .ref z12, .ref z13, .ref z14, .ref z15, .int (nI z16), .ref z17, .int z18, .ref z19]))] ++ va_pl L M) := hD
          have hq := Eq.symm hp_91
          subst hq
          have hE : cntQ k1 k2 z2 z3 = z3 := by unfold cntQ; rw [if_neg (fun q => c_56 (q.1.2.2.1 hlim).2)]
          have hP : va_P D vwCl ([(za, .inr (13, [.int 0, .ref z1, .int (nI z2), .int (nI (cntQ k1 k2 z2 z3)), .int 2, .int (-1), .ref z6, .ref z7, .ref z8, .ref z9, .int (nI z10), .ref z11, .ref z12, .ref z13, .ref z14, .ref z15, .int (nI z16), .ref z17, .int z18, .ref z19]))] ++ va_pl L M) H_88 := by rw [hE]; exact hP
          have hD : va_D A ([(za, .inr (13, [.int 0, .ref z1, .int (nI z2), .int (nI (cntQ k1 k2 z2 z3)), .int 2, .int (-1), .ref z6, .ref z7, .ref z8, .ref z9, .int (nI z10), .ref z11, .ref z12, .ref z13, .ref z14, .ref z15, .int (nI z16), .ref z17, .int z18, .ref z19]))] ++ va_pl L M) := by rw [hE]; exact hD
          rw [hQ]
          exact W.iret (v := (-1)) hx hb hr (fun t ht hW9 => ⟨⟨(-1), M, rfl, ⟨hW, hF, hR5, (by unfold ansP; rw [if_neg (fun q => c_56 (q.1.2.2.1 hlim).2)]; first | done | rfl)⟩, ⟨2, (-1), by rw [ht]; exact hP, hD⟩⟩, hS.F ht⟩) hS.2.2 dX13_partner_54
    · have hz := rfl (a := 0)
      refine lv_iload_n hx hb dX13_partner_15 rfl (lv_at hl 1 rfl) ?_
      refine lv_iconst (v := 4) hx hb dX13_partner_16 (by decide) ?_
      refine lv_icmp_ne (tgt := 24) hx hb dX13_partner_17 (by decide) (fun c_92 => ?_) (fun c_92 => ?_)
      · have hz := rfl (a := 0)
        refine lv_iconst (v := 0) hx hb dX13_partner_24 (by decide) ?_
        refine lv_istore_n (lv' := [(3, .int 0), (0, .ref za), (1, .int k1), (2, .int k2)]) hx hb dX13_partner_25 rfl hl (by decide) rfl (fun ls hl => ?_)
        have hlim : ¬ (k1 = 1 ∨ k1 = 2 ∨ k1 = 4) := fun q => q.elim c_2 (fun q => q.elim c_47 c_92)
        refine lv_iload_n hx hb dX13_partner_26 rfl (lv_at hl 2 rfl) ?_
        refine lv_if_lt (tgt := 49) hx hb dX13_partner_27 (by decide) (fun c_93 => ?_) (fun c_93 => ?_)
        · have hz := rfl (a := 0)
          refine lv_aload_n hx hb dX13_partner_49 rfl (lv_at hl 1 rfl) ?_
          refine lv_iconst (v := 2) hx hb dX13_partner_50 (by decide) ?_
          have hPc := hP.sub (ws' := [(za, .inr (13, [.int 0, .ref z1, .int (nI z2), .int (nI z3), .int z4, .int z5, .ref z6, .ref z7, .ref z8, .ref z9, .int (nI z10), .ref z11, .ref z12, .ref z13, .ref z14, .ref z15, .int (nI z16), .ref z17, .int z18, .ref z19]))]) [0] rfl
          have hDc := hD.sub (ws' := [(za, .inr (13, [.int 0, .ref z1, .int (nI z2), .int (nI z3), .int z4, .int z5, .ref z6, .ref z7, .ref z8, .ref z9, .int (nI z10), .ref z11, .ref z12, .ref z13, .ref z14, .ref z15, .int (nI z16), .ref z17, .int z18, .ref z19]))]) [0] (by decide) rfl
          have hKc := hK.sub (tys' := []) [] rfl
          have hFc := va_free (wc := [(za, .inr (13, [.int 0, .ref z1, .int (nI z2), .int (nI z3), .int z4, .int z5, .ref z6, .ref z7, .ref z8, .ref z9, .int (nI z10), .ref z11, .ref z12, .ref z13, .ref z14, .ref z15, .int (nI z16), .ref z17, .int z18, .ref z19]))]) hD hS hA [0] rfl
          refine va_calli (va_runV (As := [.int 2]) (rest := []) ⟨hx, hb, hml, hown, hg⟩ (m_refused l D H_1.size za 0 z1 (nI z2) (nI z3) z4 z5 z6 z7 z8 z9 (nI z10) z11 z12 z13 z14 z15 (nI z16) z17 z18 z19 2) (cwV 1 hg (gV wd_725 wd_726 wd_727 wd_717 wd_728) rfl rfl rfl (by decide +kernel) ⟨(Nat.le_trans (Nat.le_of_ble_eq_true rfl) hRf), (Nat.le_trans (Nat.le_of_ble_eq_true rfl) hRl)⟩) ⟨Pr.blind, va_recv hK hP (ci := 13) (q0 := 0) rfl rfl, fun U hU hW => ⟨rfl, Pr.at hPc hKc hDc hN hU hW⟩⟩ rfl rfl hl.1 rfl (lv_room (Nat.le_of_ble_eq_true rfl)) dX13_partner_51 ⟨(Nat.le_trans (Nat.le_of_ble_eq_true rfl) hRc), (Nat.le_trans (Nat.le_of_ble_eq_true rfl) hRs)⟩) hS (fun q _ h => hFc q h) hFc (fun r_95 M_96 t H_94 locs ht hvm hw hB hz1 hk1 hS => ?_)
          have hp_97 := hw
          obtain ⟨hP1, hK1, hD1⟩ := hB
          rw [ht] at hP1
          obtain ⟨hP, hD⟩ := va_joinQ (X := [(za, .inr (13, [.int 0, .ref z1, .int (nI z2), .int (nI z3), .int z4, .int z5, .ref z6, .ref z7, .ref z8, .ref z9, .int (nI z10), .ref z11, .ref z12, .ref z13, .ref z14, .ref z15, .int (nI z16), .ref z17, .int z18, .ref z19]))]) (cx := [(za, .inr (13, [.int 0, .ref z1, .int (nI z2), .int (nI z3), .int z4, .int z5, .ref z6, .ref z7, .ref z8, .ref z9, .int (nI z10), .ref z11, .ref z12, .ref z13, .ref z14, .ref z15, .int (nI z16), .ref z17, .int z18, .ref z19]))]) (wr := []) (w1 := [(za, .inr (13, [.int 0, .ref z1, .int (nI z2), .int (nI z3), .int 2, .int (-1), .ref z6, .ref z7, .ref z8, .ref z9, .int (nI z10), .ref z11, .ref z12, .ref z13, .ref z14, .ref z15, .int (nI z16), .ref z17, .int z18, .ref z19]))]) (pl := va_pl L M) hP hD [0] [] rfl rfl (by decide) (by decide) hk1 hFc hP1 hD1
          have hP : va_P D vwCl ([(za, .inr (13, [.int 0, .ref z1, .int (nI z2), .int (nI z3), .int 2, .int (-1), .ref z6, .ref z7, .ref z8, .ref z9, .int (nI z10), .ref z11, .ref z12, .ref z13, .ref z14, .ref z15, .int (nI z16), .ref z17, .int z18, .ref z19]))] ++ va_pl L M) H_94 := hP
          have hD : va_D A ([(za, .inr (13, [.int 0, .ref z1, .int (nI z2), .int (nI z3), .int 2, .int (-1), .ref z6, .ref z7, .ref z8, .ref z9, .int (nI z10), .ref z11, .ref z12, .ref z13, .ref z14, .ref z15, .int (nI z16), .ref z17, .int z18, .ref z19]))] ++ va_pl L M) := hD
          have hq := Eq.symm hp_97
          subst hq
          have hE : cntQ k1 k2 z2 z3 = z3 := by unfold cntQ; rw [if_neg (fun q => q.1.1 c_93)]
          have hP : va_P D vwCl ([(za, .inr (13, [.int 0, .ref z1, .int (nI z2), .int (nI (cntQ k1 k2 z2 z3)), .int 2, .int (-1), .ref z6, .ref z7, .ref z8, .ref z9, .int (nI z10), .ref z11, .ref z12, .ref z13, .ref z14, .ref z15, .int (nI z16), .ref z17, .int z18, .ref z19]))] ++ va_pl L M) H_94 := by rw [hE]; exact hP
          have hD : va_D A ([(za, .inr (13, [.int 0, .ref z1, .int (nI z2), .int (nI (cntQ k1 k2 z2 z3)), .int 2, .int (-1), .ref z6, .ref z7, .ref z8, .ref z9, .int (nI z10), .ref z11, .ref z12, .ref z13, .ref z14, .ref z15, .int (nI z16), .ref z17, .int z18, .ref z19]))] ++ va_pl L M) := by rw [hE]; exact hD
          rw [hQ]
          exact W.iret (v := (-1)) hx hb hr (fun t ht hW9 => ⟨⟨(-1), M, rfl, ⟨hW, hF, hR5, (by unfold ansP; rw [if_neg (fun q => q.1.1 c_93)]; first | done | rfl)⟩, ⟨2, (-1), by rw [ht]; exact hP, hD⟩⟩, hS.F ht⟩) hS.2.2 dX13_partner_54
        · have hz := rfl (a := 0)
          refine lv_iload_n hx hb dX13_partner_30 rfl (lv_at hl 2 rfl) ?_
          refine lv_iconst (v := 5) hx hb dX13_partner_31 (by decide) ?_
          refine lv_icmp_gt (tgt := 49) hx hb dX13_partner_32 (by decide) (fun c_98 => ?_) (fun c_98 => ?_)
          · have hz := rfl (a := 0)
            have n_99 : ¬ k1 < 0 := gtN (c := 5) (by omega) c_98
            refine lv_aload_n hx hb dX13_partner_49 rfl (lv_at hl 1 rfl) ?_
            refine lv_iconst (v := 2) hx hb dX13_partner_50 (by decide) ?_
            have hPc := hP.sub (ws' := [(za, .inr (13, [.int 0, .ref z1, .int (nI z2), .int (nI z3), .int z4, .int z5, .ref z6, .ref z7, .ref z8, .ref z9, .int (nI z10), .ref z11, .ref z12, .ref z13, .ref z14, .ref z15, .int (nI z16), .ref z17, .int z18, .ref z19]))]) [0] rfl
            have hDc := hD.sub (ws' := [(za, .inr (13, [.int 0, .ref z1, .int (nI z2), .int (nI z3), .int z4, .int z5, .ref z6, .ref z7, .ref z8, .ref z9, .int (nI z10), .ref z11, .ref z12, .ref z13, .ref z14, .ref z15, .int (nI z16), .ref z17, .int z18, .ref z19]))]) [0] (by decide) rfl
            have hKc := hK.sub (tys' := []) [] rfl
            have hFc := va_free (wc := [(za, .inr (13, [.int 0, .ref z1, .int (nI z2), .int (nI z3), .int z4, .int z5, .ref z6, .ref z7, .ref z8, .ref z9, .int (nI z10), .ref z11, .ref z12, .ref z13, .ref z14, .ref z15, .int (nI z16), .ref z17, .int z18, .ref z19]))]) hD hS hA [0] rfl
            refine va_calli (va_runV (As := [.int 2]) (rest := []) ⟨hx, hb, hml, hown, hg⟩ (m_refused l D H_1.size za 0 z1 (nI z2) (nI z3) z4 z5 z6 z7 z8 z9 (nI z10) z11 z12 z13 z14 z15 (nI z16) z17 z18 z19 2) (cwV 1 hg (gV wd_725 wd_726 wd_727 wd_717 wd_728) rfl rfl rfl (by decide +kernel) ⟨(Nat.le_trans (Nat.le_of_ble_eq_true rfl) hRf), (Nat.le_trans (Nat.le_of_ble_eq_true rfl) hRl)⟩) ⟨Pr.blind, va_recv hK hP (ci := 13) (q0 := 0) rfl rfl, fun U hU hW => ⟨rfl, Pr.at hPc hKc hDc hN hU hW⟩⟩ rfl rfl hl.1 rfl (lv_room (Nat.le_of_ble_eq_true rfl)) dX13_partner_51 ⟨(Nat.le_trans (Nat.le_of_ble_eq_true rfl) hRc), (Nat.le_trans (Nat.le_of_ble_eq_true rfl) hRs)⟩) hS (fun q _ h => hFc q h) hFc (fun r_101 M_102 t H_100 locs ht hvm hw hB hz1 hk1 hS => ?_)
            have hp_103 := hw
            obtain ⟨hP1, hK1, hD1⟩ := hB
            rw [ht] at hP1
            obtain ⟨hP, hD⟩ := va_joinQ (X := [(za, .inr (13, [.int 0, .ref z1, .int (nI z2), .int (nI z3), .int z4, .int z5, .ref z6, .ref z7, .ref z8, .ref z9, .int (nI z10), .ref z11, .ref z12, .ref z13, .ref z14, .ref z15, .int (nI z16), .ref z17, .int z18, .ref z19]))]) (cx := [(za, .inr (13, [.int 0, .ref z1, .int (nI z2), .int (nI z3), .int z4, .int z5, .ref z6, .ref z7, .ref z8, .ref z9, .int (nI z10), .ref z11, .ref z12, .ref z13, .ref z14, .ref z15, .int (nI z16), .ref z17, .int z18, .ref z19]))]) (wr := []) (w1 := [(za, .inr (13, [.int 0, .ref z1, .int (nI z2), .int (nI z3), .int 2, .int (-1), .ref z6, .ref z7, .ref z8, .ref z9, .int (nI z10), .ref z11, .ref z12, .ref z13, .ref z14, .ref z15, .int (nI z16), .ref z17, .int z18, .ref z19]))]) (pl := va_pl L M) hP hD [0] [] rfl rfl (by decide) (by decide) hk1 hFc hP1 hD1
            have hP : va_P D vwCl ([(za, .inr (13, [.int 0, .ref z1, .int (nI z2), .int (nI z3), .int 2, .int (-1), .ref z6, .ref z7, .ref z8, .ref z9, .int (nI z10), .ref z11, .ref z12, .ref z13, .ref z14, .ref z15, .int (nI z16), .ref z17, .int z18, .ref z19]))] ++ va_pl L M) H_100 := hP
            have hD : va_D A ([(za, .inr (13, [.int 0, .ref z1, .int (nI z2), .int (nI z3), .int 2, .int (-1), .ref z6, .ref z7, .ref z8, .ref z9, .int (nI z10), .ref z11, .ref z12, .ref z13, .ref z14, .ref z15, .int (nI z16), .ref z17, .int z18, .ref z19]))] ++ va_pl L M) := hD
            have hq := Eq.symm hp_103
            subst hq
            have hE : cntQ k1 k2 z2 z3 = z3 := by unfold cntQ; rw [if_neg (fun q => nlt6 c_98 q.1.2.1)]
            have hP : va_P D vwCl ([(za, .inr (13, [.int 0, .ref z1, .int (nI z2), .int (nI (cntQ k1 k2 z2 z3)), .int 2, .int (-1), .ref z6, .ref z7, .ref z8, .ref z9, .int (nI z10), .ref z11, .ref z12, .ref z13, .ref z14, .ref z15, .int (nI z16), .ref z17, .int z18, .ref z19]))] ++ va_pl L M) H_100 := by rw [hE]; exact hP
            have hD : va_D A ([(za, .inr (13, [.int 0, .ref z1, .int (nI z2), .int (nI (cntQ k1 k2 z2 z3)), .int 2, .int (-1), .ref z6, .ref z7, .ref z8, .ref z9, .int (nI z10), .ref z11, .ref z12, .ref z13, .ref z14, .ref z15, .int (nI z16), .ref z17, .int z18, .ref z19]))] ++ va_pl L M) := by rw [hE]; exact hD
            rw [hQ]
            exact W.iret (v := (-1)) hx hb hr (fun t ht hW9 => ⟨⟨(-1), M, rfl, ⟨hW, hF, hR5, (by unfold ansP; rw [if_neg (fun q => nlt6 c_98 q.1.2.1)]; first | done | rfl)⟩, ⟨2, (-1), by rw [ht]; exact hP, hD⟩⟩, hS.F ht⟩) hS.2.2 dX13_partner_54
          · have hz := rfl (a := 0)
            refine lv_iload_n hx hb dX13_partner_35 rfl (lv_at hl 0 rfl) ?_
            refine lv_if_eq (tgt := 55) hx hb dX13_partner_36 (by decide) (fun _ => ?_) (fun c_104 => absurd c_104 (by decide))
            refine lv_iload_n hx hb dX13_partner_55 rfl (lv_at hl 2 rfl) ?_
            refine lv_iconst (v := 5) hx hb dX13_partner_56 (by decide) ?_
            refine lv_icmp_ne (tgt := 74) hx hb dX13_partner_57 (by decide) (fun c_105 => ?_) (fun c_105 => ?_)
            · have hz := rfl (a := 0)
              refine lv_aload_n hx hb dX13_partner_74 rfl (lv_at hl 1 rfl) ?_
              refine va_get (D := D) (ci := 13) (v := .int (nI z3)) (C := RX13) (T := TX13) (N := 20) hx hb hg inG13 hown hK hP 0 rfl rfl 3 (by decide) (hg _ wd_831) (fun _ h9 => h9) rfl dX13_partner_75 ?_
              refine lv_bipush (v := 40) hx hb dX13_partner_78 (by decide) ?_
              refine lv_icmp_ne (tgt := 90) hx hb dX13_partner_80 (by decide) (fun c_106 => ?_) (fun c_106 => ?_)
              · have hz := rfl (a := 0)
                have n_107 : ¬ (z3 = 40) := fun q => c_106 ((iEQ (a := z3) (b := 40) (by omega) (by omega)).mpr q)
                obtain ⟨f108, hM108, hf108⟩ := hW.open_47 i6
                obtain ⟨f109, hM109⟩ := hW.open_48 i7
                have he6 := hM108
                have he7 := hM109
                refine lv_aload_n hx hb dX13_partner_90 rfl (lv_at hl 1 rfl) ?_
                refine va_get (D := D) (ci := 13) (v := .ref z6) (C := RX13) (T := TX13) (N := 20) hx hb hg inG13 hown hK hP 0 rfl rfl 6 (by decide) (hg _ wd_719) (fun _ h9 => h9) rfl dX13_partner_91 ?_
                refine lv_aload_n hx hb dX13_partner_94 rfl (lv_at hl 1 rfl) ?_
                refine va_get (D := D) (ci := 13) (v := .int (nI z3)) (C := RX13) (T := TX13) (N := 20) hx hb hg inG13 hown hK hP 0 rfl rfl 3 (by decide) (hg _ wd_831) (fun _ h9 => h9) rfl dX13_partner_95 ?_
                refine lv_iload_n hx hb dX13_partner_98 rfl (lv_at hl 2 rfl) ?_
                obtain ⟨j_110, hj_111, rfl⟩ := i32nat 6 (by decide) c_93 (leB (b := 6) (c := 5) (by decide) (by decide) (Int32.not_lt.mp c_98))
                refine pg_iast hx hb hK hP hD hS i6.1 0 hM108 rfl (inbN z3 40 (by omega) (by omega)) dX13_partner_99 (fun H_112 locs hP hD hS => ?_)
                obtain ⟨M_113, eM_113⟩ : ∃ M1 : Hp, M1 = va_up M z6 (.inl (cy 14, 40, .inl (upd f108 ((nI z3) : Int32).toNatClampNeg (nI j_110)))) := ⟨_, rfl⟩
                have hP : va_P D vwCl ([(za, .inr (13, [.int 0, .ref z1, .int (nI z2), .int (nI z3), .int z4, .int z5, .ref z6, .ref z7, .ref z8, .ref z9, .int (nI z10), .ref z11, .ref z12, .ref z13, .ref z14, .ref z15, .int (nI z16), .ref z17, .int z18, .ref z19]))] ++ va_pl L M_113) H_112 := by rw [eM_113]; exact hP
                have hD : va_D A ([(za, .inr (13, [.int 0, .ref z1, .int (nI z2), .int (nI z3), .int z4, .int z5, .ref z6, .ref z7, .ref z8, .ref z9, .int (nI z10), .ref z11, .ref z12, .ref z13, .ref z14, .ref z15, .int (nI z16), .ref z17, .int z18, .ref z19]))] ++ va_pl L M_113) := by rw [eM_113]; exact hD
                have hW : WOM cy K L M_113 := by rw [eM_113]; exact hW.up_47 i6 ⟨_, rfl, (updP (P := fun z => ∃ c : Nat, c < 6 ∧ z = nI c) hf108 ⟨j_110, by omega, rfl⟩)⟩
                have hF : fr K L [47, 48] M M_113 := by rw [eM_113]; exact hF.up i6 (by decide)
                have hM_114 : M_113 z6 = .inl (cy 14, 40, .inl (upd f108 ((nI z3) : Int32).toNatClampNeg (nI j_110))) := by rw [eM_113]; exact va_up_self _ _ _
                have hM_115 : M_113 z7 = .inl (cy 14, 40, .inl (f109)) := by rw [eM_113, va_up_ne _ _ (i7.neT i6 (by decide))]; exact hM109
                have hf_117 : ∀ j, j < 40 → ∃ c : Nat, c < 6 ∧ (upd f108 ((nI z3) : Int32).toNatClampNeg (nI j_110)) j = nI c := (updP (P := fun z => ∃ c : Nat, c < 6 ∧ z = nI c) hf108 ⟨j_110, by omega, rfl⟩)
                obtain ⟨f_116, ef_116⟩ : ∃ f : Nat → Int32, f = upd f108 ((nI z3) : Int32).toNatClampNeg (nI j_110) := ⟨_, rfl⟩
                rw [← ef_116] at hM_114 hf_117
                refine lv_aload_n hx hb dX13_partner_100 rfl (lv_at hl 1 rfl) ?_
                refine va_get (D := D) (ci := 13) (v := .ref z7) (C := RX13) (T := TX13) (N := 20) hx hb hg inG13 hown hK hP 0 rfl rfl 7 (by decide) (hg _ wd_760) (fun _ h9 => h9) rfl dX13_partner_101 ?_
                refine lv_aload_n hx hb dX13_partner_104 rfl (lv_at hl 1 rfl) ?_
                refine va_get (D := D) (ci := 13) (v := .int (nI z3)) (C := RX13) (T := TX13) (N := 20) hx hb hg inG13 hown hK hP 0 rfl rfl 3 (by decide) (hg _ wd_831) (fun _ h9 => h9) rfl dX13_partner_105 ?_
                refine lv_iload_n hx hb dX13_partner_108 rfl (lv_at hl 3 rfl) ?_
                refine pg_iast hx hb hK hP hD hS i7.1 0 hM_115 rfl (inbN z3 40 (by omega) (by omega)) dX13_partner_109 (fun H_118 locs hP hD hS => ?_)
                obtain ⟨M_119, eM_119⟩ : ∃ M1 : Hp, M1 = va_up M_113 z7 (.inl (cy 14, 40, .inl (upd f109 ((nI z3) : Int32).toNatClampNeg k2))) := ⟨_, rfl⟩
                have hP : va_P D vwCl ([(za, .inr (13, [.int 0, .ref z1, .int (nI z2), .int (nI z3), .int z4, .int z5, .ref z6, .ref z7, .ref z8, .ref z9, .int (nI z10), .ref z11, .ref z12, .ref z13, .ref z14, .ref z15, .int (nI z16), .ref z17, .int z18, .ref z19]))] ++ va_pl L M_119) H_118 := by rw [eM_119]; exact hP
                have hD : va_D A ([(za, .inr (13, [.int 0, .ref z1, .int (nI z2), .int (nI z3), .int z4, .int z5, .ref z6, .ref z7, .ref z8, .ref z9, .int (nI z10), .ref z11, .ref z12, .ref z13, .ref z14, .ref z15, .int (nI z16), .ref z17, .int z18, .ref z19]))] ++ va_pl L M_119) := by rw [eM_119]; exact hD
                have hW : WOM cy K L M_119 := by rw [eM_119]; exact hW.up_48 i7 ⟨_, rfl⟩
                have hF : fr K L [47, 48] M M_119 := by rw [eM_119]; exact hF.up i7 (by decide)
                have hM_120 : M_119 z7 = .inl (cy 14, 40, .inl (upd f109 ((nI z3) : Int32).toNatClampNeg k2)) := by rw [eM_119]; exact va_up_self _ _ _
                have hM_121 : M_119 z6 = .inl (cy 14, 40, .inl (f_116)) := by rw [eM_119, va_up_ne _ _ (i6.neT i7 (by decide))]; exact hM_114
                obtain ⟨f_122, ef_122⟩ : ∃ f : Nat → Int32, f = upd f109 ((nI z3) : Int32).toNatClampNeg k2 := ⟨_, rfl⟩
                rw [← ef_122] at hM_120
                refine lv_aload_n hx hb dX13_partner_110 rfl (lv_at hl 1 rfl) ?_
                refine lv_dup hx hb dX13_partner_111 rfl ?_
                refine va_get (D := D) (ci := 13) (v := .int (nI z3)) (C := RX13) (T := TX13) (N := 20) hx hb hg inG13 hown hK hP 0 rfl rfl 3 (by decide) (hg _ wd_831) (fun _ h9 => h9) rfl dX13_partner_112 ?_
                refine lv_iconst (v := 1) hx hb dX13_partner_115 (by decide) ?_
                refine lv_iadd hx hb dX13_partner_116 ?_
                refine lv_topi (fun f_123 ef_123 => ?_)
                obtain rfl : f_123 = (nI (z3 + 1)) := ef_123.trans (nI_add z3 1)
                refine va_put (D := D) (ci := 13) (v := .int (nI (z3 + 1))) (ty := .int) (C := RX13) (T := TX13) (N := 20) hx hb hg inG13 tyX13 tyX13_ok nmX13 hown hK hP hD hS 0 rfl rfl 3 (by decide) (hg _ wd_831) (fun _ h9 => h9) rfl (by decide +kernel) rfl rfl (Nat.le_of_ble_eq_true rfl) dX13_partner_117 (fun H_124 locs hP hD hS => ?_)
                have hP : va_P D vwCl ([(za, .inr (13, [.int 0, .ref z1, .int (nI z2), .int (nI (z3 + 1)), .int z4, .int z5, .ref z6, .ref z7, .ref z8, .ref z9, .int (nI z10), .ref z11, .ref z12, .ref z13, .ref z14, .ref z15, .int (nI z16), .ref z17, .int z18, .ref z19]))] ++ va_pl L M_119) H_124 := hP
                have hD : va_D A ([(za, .inr (13, [.int 0, .ref z1, .int (nI z2), .int (nI (z3 + 1)), .int z4, .int z5, .ref z6, .ref z7, .ref z8, .ref z9, .int (nI z10), .ref z11, .ref z12, .ref z13, .ref z14, .ref z15, .int (nI z16), .ref z17, .int z18, .ref z19]))] ++ va_pl L M_119) := hD
                refine lv_aload_n hx hb dX13_partner_120 rfl (lv_at hl 1 rfl) ?_
                refine lv_aload_n hx hb dX13_partner_121 rfl (lv_at hl 1 rfl) ?_
                refine va_get (D := D) (ci := 13) (v := .int (nI (z3 + 1))) (C := RX13) (T := TX13) (N := 20) hx hb hg inG13 hown hK hP 0 rfl rfl 3 (by decide) (hg _ wd_831) (fun _ h9 => h9) rfl dX13_partner_122 ?_
                refine lv_iconst (v := 1) hx hb dX13_partner_125 (by decide) ?_
                refine lv_isub hx hb dX13_partner_126 ?_
                refine lv_topi (fun f_125 ef_125 => ?_)
                obtain rfl : f_125 = (nI ((z3 + 1) - 1)) := ef_125.trans (nI_prd (by omega))
                have hPc := hP.sub (ws' := [(za, .inr (13, [.int 0, .ref z1, .int (nI z2), .int (nI (z3 + 1)), .int z4, .int z5, .ref z6, .ref z7, .ref z8, .ref z9, .int (nI z10), .ref z11, .ref z12, .ref z13, .ref z14, .ref z15, .int (nI z16), .ref z17, .int z18, .ref z19]))]) [0] rfl
                have hDc := hD.sub (ws' := [(za, .inr (13, [.int 0, .ref z1, .int (nI z2), .int (nI (z3 + 1)), .int z4, .int z5, .ref z6, .ref z7, .ref z8, .ref z9, .int (nI z10), .ref z11, .ref z12, .ref z13, .ref z14, .ref z15, .int (nI z16), .ref z17, .int z18, .ref z19]))]) [0] (by decide) rfl
                have hKc := hK.sub (tys' := []) [] rfl
                have hFc := va_free (wc := [(za, .inr (13, [.int 0, .ref z1, .int (nI z2), .int (nI (z3 + 1)), .int z4, .int z5, .ref z6, .ref z7, .ref z8, .ref z9, .int (nI z10), .ref z11, .ref z12, .ref z13, .ref z14, .ref z15, .int (nI z16), .ref z17, .int z18, .ref z19]))]) hD hS hA [0] rfl
                refine va_calli (va_runV (As := [.int (nI ((z3 + 1) - 1))]) (rest := []) ⟨hx, hb, hml, hown, hg⟩ (m_done l D H_124.size za 0 z1 (nI z2) (nI (z3 + 1)) z4 z5 z6 z7 z8 z9 (nI z10) z11 z12 z13 z14 z15 (nI z16) z17 z18 z19 (nI ((z3 + 1) - 1))) (cwV 1 hg (gV wd_730 wd_731 wd_732 wd_717 wd_733) rfl rfl rfl (by decide +kernel) ⟨(Nat.le_trans (Nat.le_of_ble_eq_true rfl) hRf), (Nat.le_trans (Nat.le_of_ble_eq_true rfl) hRl)⟩) ⟨Pr.blind, va_recv hK hP (ci := 13) (q0 := 0) rfl rfl, fun U hU hW => ⟨rfl, Pr.at hPc hKc hDc hN hU hW⟩⟩ rfl rfl hl.1 rfl (lv_room (Nat.le_of_ble_eq_true rfl)) dX13_partner_127 ⟨(Nat.le_trans (Nat.le_of_ble_eq_true rfl) hRc), (Nat.le_trans (Nat.le_of_ble_eq_true rfl) hRs)⟩) hS (fun q _ h => hFc q h) hFc (fun r_127 M_128 t H_126 locs ht hvm hw hB hz1 hk1 hS => ?_)
                have hp_129 := hw
                obtain ⟨hP1, hK1, hD1⟩ := hB
                rw [ht] at hP1
                obtain ⟨hP, hD⟩ := va_joinQ (X := [(za, .inr (13, [.int 0, .ref z1, .int (nI z2), .int (nI (z3 + 1)), .int z4, .int z5, .ref z6, .ref z7, .ref z8, .ref z9, .int (nI z10), .ref z11, .ref z12, .ref z13, .ref z14, .ref z15, .int (nI z16), .ref z17, .int z18, .ref z19]))]) (cx := [(za, .inr (13, [.int 0, .ref z1, .int (nI z2), .int (nI (z3 + 1)), .int z4, .int z5, .ref z6, .ref z7, .ref z8, .ref z9, .int (nI z10), .ref z11, .ref z12, .ref z13, .ref z14, .ref z15, .int (nI z16), .ref z17, .int z18, .ref z19]))]) (wr := []) (w1 := [(za, .inr (13, [.int 0, .ref z1, .int (nI z2), .int (nI (z3 + 1)), .int 0, .int (-1), .ref z6, .ref z7, .ref z8, .ref z9, .int (nI z10), .ref z11, .ref z12, .ref z13, .ref z14, .ref z15, .int (nI z16), .ref z17, .int z18, .ref z19]))]) (pl := va_pl L M_119) hP hD [0] [] rfl rfl (by decide) (by decide) hk1 hFc hP1 hD1
                have hP : va_P D vwCl ([(za, .inr (13, [.int 0, .ref z1, .int (nI z2), .int (nI (z3 + 1)), .int 0, .int (-1), .ref z6, .ref z7, .ref z8, .ref z9, .int (nI z10), .ref z11, .ref z12, .ref z13, .ref z14, .ref z15, .int (nI z16), .ref z17, .int z18, .ref z19]))] ++ va_pl L M_119) H_126 := hP
                have hD : va_D A ([(za, .inr (13, [.int 0, .ref z1, .int (nI z2), .int (nI (z3 + 1)), .int 0, .int (-1), .ref z6, .ref z7, .ref z8, .ref z9, .int (nI z10), .ref z11, .ref z12, .ref z13, .ref z14, .ref z15, .int (nI z16), .ref z17, .int z18, .ref z19]))] ++ va_pl L M_119) := hD
                have hq := Eq.symm hp_129
                subst hq
                have hE : cntQ (nI j_110) k2 z2 z3 = (z3 + 1) := by unfold cntQ; rw [if_pos ⟨⟨c_93, (lt6 c_98), (fun q => absurd q hlim), (fun q => absurd q c_105)⟩, by omega⟩]
                have hP : va_P D vwCl ([(za, .inr (13, [.int 0, .ref z1, .int (nI z2), .int (nI (cntQ (nI j_110) k2 z2 z3)), .int 0, .int (-1), .ref z6, .ref z7, .ref z8, .ref z9, .int (nI z10), .ref z11, .ref z12, .ref z13, .ref z14, .ref z15, .int (nI z16), .ref z17, .int z18, .ref z19]))] ++ va_pl L M_119) H_126 := by rw [hE]; exact hP
                have hD : va_D A ([(za, .inr (13, [.int 0, .ref z1, .int (nI z2), .int (nI (cntQ (nI j_110) k2 z2 z3)), .int 0, .int (-1), .ref z6, .ref z7, .ref z8, .ref z9, .int (nI z10), .ref z11, .ref z12, .ref z13, .ref z14, .ref z15, .int (nI z16), .ref z17, .int z18, .ref z19]))] ++ va_pl L M_119) := by rw [hE]; exact hD
                have hR9 : R5 z6 z7 M_119 := R5.put hR5 he6 he7 (by rw [hM_121, ef_116]) (by rw [hM_120, ef_122]) (fun q => absurd q c_105)
                rw [hQ]
                exact W.iret (v := (nI ((z3 + 1) - 1))) hx hb hr (fun t ht hW9 => ⟨⟨(nI ((z3 + 1) - 1)), M_119, rfl, ⟨hW, hF, hR9, (by unfold ansP; rw [if_pos ⟨⟨c_93, (lt6 c_98), (fun q => absurd q hlim), (fun q => absurd q c_105)⟩, by omega⟩]; first | done | rfl)⟩, ⟨0, (-1), by rw [ht]; exact hP, hD⟩⟩, hS.F ht⟩) hS.2.2 dX13_partner_130
              · have hz := rfl (a := 0)
                have n_130 : z3 = 40 := (iEQ (a := z3) (b := 40) (by omega) (by omega)).mp c_106
                refine lv_aload_n hx hb dX13_partner_83 rfl (lv_at hl 1 rfl) ?_
                refine lv_bipush (v := 9) hx hb dX13_partner_84 (by decide) ?_
                have hPc := hP.sub (ws' := [(za, .inr (13, [.int 0, .ref z1, .int (nI z2), .int (nI z3), .int z4, .int z5, .ref z6, .ref z7, .ref z8, .ref z9, .int (nI z10), .ref z11, .ref z12, .ref z13, .ref z14, .ref z15, .int (nI z16), .ref z17, .int z18, .ref z19]))]) [0] rfl
                have hDc := hD.sub (ws' := [(za, .inr (13, [.int 0, .ref z1, .int (nI z2), .int (nI z3), .int z4, .int z5, .ref z6, .ref z7, .ref z8, .ref z9, .int (nI z10), .ref z11, .ref z12, .ref z13, .ref z14, .ref z15, .int (nI z16), .ref z17, .int z18, .ref z19]))]) [0] (by decide) rfl
                have hKc := hK.sub (tys' := []) [] rfl
                have hFc := va_free (wc := [(za, .inr (13, [.int 0, .ref z1, .int (nI z2), .int (nI z3), .int z4, .int z5, .ref z6, .ref z7, .ref z8, .ref z9, .int (nI z10), .ref z11, .ref z12, .ref z13, .ref z14, .ref z15, .int (nI z16), .ref z17, .int z18, .ref z19]))]) hD hS hA [0] rfl
                refine va_calli (va_runV (As := [.int 9]) (rest := []) ⟨hx, hb, hml, hown, hg⟩ (m_refused l D H_1.size za 0 z1 (nI z2) (nI z3) z4 z5 z6 z7 z8 z9 (nI z10) z11 z12 z13 z14 z15 (nI z16) z17 z18 z19 9) (cwV 1 hg (gV wd_725 wd_726 wd_727 wd_717 wd_728) rfl rfl rfl (by decide +kernel) ⟨(Nat.le_trans (Nat.le_of_ble_eq_true rfl) hRf), (Nat.le_trans (Nat.le_of_ble_eq_true rfl) hRl)⟩) ⟨Pr.blind, va_recv hK hP (ci := 13) (q0 := 0) rfl rfl, fun U hU hW => ⟨rfl, Pr.at hPc hKc hDc hN hU hW⟩⟩ rfl rfl hl.1 rfl (lv_room (Nat.le_of_ble_eq_true rfl)) dX13_partner_86 ⟨(Nat.le_trans (Nat.le_of_ble_eq_true rfl) hRc), (Nat.le_trans (Nat.le_of_ble_eq_true rfl) hRs)⟩) hS (fun q _ h => hFc q h) hFc (fun r_132 M_133 t H_131 locs ht hvm hw hB hz1 hk1 hS => ?_)
                have hp_134 := hw
                obtain ⟨hP1, hK1, hD1⟩ := hB
                rw [ht] at hP1
                obtain ⟨hP, hD⟩ := va_joinQ (X := [(za, .inr (13, [.int 0, .ref z1, .int (nI z2), .int (nI z3), .int z4, .int z5, .ref z6, .ref z7, .ref z8, .ref z9, .int (nI z10), .ref z11, .ref z12, .ref z13, .ref z14, .ref z15, .int (nI z16), .ref z17, .int z18, .ref z19]))]) (cx := [(za, .inr (13, [.int 0, .ref z1, .int (nI z2), .int (nI z3), .int z4, .int z5, .ref z6, .ref z7, .ref z8, .ref z9, .int (nI z10), .ref z11, .ref z12, .ref z13, .ref z14, .ref z15, .int (nI z16), .ref z17, .int z18, .ref z19]))]) (wr := []) (w1 := [(za, .inr (13, [.int 0, .ref z1, .int (nI z2), .int (nI z3), .int 9, .int (-1), .ref z6, .ref z7, .ref z8, .ref z9, .int (nI z10), .ref z11, .ref z12, .ref z13, .ref z14, .ref z15, .int (nI z16), .ref z17, .int z18, .ref z19]))]) (pl := va_pl L M) hP hD [0] [] rfl rfl (by decide) (by decide) hk1 hFc hP1 hD1
                have hP : va_P D vwCl ([(za, .inr (13, [.int 0, .ref z1, .int (nI z2), .int (nI z3), .int 9, .int (-1), .ref z6, .ref z7, .ref z8, .ref z9, .int (nI z10), .ref z11, .ref z12, .ref z13, .ref z14, .ref z15, .int (nI z16), .ref z17, .int z18, .ref z19]))] ++ va_pl L M) H_131 := hP
                have hD : va_D A ([(za, .inr (13, [.int 0, .ref z1, .int (nI z2), .int (nI z3), .int 9, .int (-1), .ref z6, .ref z7, .ref z8, .ref z9, .int (nI z10), .ref z11, .ref z12, .ref z13, .ref z14, .ref z15, .int (nI z16), .ref z17, .int z18, .ref z19]))] ++ va_pl L M) := hD
                have hq := Eq.symm hp_134
                subst hq
                have hE : cntQ k1 k2 z2 z3 = z3 := by unfold cntQ; rw [if_neg (fun q => absurd q.2 (by omega))]
                have hP : va_P D vwCl ([(za, .inr (13, [.int 0, .ref z1, .int (nI z2), .int (nI (cntQ k1 k2 z2 z3)), .int 9, .int (-1), .ref z6, .ref z7, .ref z8, .ref z9, .int (nI z10), .ref z11, .ref z12, .ref z13, .ref z14, .ref z15, .int (nI z16), .ref z17, .int z18, .ref z19]))] ++ va_pl L M) H_131 := by rw [hE]; exact hP
                have hD : va_D A ([(za, .inr (13, [.int 0, .ref z1, .int (nI z2), .int (nI (cntQ k1 k2 z2 z3)), .int 9, .int (-1), .ref z6, .ref z7, .ref z8, .ref z9, .int (nI z10), .ref z11, .ref z12, .ref z13, .ref z14, .ref z15, .int (nI z16), .ref z17, .int z18, .ref z19]))] ++ va_pl L M) := by rw [hE]; exact hD
                rw [hQ]
                exact W.iret (v := (-1)) hx hb hr (fun t ht hW9 => ⟨⟨(-1), M, rfl, ⟨hW, hF, hR5, (by unfold ansP; rw [if_neg (fun q => absurd q.2 (by omega))]; first | done | rfl)⟩, ⟨9, (-1), by rw [ht]; exact hP, hD⟩⟩, hS.F ht⟩) hS.2.2 dX13_partner_89
            · have hz := rfl (a := 0)
              refine lv_aload_n hx hb dX13_partner_60 rfl (lv_at hl 1 rfl) ?_
              refine lv_iload_n hx hb dX13_partner_61 rfl (lv_at hl 3 rfl) ?_
              have hPc : va_P D vwCl ([(za, .inr (13, [.int 0, .ref z1, .int (nI z2), .int (nI z3), .int z4, .int z5, .ref z6, .ref z7, .ref z8, .ref z9, .int (nI z10), .ref z11, .ref z12, .ref z13, .ref z14, .ref z15, .int (nI z16), .ref z17, .int z18, .ref z19]))] ++ va_pl L M) H_1 := hP
              have hDc : va_D A ([(za, .inr (13, [.int 0, .ref z1, .int (nI z2), .int (nI z3), .int z4, .int z5, .ref z6, .ref z7, .ref z8, .ref z9, .int (nI z10), .ref z11, .ref z12, .ref z13, .ref z14, .ref z15, .int (nI z16), .ref z17, .int z18, .ref z19]))] ++ va_pl L M) := hD
              have hFc : ∀ q, va_A ([(za, .inr (13, [.int 0, .ref z1, .int (nI z2), .int (nI z3), .int z4, .int z5, .ref z6, .ref z7, .ref z8, .ref z9, .int (nI z10), .ref z11, .ref z12, .ref z13, .ref z14, .ref z15, .int (nI z16), .ref z17, .int z18, .ref z19]))] ++ va_pl L M) H_1.size q → A q := pg_free hDc hS hA
              refine va_calli (va_runV (As := [.int k2]) (rest := []) ⟨hx, hb, hml, hown, hg⟩ (r_isHouseE l D cy K L M H_1.size za 0 z1 z2 z3 z4 z5 z6 z7 z8 z9 z10 z11 z12 z13 z14 z15 z16 z17 z18 z19 k2  hW i1 b2 b3 i6 i7 i8 i9 b10 i11 i12 i13 i14 i15 b16 i17 i19) (cwV 1 hg (gV wd_714 wd_715 wd_716 wd_717 wd_718) rfl rfl rfl (by decide +kernel) ⟨(Nat.le_trans (Nat.le_of_ble_eq_true rfl) hRf), (Nat.le_trans (Nat.le_of_ble_eq_true rfl) hRl)⟩) ⟨PG.blind, va_recv hK hP (ci := 13) (q0 := 0) rfl rfl, fun U hU hW => ⟨rfl, PG.at hPc hK hDc hN hU hW⟩⟩ rfl rfl hl.1 rfl (lv_room (Nat.le_of_ble_eq_true rfl)) dX13_partner_62 ⟨(Nat.le_trans (Nat.le_of_ble_eq_true rfl) hRc), (Nat.le_trans (Nat.le_of_ble_eq_true rfl) hRs)⟩) hS (fun q _ h => hFc q h) hFc (fun r_136 M_137 t H_135 locs ht hvm hw hB hz1 hk1 hS => ?_)
              have hp_138 := hw
              obtain ⟨hP1, hD1⟩ := hB
              rw [ht] at hP1
              have hP : va_P D vwCl ([(za, .inr (13, [.int 0, .ref z1, .int (nI z2), .int (nI z3), .int z4, .int z5, .ref z6, .ref z7, .ref z8, .ref z9, .int (nI z10), .ref z11, .ref z12, .ref z13, .ref z14, .ref z15, .int (nI z16), .ref z17, .int z18, .ref z19]))] ++ va_pl L M) H_135 := hP1
              have hD : va_D A ([(za, .inr (13, [.int 0, .ref z1, .int (nI z2), .int (nI z3), .int z4, .int z5, .ref z6, .ref z7, .ref z8, .ref z9, .int (nI z10), .ref z11, .ref z12, .ref z13, .ref z14, .ref z15, .int (nI z16), .ref z17, .int z18, .ref z19]))] ++ va_pl L M) := hD1.mono hFc
              rcases hp_138 with ⟨rfl, c_139, c_140⟩ | ⟨rfl, c_141⟩
              · have hz := rfl (a := 0)
                refine lv_if_ne (tgt := 74) hx hb dX13_partner_65 (by decide) (fun _ => ?_) (fun c_142 => absurd c_142 (by decide))
                refine lv_aload_n hx hb dX13_partner_74 rfl (lv_at hl 1 rfl) ?_
                refine va_get (D := D) (ci := 13) (v := .int (nI z3)) (C := RX13) (T := TX13) (N := 20) hx hb hg inG13 hown hK hP 0 rfl rfl 3 (by decide) (hg _ wd_831) (fun _ h9 => h9) rfl dX13_partner_75 ?_
                refine lv_bipush (v := 40) hx hb dX13_partner_78 (by decide) ?_
                refine lv_icmp_ne (tgt := 90) hx hb dX13_partner_80 (by decide) (fun c_143 => ?_) (fun c_143 => ?_)
                · have hz := rfl (a := 0)
                  have n_144 : ¬ (z3 = 40) := fun q => c_143 ((iEQ (a := z3) (b := 40) (by omega) (by omega)).mpr q)
                  obtain ⟨f145, hM145, hf145⟩ := hW.open_47 i6
                  obtain ⟨f146, hM146⟩ := hW.open_48 i7
                  have he6 := hM145
                  have he7 := hM146
                  refine lv_aload_n hx hb dX13_partner_90 rfl (lv_at hl 1 rfl) ?_
                  refine va_get (D := D) (ci := 13) (v := .ref z6) (C := RX13) (T := TX13) (N := 20) hx hb hg inG13 hown hK hP 0 rfl rfl 6 (by decide) (hg _ wd_719) (fun _ h9 => h9) rfl dX13_partner_91 ?_
                  refine lv_aload_n hx hb dX13_partner_94 rfl (lv_at hl 1 rfl) ?_
                  refine va_get (D := D) (ci := 13) (v := .int (nI z3)) (C := RX13) (T := TX13) (N := 20) hx hb hg inG13 hown hK hP 0 rfl rfl 3 (by decide) (hg _ wd_831) (fun _ h9 => h9) rfl dX13_partner_95 ?_
                  refine lv_iload_n hx hb dX13_partner_98 rfl (lv_at hl 2 rfl) ?_
                  obtain ⟨j_147, hj_148, rfl⟩ := i32nat 6 (by decide) c_93 (leB (b := 6) (c := 5) (by decide) (by decide) (Int32.not_lt.mp c_98))
                  refine pg_iast hx hb hK hP hD hS i6.1 0 hM145 rfl (inbN z3 40 (by omega) (by omega)) dX13_partner_99 (fun H_149 locs hP hD hS => ?_)
                  obtain ⟨M_150, eM_150⟩ : ∃ M1 : Hp, M1 = va_up M z6 (.inl (cy 14, 40, .inl (upd f145 ((nI z3) : Int32).toNatClampNeg (nI j_147)))) := ⟨_, rfl⟩
                  have hP : va_P D vwCl ([(za, .inr (13, [.int 0, .ref z1, .int (nI z2), .int (nI z3), .int z4, .int z5, .ref z6, .ref z7, .ref z8, .ref z9, .int (nI z10), .ref z11, .ref z12, .ref z13, .ref z14, .ref z15, .int (nI z16), .ref z17, .int z18, .ref z19]))] ++ va_pl L M_150) H_149 := by rw [eM_150]; exact hP
                  have hD : va_D A ([(za, .inr (13, [.int 0, .ref z1, .int (nI z2), .int (nI z3), .int z4, .int z5, .ref z6, .ref z7, .ref z8, .ref z9, .int (nI z10), .ref z11, .ref z12, .ref z13, .ref z14, .ref z15, .int (nI z16), .ref z17, .int z18, .ref z19]))] ++ va_pl L M_150) := by rw [eM_150]; exact hD
                  have hW : WOM cy K L M_150 := by rw [eM_150]; exact hW.up_47 i6 ⟨_, rfl, (updP (P := fun z => ∃ c : Nat, c < 6 ∧ z = nI c) hf145 ⟨j_147, by omega, rfl⟩)⟩
                  have hF : fr K L [47, 48] M M_150 := by rw [eM_150]; exact hF.up i6 (by decide)
                  have hM_151 : M_150 z6 = .inl (cy 14, 40, .inl (upd f145 ((nI z3) : Int32).toNatClampNeg (nI j_147))) := by rw [eM_150]; exact va_up_self _ _ _
                  have hM_152 : M_150 z7 = .inl (cy 14, 40, .inl (f146)) := by rw [eM_150, va_up_ne _ _ (i7.neT i6 (by decide))]; exact hM146
                  have hf_154 : ∀ j, j < 40 → ∃ c : Nat, c < 6 ∧ (upd f145 ((nI z3) : Int32).toNatClampNeg (nI j_147)) j = nI c := (updP (P := fun z => ∃ c : Nat, c < 6 ∧ z = nI c) hf145 ⟨j_147, by omega, rfl⟩)
                  obtain ⟨f_153, ef_153⟩ : ∃ f : Nat → Int32, f = upd f145 ((nI z3) : Int32).toNatClampNeg (nI j_147) := ⟨_, rfl⟩
                  rw [← ef_153] at hM_151 hf_154
                  refine lv_aload_n hx hb dX13_partner_100 rfl (lv_at hl 1 rfl) ?_
                  refine va_get (D := D) (ci := 13) (v := .ref z7) (C := RX13) (T := TX13) (N := 20) hx hb hg inG13 hown hK hP 0 rfl rfl 7 (by decide) (hg _ wd_760) (fun _ h9 => h9) rfl dX13_partner_101 ?_
                  refine lv_aload_n hx hb dX13_partner_104 rfl (lv_at hl 1 rfl) ?_
                  refine va_get (D := D) (ci := 13) (v := .int (nI z3)) (C := RX13) (T := TX13) (N := 20) hx hb hg inG13 hown hK hP 0 rfl rfl 3 (by decide) (hg _ wd_831) (fun _ h9 => h9) rfl dX13_partner_105 ?_
                  refine lv_iload_n hx hb dX13_partner_108 rfl (lv_at hl 3 rfl) ?_
                  refine pg_iast hx hb hK hP hD hS i7.1 0 hM_152 rfl (inbN z3 40 (by omega) (by omega)) dX13_partner_109 (fun H_155 locs hP hD hS => ?_)
                  obtain ⟨M_156, eM_156⟩ : ∃ M1 : Hp, M1 = va_up M_150 z7 (.inl (cy 14, 40, .inl (upd f146 ((nI z3) : Int32).toNatClampNeg k2))) := ⟨_, rfl⟩
                  have hP : va_P D vwCl ([(za, .inr (13, [.int 0, .ref z1, .int (nI z2), .int (nI z3), .int z4, .int z5, .ref z6, .ref z7, .ref z8, .ref z9, .int (nI z10), .ref z11, .ref z12, .ref z13, .ref z14, .ref z15, .int (nI z16), .ref z17, .int z18, .ref z19]))] ++ va_pl L M_156) H_155 := by rw [eM_156]; exact hP
                  have hD : va_D A ([(za, .inr (13, [.int 0, .ref z1, .int (nI z2), .int (nI z3), .int z4, .int z5, .ref z6, .ref z7, .ref z8, .ref z9, .int (nI z10), .ref z11, .ref z12, .ref z13, .ref z14, .ref z15, .int (nI z16), .ref z17, .int z18, .ref z19]))] ++ va_pl L M_156) := by rw [eM_156]; exact hD
                  have hW : WOM cy K L M_156 := by rw [eM_156]; exact hW.up_48 i7 ⟨_, rfl⟩
                  have hF : fr K L [47, 48] M M_156 := by rw [eM_156]; exact hF.up i7 (by decide)
                  have hM_157 : M_156 z7 = .inl (cy 14, 40, .inl (upd f146 ((nI z3) : Int32).toNatClampNeg k2)) := by rw [eM_156]; exact va_up_self _ _ _
                  have hM_158 : M_156 z6 = .inl (cy 14, 40, .inl (f_153)) := by rw [eM_156, va_up_ne _ _ (i6.neT i7 (by decide))]; exact hM_151
                  obtain ⟨f_159, ef_159⟩ : ∃ f : Nat → Int32, f = upd f146 ((nI z3) : Int32).toNatClampNeg k2 := ⟨_, rfl⟩
                  rw [← ef_159] at hM_157
                  refine lv_aload_n hx hb dX13_partner_110 rfl (lv_at hl 1 rfl) ?_
                  refine lv_dup hx hb dX13_partner_111 rfl ?_
                  refine va_get (D := D) (ci := 13) (v := .int (nI z3)) (C := RX13) (T := TX13) (N := 20) hx hb hg inG13 hown hK hP 0 rfl rfl 3 (by decide) (hg _ wd_831) (fun _ h9 => h9) rfl dX13_partner_112 ?_
                  refine lv_iconst (v := 1) hx hb dX13_partner_115 (by decide) ?_
                  refine lv_iadd hx hb dX13_partner_116 ?_
                  refine lv_topi (fun f_160 ef_160 => ?_)
                  obtain rfl : f_160 = (nI (z3 + 1)) := ef_160.trans (nI_add z3 1)
                  refine va_put (D := D) (ci := 13) (v := .int (nI (z3 + 1))) (ty := .int) (C := RX13) (T := TX13) (N := 20) hx hb hg inG13 tyX13 tyX13_ok nmX13 hown hK hP hD hS 0 rfl rfl 3 (by decide) (hg _ wd_831) (fun _ h9 => h9) rfl (by decide +kernel) rfl rfl (Nat.le_of_ble_eq_true rfl) dX13_partner_117 (fun H_161 locs hP hD hS => ?_)
                  have hP : va_P D vwCl ([(za, .inr (13, [.int 0, .ref z1, .int (nI z2), .int (nI (z3 + 1)), .int z4, .int z5, .ref z6, .ref z7, .ref z8, .ref z9, .int (nI z10), .ref z11, .ref z12, .ref z13, .ref z14, .ref z15, .int (nI z16), .ref z17, .int z18, .ref z19]))] ++ va_pl L M_156) H_161 := hP
                  have hD : va_D A ([(za, .inr (13, [.int 0, .ref z1, .int (nI z2), .int (nI (z3 + 1)), .int z4, .int z5, .ref z6, .ref z7, .ref z8, .ref z9, .int (nI z10), .ref z11, .ref z12, .ref z13, .ref z14, .ref z15, .int (nI z16), .ref z17, .int z18, .ref z19]))] ++ va_pl L M_156) := hD
                  refine lv_aload_n hx hb dX13_partner_120 rfl (lv_at hl 1 rfl) ?_
                  refine lv_aload_n hx hb dX13_partner_121 rfl (lv_at hl 1 rfl) ?_
                  refine va_get (D := D) (ci := 13) (v := .int (nI (z3 + 1))) (C := RX13) (T := TX13) (N := 20) hx hb hg inG13 hown hK hP 0 rfl rfl 3 (by decide) (hg _ wd_831) (fun _ h9 => h9) rfl dX13_partner_122 ?_
                  refine lv_iconst (v := 1) hx hb dX13_partner_125 (by decide) ?_
                  refine lv_isub hx hb dX13_partner_126 ?_
                  refine lv_topi (fun f_162 ef_162 => ?_)
                  obtain rfl : f_162 = (nI ((z3 + 1) - 1)) := ef_162.trans (nI_prd (by omega))
                  have hPc := hP.sub (ws' := [(za, .inr (13, [.int 0, .ref z1, .int (nI z2), .int (nI (z3 + 1)), .int z4, .int z5, .ref z6, .ref z7, .ref z8, .ref z9, .int (nI z10), .ref z11, .ref z12, .ref z13, .ref z14, .ref z15, .int (nI z16), .ref z17, .int z18, .ref z19]))]) [0] rfl
                  have hDc := hD.sub (ws' := [(za, .inr (13, [.int 0, .ref z1, .int (nI z2), .int (nI (z3 + 1)), .int z4, .int z5, .ref z6, .ref z7, .ref z8, .ref z9, .int (nI z10), .ref z11, .ref z12, .ref z13, .ref z14, .ref z15, .int (nI z16), .ref z17, .int z18, .ref z19]))]) [0] (by decide) rfl
                  have hKc := hK.sub (tys' := []) [] rfl
                  have hFc := va_free (wc := [(za, .inr (13, [.int 0, .ref z1, .int (nI z2), .int (nI (z3 + 1)), .int z4, .int z5, .ref z6, .ref z7, .ref z8, .ref z9, .int (nI z10), .ref z11, .ref z12, .ref z13, .ref z14, .ref z15, .int (nI z16), .ref z17, .int z18, .ref z19]))]) hD hS hA [0] rfl
                  refine va_calli (va_runV (As := [.int (nI ((z3 + 1) - 1))]) (rest := []) ⟨hx, hb, hml, hown, hg⟩ (m_done l D H_161.size za 0 z1 (nI z2) (nI (z3 + 1)) z4 z5 z6 z7 z8 z9 (nI z10) z11 z12 z13 z14 z15 (nI z16) z17 z18 z19 (nI ((z3 + 1) - 1))) (cwV 1 hg (gV wd_730 wd_731 wd_732 wd_717 wd_733) rfl rfl rfl (by decide +kernel) ⟨(Nat.le_trans (Nat.le_of_ble_eq_true rfl) hRf), (Nat.le_trans (Nat.le_of_ble_eq_true rfl) hRl)⟩) ⟨Pr.blind, va_recv hK hP (ci := 13) (q0 := 0) rfl rfl, fun U hU hW => ⟨rfl, Pr.at hPc hKc hDc hN hU hW⟩⟩ rfl rfl hl.1 rfl (lv_room (Nat.le_of_ble_eq_true rfl)) dX13_partner_127 ⟨(Nat.le_trans (Nat.le_of_ble_eq_true rfl) hRc), (Nat.le_trans (Nat.le_of_ble_eq_true rfl) hRs)⟩) hS (fun q _ h => hFc q h) hFc (fun r_164 M_165 t H_163 locs ht hvm hw hB hz1 hk1 hS => ?_)
                  have hp_166 := hw
                  obtain ⟨hP1, hK1, hD1⟩ := hB
                  rw [ht] at hP1
                  obtain ⟨hP, hD⟩ := va_joinQ (X := [(za, .inr (13, [.int 0, .ref z1, .int (nI z2), .int (nI (z3 + 1)), .int z4, .int z5, .ref z6, .ref z7, .ref z8, .ref z9, .int (nI z10), .ref z11, .ref z12, .ref z13, .ref z14, .ref z15, .int (nI z16), .ref z17, .int z18, .ref z19]))]) (cx := [(za, .inr (13, [.int 0, .ref z1, .int (nI z2), .int (nI (z3 + 1)), .int z4, .int z5, .ref z6, .ref z7, .ref z8, .ref z9, .int (nI z10), .ref z11, .ref z12, .ref z13, .ref z14, .ref z15, .int (nI z16), .ref z17, .int z18, .ref z19]))]) (wr := []) (w1 := [(za, .inr (13, [.int 0, .ref z1, .int (nI z2), .int (nI (z3 + 1)), .int 0, .int (-1), .ref z6, .ref z7, .ref z8, .ref z9, .int (nI z10), .ref z11, .ref z12, .ref z13, .ref z14, .ref z15, .int (nI z16), .ref z17, .int z18, .ref z19]))]) (pl := va_pl L M_156) hP hD [0] [] rfl rfl (by decide) (by decide) hk1 hFc hP1 hD1
                  have hP : va_P D vwCl ([(za, .inr (13, [.int 0, .ref z1, .int (nI z2), .int (nI (z3 + 1)), .int 0, .int (-1), .ref z6, .ref z7, .ref z8, .ref z9, .int (nI z10), .ref z11, .ref z12, .ref z13, .ref z14, .ref z15, .int (nI z16), .ref z17, .int z18, .ref z19]))] ++ va_pl L M_156) H_163 := hP
                  have hD : va_D A ([(za, .inr (13, [.int 0, .ref z1, .int (nI z2), .int (nI (z3 + 1)), .int 0, .int (-1), .ref z6, .ref z7, .ref z8, .ref z9, .int (nI z10), .ref z11, .ref z12, .ref z13, .ref z14, .ref z15, .int (nI z16), .ref z17, .int z18, .ref z19]))] ++ va_pl L M_156) := hD
                  have hq := Eq.symm hp_166
                  subst hq
                  have hE : cntQ (nI j_147) k2 z2 z3 = (z3 + 1) := by unfold cntQ; rw [if_pos ⟨⟨c_93, (lt6 c_98), (fun q => absurd q hlim), (fun _ => (fun q => q.elim (fun h => absurd h c_139) (fun h => absurd h c_140)))⟩, by omega⟩]
                  have hP : va_P D vwCl ([(za, .inr (13, [.int 0, .ref z1, .int (nI z2), .int (nI (cntQ (nI j_147) k2 z2 z3)), .int 0, .int (-1), .ref z6, .ref z7, .ref z8, .ref z9, .int (nI z10), .ref z11, .ref z12, .ref z13, .ref z14, .ref z15, .int (nI z16), .ref z17, .int z18, .ref z19]))] ++ va_pl L M_156) H_163 := by rw [hE]; exact hP
                  have hD : va_D A ([(za, .inr (13, [.int 0, .ref z1, .int (nI z2), .int (nI (cntQ (nI j_147) k2 z2 z3)), .int 0, .int (-1), .ref z6, .ref z7, .ref z8, .ref z9, .int (nI z10), .ref z11, .ref z12, .ref z13, .ref z14, .ref z15, .int (nI z16), .ref z17, .int z18, .ref z19]))] ++ va_pl L M_156) := by rw [hE]; exact hD
                  have hR9 : R5 z6 z7 M_156 := R5.put hR5 he6 he7 (by rw [hM_158, ef_153]) (by rw [hM_157, ef_159]) (fun _ => i8n b2 c_139 c_140)
                  rw [hQ]
                  exact W.iret (v := (nI ((z3 + 1) - 1))) hx hb hr (fun t ht hW9 => ⟨⟨(nI ((z3 + 1) - 1)), M_156, rfl, ⟨hW, hF, hR9, (by unfold ansP; rw [if_pos ⟨⟨c_93, (lt6 c_98), (fun q => absurd q hlim), (fun _ => (fun q => q.elim (fun h => absurd h c_139) (fun h => absurd h c_140)))⟩, by omega⟩]; first | done | rfl)⟩, ⟨0, (-1), by rw [ht]; exact hP, hD⟩⟩, hS.F ht⟩) hS.2.2 dX13_partner_130
                · have hz := rfl (a := 0)
                  have n_167 : z3 = 40 := (iEQ (a := z3) (b := 40) (by omega) (by omega)).mp c_143
                  refine lv_aload_n hx hb dX13_partner_83 rfl (lv_at hl 1 rfl) ?_
                  refine lv_bipush (v := 9) hx hb dX13_partner_84 (by decide) ?_
                  have hPc := hP.sub (ws' := [(za, .inr (13, [.int 0, .ref z1, .int (nI z2), .int (nI z3), .int z4, .int z5, .ref z6, .ref z7, .ref z8, .ref z9, .int (nI z10), .ref z11, .ref z12, .ref z13, .ref z14, .ref z15, .int (nI z16), .ref z17, .int z18, .ref z19]))]) [0] rfl
                  have hDc := hD.sub (ws' := [(za, .inr (13, [.int 0, .ref z1, .int (nI z2), .int (nI z3), .int z4, .int z5, .ref z6, .ref z7, .ref z8, .ref z9, .int (nI z10), .ref z11, .ref z12, .ref z13, .ref z14, .ref z15, .int (nI z16), .ref z17, .int z18, .ref z19]))]) [0] (by decide) rfl
                  have hKc := hK.sub (tys' := []) [] rfl
                  have hFc := va_free (wc := [(za, .inr (13, [.int 0, .ref z1, .int (nI z2), .int (nI z3), .int z4, .int z5, .ref z6, .ref z7, .ref z8, .ref z9, .int (nI z10), .ref z11, .ref z12, .ref z13, .ref z14, .ref z15, .int (nI z16), .ref z17, .int z18, .ref z19]))]) hD hS hA [0] rfl
                  refine va_calli (va_runV (As := [.int 9]) (rest := []) ⟨hx, hb, hml, hown, hg⟩ (m_refused l D H_135.size za 0 z1 (nI z2) (nI z3) z4 z5 z6 z7 z8 z9 (nI z10) z11 z12 z13 z14 z15 (nI z16) z17 z18 z19 9) (cwV 1 hg (gV wd_725 wd_726 wd_727 wd_717 wd_728) rfl rfl rfl (by decide +kernel) ⟨(Nat.le_trans (Nat.le_of_ble_eq_true rfl) hRf), (Nat.le_trans (Nat.le_of_ble_eq_true rfl) hRl)⟩) ⟨Pr.blind, va_recv hK hP (ci := 13) (q0 := 0) rfl rfl, fun U hU hW => ⟨rfl, Pr.at hPc hKc hDc hN hU hW⟩⟩ rfl rfl hl.1 rfl (lv_room (Nat.le_of_ble_eq_true rfl)) dX13_partner_86 ⟨(Nat.le_trans (Nat.le_of_ble_eq_true rfl) hRc), (Nat.le_trans (Nat.le_of_ble_eq_true rfl) hRs)⟩) hS (fun q _ h => hFc q h) hFc (fun r_169 M_170 t H_168 locs ht hvm hw hB hz1 hk1 hS => ?_)
                  have hp_171 := hw
                  obtain ⟨hP1, hK1, hD1⟩ := hB
                  rw [ht] at hP1
                  obtain ⟨hP, hD⟩ := va_joinQ (X := [(za, .inr (13, [.int 0, .ref z1, .int (nI z2), .int (nI z3), .int z4, .int z5, .ref z6, .ref z7, .ref z8, .ref z9, .int (nI z10), .ref z11, .ref z12, .ref z13, .ref z14, .ref z15, .int (nI z16), .ref z17, .int z18, .ref z19]))]) (cx := [(za, .inr (13, [.int 0, .ref z1, .int (nI z2), .int (nI z3), .int z4, .int z5, .ref z6, .ref z7, .ref z8, .ref z9, .int (nI z10), .ref z11, .ref z12, .ref z13, .ref z14, .ref z15, .int (nI z16), .ref z17, .int z18, .ref z19]))]) (wr := []) (w1 := [(za, .inr (13, [.int 0, .ref z1, .int (nI z2), .int (nI z3), .int 9, .int (-1), .ref z6, .ref z7, .ref z8, .ref z9, .int (nI z10), .ref z11, .ref z12, .ref z13, .ref z14, .ref z15, .int (nI z16), .ref z17, .int z18, .ref z19]))]) (pl := va_pl L M) hP hD [0] [] rfl rfl (by decide) (by decide) hk1 hFc hP1 hD1
                  have hP : va_P D vwCl ([(za, .inr (13, [.int 0, .ref z1, .int (nI z2), .int (nI z3), .int 9, .int (-1), .ref z6, .ref z7, .ref z8, .ref z9, .int (nI z10), .ref z11, .ref z12, .ref z13, .ref z14, .ref z15, .int (nI z16), .ref z17, .int z18, .ref z19]))] ++ va_pl L M) H_168 := hP
                  have hD : va_D A ([(za, .inr (13, [.int 0, .ref z1, .int (nI z2), .int (nI z3), .int 9, .int (-1), .ref z6, .ref z7, .ref z8, .ref z9, .int (nI z10), .ref z11, .ref z12, .ref z13, .ref z14, .ref z15, .int (nI z16), .ref z17, .int z18, .ref z19]))] ++ va_pl L M) := hD
                  have hq := Eq.symm hp_171
                  subst hq
                  have hE : cntQ k1 k2 z2 z3 = z3 := by unfold cntQ; rw [if_neg (fun q => absurd q.2 (by omega))]
                  have hP : va_P D vwCl ([(za, .inr (13, [.int 0, .ref z1, .int (nI z2), .int (nI (cntQ k1 k2 z2 z3)), .int 9, .int (-1), .ref z6, .ref z7, .ref z8, .ref z9, .int (nI z10), .ref z11, .ref z12, .ref z13, .ref z14, .ref z15, .int (nI z16), .ref z17, .int z18, .ref z19]))] ++ va_pl L M) H_168 := by rw [hE]; exact hP
                  have hD : va_D A ([(za, .inr (13, [.int 0, .ref z1, .int (nI z2), .int (nI (cntQ k1 k2 z2 z3)), .int 9, .int (-1), .ref z6, .ref z7, .ref z8, .ref z9, .int (nI z10), .ref z11, .ref z12, .ref z13, .ref z14, .ref z15, .int (nI z16), .ref z17, .int z18, .ref z19]))] ++ va_pl L M) := by rw [hE]; exact hD
                  rw [hQ]
                  exact W.iret (v := (-1)) hx hb hr (fun t ht hW9 => ⟨⟨(-1), M, rfl, ⟨hW, hF, hR5, (by unfold ansP; rw [if_neg (fun q => absurd q.2 (by omega))]; first | done | rfl)⟩, ⟨9, (-1), by rw [ht]; exact hP, hD⟩⟩, hS.F ht⟩) hS.2.2 dX13_partner_89
              · have hz := rfl (a := 0)
                refine lv_if_ne (tgt := 74) hx hb dX13_partner_65 (by decide) (fun c_172 => absurd c_172 (by decide)) (fun _ => ?_)
                refine lv_aload_n hx hb dX13_partner_68 rfl (lv_at hl 1 rfl) ?_
                refine lv_iconst (v := 1) hx hb dX13_partner_69 (by decide) ?_
                have hPc := hP.sub (ws' := [(za, .inr (13, [.int 0, .ref z1, .int (nI z2), .int (nI z3), .int z4, .int z5, .ref z6, .ref z7, .ref z8, .ref z9, .int (nI z10), .ref z11, .ref z12, .ref z13, .ref z14, .ref z15, .int (nI z16), .ref z17, .int z18, .ref z19]))]) [0] rfl
                have hDc := hD.sub (ws' := [(za, .inr (13, [.int 0, .ref z1, .int (nI z2), .int (nI z3), .int z4, .int z5, .ref z6, .ref z7, .ref z8, .ref z9, .int (nI z10), .ref z11, .ref z12, .ref z13, .ref z14, .ref z15, .int (nI z16), .ref z17, .int z18, .ref z19]))]) [0] (by decide) rfl
                have hKc := hK.sub (tys' := []) [] rfl
                have hFc := va_free (wc := [(za, .inr (13, [.int 0, .ref z1, .int (nI z2), .int (nI z3), .int z4, .int z5, .ref z6, .ref z7, .ref z8, .ref z9, .int (nI z10), .ref z11, .ref z12, .ref z13, .ref z14, .ref z15, .int (nI z16), .ref z17, .int z18, .ref z19]))]) hD hS hA [0] rfl
                refine va_calli (va_runV (As := [.int 1]) (rest := []) ⟨hx, hb, hml, hown, hg⟩ (m_refused l D H_135.size za 0 z1 (nI z2) (nI z3) z4 z5 z6 z7 z8 z9 (nI z10) z11 z12 z13 z14 z15 (nI z16) z17 z18 z19 1) (cwV 1 hg (gV wd_725 wd_726 wd_727 wd_717 wd_728) rfl rfl rfl (by decide +kernel) ⟨(Nat.le_trans (Nat.le_of_ble_eq_true rfl) hRf), (Nat.le_trans (Nat.le_of_ble_eq_true rfl) hRl)⟩) ⟨Pr.blind, va_recv hK hP (ci := 13) (q0 := 0) rfl rfl, fun U hU hW => ⟨rfl, Pr.at hPc hKc hDc hN hU hW⟩⟩ rfl rfl hl.1 rfl (lv_room (Nat.le_of_ble_eq_true rfl)) dX13_partner_70 ⟨(Nat.le_trans (Nat.le_of_ble_eq_true rfl) hRc), (Nat.le_trans (Nat.le_of_ble_eq_true rfl) hRs)⟩) hS (fun q _ h => hFc q h) hFc (fun r_174 M_175 t H_173 locs ht hvm hw hB hz1 hk1 hS => ?_)
                have hp_176 := hw
                obtain ⟨hP1, hK1, hD1⟩ := hB
                rw [ht] at hP1
                obtain ⟨hP, hD⟩ := va_joinQ (X := [(za, .inr (13, [.int 0, .ref z1, .int (nI z2), .int (nI z3), .int z4, .int z5, .ref z6, .ref z7, .ref z8, .ref z9, .int (nI z10), .ref z11, .ref z12, .ref z13, .ref z14, .ref z15, .int (nI z16), .ref z17, .int z18, .ref z19]))]) (cx := [(za, .inr (13, [.int 0, .ref z1, .int (nI z2), .int (nI z3), .int z4, .int z5, .ref z6, .ref z7, .ref z8, .ref z9, .int (nI z10), .ref z11, .ref z12, .ref z13, .ref z14, .ref z15, .int (nI z16), .ref z17, .int z18, .ref z19]))]) (wr := []) (w1 := [(za, .inr (13, [.int 0, .ref z1, .int (nI z2), .int (nI z3), .int 1, .int (-1), .ref z6, .ref z7, .ref z8, .ref z9, .int (nI z10), .ref z11, .ref z12, .ref z13, .ref z14, .ref z15, .int (nI z16), .ref z17, .int z18, .ref z19]))]) (pl := va_pl L M) hP hD [0] [] rfl rfl (by decide) (by decide) hk1 hFc hP1 hD1
                have hP : va_P D vwCl ([(za, .inr (13, [.int 0, .ref z1, .int (nI z2), .int (nI z3), .int 1, .int (-1), .ref z6, .ref z7, .ref z8, .ref z9, .int (nI z10), .ref z11, .ref z12, .ref z13, .ref z14, .ref z15, .int (nI z16), .ref z17, .int z18, .ref z19]))] ++ va_pl L M) H_173 := hP
                have hD : va_D A ([(za, .inr (13, [.int 0, .ref z1, .int (nI z2), .int (nI z3), .int 1, .int (-1), .ref z6, .ref z7, .ref z8, .ref z9, .int (nI z10), .ref z11, .ref z12, .ref z13, .ref z14, .ref z15, .int (nI z16), .ref z17, .int z18, .ref z19]))] ++ va_pl L M) := hD
                have hq := Eq.symm hp_176
                subst hq
                have hE : cntQ k1 k2 z2 z3 = z3 := by unfold cntQ; rw [if_neg (fun q => q.1.2.2.2 c_105 c_141)]
                have hP : va_P D vwCl ([(za, .inr (13, [.int 0, .ref z1, .int (nI z2), .int (nI (cntQ k1 k2 z2 z3)), .int 1, .int (-1), .ref z6, .ref z7, .ref z8, .ref z9, .int (nI z10), .ref z11, .ref z12, .ref z13, .ref z14, .ref z15, .int (nI z16), .ref z17, .int z18, .ref z19]))] ++ va_pl L M) H_173 := by rw [hE]; exact hP
                have hD : va_D A ([(za, .inr (13, [.int 0, .ref z1, .int (nI z2), .int (nI (cntQ k1 k2 z2 z3)), .int 1, .int (-1), .ref z6, .ref z7, .ref z8, .ref z9, .int (nI z10), .ref z11, .ref z12, .ref z13, .ref z14, .ref z15, .int (nI z16), .ref z17, .int z18, .ref z19]))] ++ va_pl L M) := by rw [hE]; exact hD
                rw [hQ]
                exact W.iret (v := (-1)) hx hb hr (fun t ht hW9 => ⟨⟨(-1), M, rfl, ⟨hW, hF, hR5, (by unfold ansP; rw [if_neg (fun q => q.1.2.2.2 c_105 c_141)]; first | done | rfl)⟩, ⟨1, (-1), by rw [ht]; exact hP, hD⟩⟩, hS.F ht⟩) hS.2.2 dX13_partner_73
      · have hz := rfl (a := 0)
        refine lv_iconst (v := 1) hx hb dX13_partner_20 (by decide) ?_
        refine lv_goto (tgt := 25) hx hb dX13_partner_21 (by decide) ?_
        refine lv_istore_n (lv' := [(3, .int 1), (0, .ref za), (1, .int k1), (2, .int k2)]) hx hb dX13_partner_25 rfl hl (by decide) rfl (fun ls hl => ?_)
        have hlim : (k1 = 1 ∨ k1 = 2 ∨ k1 = 4) := Or.inr (Or.inr c_92)
        refine lv_iload_n hx hb dX13_partner_26 rfl (lv_at hl 2 rfl) ?_
        refine lv_if_lt (tgt := 49) hx hb dX13_partner_27 (by decide) (fun c_177 => absurd c_177 (by rw [c_92]; decide)) (fun c_177 => ?_)
        refine lv_iload_n hx hb dX13_partner_30 rfl (lv_at hl 2 rfl) ?_
        refine lv_iconst (v := 5) hx hb dX13_partner_31 (by decide) ?_
        refine lv_icmp_gt (tgt := 49) hx hb dX13_partner_32 (by decide) (fun c_178 => absurd c_178 (by rw [c_92]; decide)) (fun c_178 => ?_)
        refine lv_iload_n hx hb dX13_partner_35 rfl (lv_at hl 0 rfl) ?_
        refine lv_if_eq (tgt := 55) hx hb dX13_partner_36 (by decide) (fun c_179 => absurd c_179 (by decide)) (fun _ => ?_)
        refine lv_iload_n hx hb dX13_partner_39 rfl (lv_at hl 3 rfl) ?_
        refine lv_if_lt (tgt := 49) hx hb dX13_partner_40 (by decide) (fun c_180 => ?_) (fun c_180 => ?_)
        · have hz := rfl (a := 0)
          refine lv_aload_n hx hb dX13_partner_49 rfl (lv_at hl 1 rfl) ?_
          refine lv_iconst (v := 2) hx hb dX13_partner_50 (by decide) ?_
          have hPc := hP.sub (ws' := [(za, .inr (13, [.int 0, .ref z1, .int (nI z2), .int (nI z3), .int z4, .int z5, .ref z6, .ref z7, .ref z8, .ref z9, .int (nI z10), .ref z11, .ref z12, .ref z13, .ref z14, .ref z15, .int (nI z16), .ref z17, .int z18, .ref z19]))]) [0] rfl
          have hDc := hD.sub (ws' := [(za, .inr (13, [.int 0, .ref z1, .int (nI z2), .int (nI z3), .int z4, .int z5, .ref z6, .ref z7, .ref z8, .ref z9, .int (nI z10), .ref z11, .ref z12, .ref z13, .ref z14, .ref z15, .int (nI z16), .ref z17, .int z18, .ref z19]))]) [0] (by decide) rfl
          have hKc := hK.sub (tys' := []) [] rfl
          have hFc := va_free (wc := [(za, .inr (13, [.int 0, .ref z1, .int (nI z2), .int (nI z3), .int z4, .int z5, .ref z6, .ref z7, .ref z8, .ref z9, .int (nI z10), .ref z11, .ref z12, .ref z13, .ref z14, .ref z15, .int (nI z16), .ref z17, .int z18, .ref z19]))]) hD hS hA [0] rfl
          refine va_calli (va_runV (As := [.int 2]) (rest := []) ⟨hx, hb, hml, hown, hg⟩ (m_refused l D H_1.size za 0 z1 (nI z2) (nI z3) z4 z5 z6 z7 z8 z9 (nI z10) z11 z12 z13 z14 z15 (nI z16) z17 z18 z19 2) (cwV 1 hg (gV wd_725 wd_726 wd_727 wd_717 wd_728) rfl rfl rfl (by decide +kernel) ⟨(Nat.le_trans (Nat.le_of_ble_eq_true rfl) hRf), (Nat.le_trans (Nat.le_of_ble_eq_true rfl) hRl)⟩) ⟨Pr.blind, va_recv hK hP (ci := 13) (q0 := 0) rfl rfl, fun U hU hW => ⟨rfl, Pr.at hPc hKc hDc hN hU hW⟩⟩ rfl rfl hl.1 rfl (lv_room (Nat.le_of_ble_eq_true rfl)) dX13_partner_51 ⟨(Nat.le_trans (Nat.le_of_ble_eq_true rfl) hRc), (Nat.le_trans (Nat.le_of_ble_eq_true rfl) hRs)⟩) hS (fun q _ h => hFc q h) hFc (fun r_182 M_183 t H_181 locs ht hvm hw hB hz1 hk1 hS => ?_)
          have hp_184 := hw
          obtain ⟨hP1, hK1, hD1⟩ := hB
          rw [ht] at hP1
          obtain ⟨hP, hD⟩ := va_joinQ (X := [(za, .inr (13, [.int 0, .ref z1, .int (nI z2), .int (nI z3), .int z4, .int z5, .ref z6, .ref z7, .ref z8, .ref z9, .int (nI z10), .ref z11, .ref z12, .ref z13, .ref z14, .ref z15, .int (nI z16), .ref z17, .int z18, .ref z19]))]) (cx := [(za, .inr (13, [.int 0, .ref z1, .int (nI z2), .int (nI z3), .int z4, .int z5, .ref z6, .ref z7, .ref z8, .ref z9, .int (nI z10), .ref z11, .ref z12, .ref z13, .ref z14, .ref z15, .int (nI z16), .ref z17, .int z18, .ref z19]))]) (wr := []) (w1 := [(za, .inr (13, [.int 0, .ref z1, .int (nI z2), .int (nI z3), .int 2, .int (-1), .ref z6, .ref z7, .ref z8, .ref z9, .int (nI z10), .ref z11, .ref z12, .ref z13, .ref z14, .ref z15, .int (nI z16), .ref z17, .int z18, .ref z19]))]) (pl := va_pl L M) hP hD [0] [] rfl rfl (by decide) (by decide) hk1 hFc hP1 hD1
          have hP : va_P D vwCl ([(za, .inr (13, [.int 0, .ref z1, .int (nI z2), .int (nI z3), .int 2, .int (-1), .ref z6, .ref z7, .ref z8, .ref z9, .int (nI z10), .ref z11, .ref z12, .ref z13, .ref z14, .ref z15, .int (nI z16), .ref z17, .int z18, .ref z19]))] ++ va_pl L M) H_181 := hP
          have hD : va_D A ([(za, .inr (13, [.int 0, .ref z1, .int (nI z2), .int (nI z3), .int 2, .int (-1), .ref z6, .ref z7, .ref z8, .ref z9, .int (nI z10), .ref z11, .ref z12, .ref z13, .ref z14, .ref z15, .int (nI z16), .ref z17, .int z18, .ref z19]))] ++ va_pl L M) := hD
          have hq := Eq.symm hp_184
          subst hq
          have hE : cntQ k1 k2 z2 z3 = z3 := by unfold cntQ; rw [if_neg (fun q => (q.1.2.2.1 hlim).1 c_180)]
          have hP : va_P D vwCl ([(za, .inr (13, [.int 0, .ref z1, .int (nI z2), .int (nI (cntQ k1 k2 z2 z3)), .int 2, .int (-1), .ref z6, .ref z7, .ref z8, .ref z9, .int (nI z10), .ref z11, .ref z12, .ref z13, .ref z14, .ref z15, .int (nI z16), .ref z17, .int z18, .ref z19]))] ++ va_pl L M) H_181 := by rw [hE]; exact hP
          have hD : va_D A ([(za, .inr (13, [.int 0, .ref z1, .int (nI z2), .int (nI (cntQ k1 k2 z2 z3)), .int 2, .int (-1), .ref z6, .ref z7, .ref z8, .ref z9, .int (nI z10), .ref z11, .ref z12, .ref z13, .ref z14, .ref z15, .int (nI z16), .ref z17, .int z18, .ref z19]))] ++ va_pl L M) := by rw [hE]; exact hD
          rw [hQ]
          exact W.iret (v := (-1)) hx hb hr (fun t ht hW9 => ⟨⟨(-1), M, rfl, ⟨hW, hF, hR5, (by unfold ansP; rw [if_neg (fun q => (q.1.2.2.1 hlim).1 c_180)]; first | done | rfl)⟩, ⟨2, (-1), by rw [ht]; exact hP, hD⟩⟩, hS.F ht⟩) hS.2.2 dX13_partner_54
        · have hz := rfl (a := 0)
          refine lv_iload_n hx hb dX13_partner_43 rfl (lv_at hl 3 rfl) ?_
          refine lv_ldc (v := 1000000000) hx hb hown (hg _ wd_712) dX13_partner_44 ?_
          refine lv_icmp_le (tgt := 55) hx hb dX13_partner_46 (by decide) (fun c_185 => ?_) (fun c_185 => ?_)
          · have hz := rfl (a := 0)
            refine lv_iload_n hx hb dX13_partner_55 rfl (lv_at hl 2 rfl) ?_
            refine lv_iconst (v := 5) hx hb dX13_partner_56 (by decide) ?_
            refine lv_icmp_ne (tgt := 74) hx hb dX13_partner_57 (by decide) (fun c_186 => ?_) (fun c_186 => absurd c_186 (by rw [c_92]; decide))
            refine lv_aload_n hx hb dX13_partner_74 rfl (lv_at hl 1 rfl) ?_
            refine va_get (D := D) (ci := 13) (v := .int (nI z3)) (C := RX13) (T := TX13) (N := 20) hx hb hg inG13 hown hK hP 0 rfl rfl 3 (by decide) (hg _ wd_831) (fun _ h9 => h9) rfl dX13_partner_75 ?_
            refine lv_bipush (v := 40) hx hb dX13_partner_78 (by decide) ?_
            refine lv_icmp_ne (tgt := 90) hx hb dX13_partner_80 (by decide) (fun c_187 => ?_) (fun c_187 => ?_)
            · have hz := rfl (a := 0)
              have n_188 : ¬ (z3 = 40) := fun q => c_187 ((iEQ (a := z3) (b := 40) (by omega) (by omega)).mpr q)
              obtain ⟨f189, hM189, hf189⟩ := hW.open_47 i6
              obtain ⟨f190, hM190⟩ := hW.open_48 i7
              have he6 := hM189
              have he7 := hM190
              refine lv_aload_n hx hb dX13_partner_90 rfl (lv_at hl 1 rfl) ?_
              refine va_get (D := D) (ci := 13) (v := .ref z6) (C := RX13) (T := TX13) (N := 20) hx hb hg inG13 hown hK hP 0 rfl rfl 6 (by decide) (hg _ wd_719) (fun _ h9 => h9) rfl dX13_partner_91 ?_
              refine lv_aload_n hx hb dX13_partner_94 rfl (lv_at hl 1 rfl) ?_
              refine va_get (D := D) (ci := 13) (v := .int (nI z3)) (C := RX13) (T := TX13) (N := 20) hx hb hg inG13 hown hK hP 0 rfl rfl 3 (by decide) (hg _ wd_831) (fun _ h9 => h9) rfl dX13_partner_95 ?_
              refine lv_iload_n hx hb dX13_partner_98 rfl (lv_at hl 2 rfl) ?_
              obtain ⟨j_191, hj_192, rfl⟩ := i32nat 6 (by decide) c_177 (leB (b := 6) (c := 5) (by decide) (by decide) (Int32.not_lt.mp c_178))
              refine pg_iast hx hb hK hP hD hS i6.1 0 hM189 rfl (inbN z3 40 (by omega) (by omega)) dX13_partner_99 (fun H_193 locs hP hD hS => ?_)
              obtain ⟨M_194, eM_194⟩ : ∃ M1 : Hp, M1 = va_up M z6 (.inl (cy 14, 40, .inl (upd f189 ((nI z3) : Int32).toNatClampNeg (nI j_191)))) := ⟨_, rfl⟩
              have hP : va_P D vwCl ([(za, .inr (13, [.int 0, .ref z1, .int (nI z2), .int (nI z3), .int z4, .int z5, .ref z6, .ref z7, .ref z8, .ref z9, .int (nI z10), .ref z11, .ref z12, .ref z13, .ref z14, .ref z15, .int (nI z16), .ref z17, .int z18, .ref z19]))] ++ va_pl L M_194) H_193 := by rw [eM_194]; exact hP
              have hD : va_D A ([(za, .inr (13, [.int 0, .ref z1, .int (nI z2), .int (nI z3), .int z4, .int z5, .ref z6, .ref z7, .ref z8, .ref z9, .int (nI z10), .ref z11, .ref z12, .ref z13, .ref z14, .ref z15, .int (nI z16), .ref z17, .int z18, .ref z19]))] ++ va_pl L M_194) := by rw [eM_194]; exact hD
              have hW : WOM cy K L M_194 := by rw [eM_194]; exact hW.up_47 i6 ⟨_, rfl, (updP (P := fun z => ∃ c : Nat, c < 6 ∧ z = nI c) hf189 ⟨j_191, by omega, rfl⟩)⟩
              have hF : fr K L [47, 48] M M_194 := by rw [eM_194]; exact hF.up i6 (by decide)
              have hM_195 : M_194 z6 = .inl (cy 14, 40, .inl (upd f189 ((nI z3) : Int32).toNatClampNeg (nI j_191))) := by rw [eM_194]; exact va_up_self _ _ _
              have hM_196 : M_194 z7 = .inl (cy 14, 40, .inl (f190)) := by rw [eM_194, va_up_ne _ _ (i7.neT i6 (by decide))]; exact hM190
              have hf_198 : ∀ j, j < 40 → ∃ c : Nat, c < 6 ∧ (upd f189 ((nI z3) : Int32).toNatClampNeg (nI j_191)) j = nI c := (updP (P := fun z => ∃ c : Nat, c < 6 ∧ z = nI c) hf189 ⟨j_191, by omega, rfl⟩)
              obtain ⟨f_197, ef_197⟩ : ∃ f : Nat → Int32, f = upd f189 ((nI z3) : Int32).toNatClampNeg (nI j_191) := ⟨_, rfl⟩
              rw [← ef_197] at hM_195 hf_198
              refine lv_aload_n hx hb dX13_partner_100 rfl (lv_at hl 1 rfl) ?_
              refine va_get (D := D) (ci := 13) (v := .ref z7) (C := RX13) (T := TX13) (N := 20) hx hb hg inG13 hown hK hP 0 rfl rfl 7 (by decide) (hg _ wd_760) (fun _ h9 => h9) rfl dX13_partner_101 ?_
              refine lv_aload_n hx hb dX13_partner_104 rfl (lv_at hl 1 rfl) ?_
              refine va_get (D := D) (ci := 13) (v := .int (nI z3)) (C := RX13) (T := TX13) (N := 20) hx hb hg inG13 hown hK hP 0 rfl rfl 3 (by decide) (hg _ wd_831) (fun _ h9 => h9) rfl dX13_partner_105 ?_
              refine lv_iload_n hx hb dX13_partner_108 rfl (lv_at hl 3 rfl) ?_
              refine pg_iast hx hb hK hP hD hS i7.1 0 hM_196 rfl (inbN z3 40 (by omega) (by omega)) dX13_partner_109 (fun H_199 locs hP hD hS => ?_)
              obtain ⟨M_200, eM_200⟩ : ∃ M1 : Hp, M1 = va_up M_194 z7 (.inl (cy 14, 40, .inl (upd f190 ((nI z3) : Int32).toNatClampNeg k2))) := ⟨_, rfl⟩
              have hP : va_P D vwCl ([(za, .inr (13, [.int 0, .ref z1, .int (nI z2), .int (nI z3), .int z4, .int z5, .ref z6, .ref z7, .ref z8, .ref z9, .int (nI z10), .ref z11, .ref z12, .ref z13, .ref z14, .ref z15, .int (nI z16), .ref z17, .int z18, .ref z19]))] ++ va_pl L M_200) H_199 := by rw [eM_200]; exact hP
              have hD : va_D A ([(za, .inr (13, [.int 0, .ref z1, .int (nI z2), .int (nI z3), .int z4, .int z5, .ref z6, .ref z7, .ref z8, .ref z9, .int (nI z10), .ref z11, .ref z12, .ref z13, .ref z14, .ref z15, .int (nI z16), .ref z17, .int z18, .ref z19]))] ++ va_pl L M_200) := by rw [eM_200]; exact hD
              have hW : WOM cy K L M_200 := by rw [eM_200]; exact hW.up_48 i7 ⟨_, rfl⟩
              have hF : fr K L [47, 48] M M_200 := by rw [eM_200]; exact hF.up i7 (by decide)
              have hM_201 : M_200 z7 = .inl (cy 14, 40, .inl (upd f190 ((nI z3) : Int32).toNatClampNeg k2)) := by rw [eM_200]; exact va_up_self _ _ _
              have hM_202 : M_200 z6 = .inl (cy 14, 40, .inl (f_197)) := by rw [eM_200, va_up_ne _ _ (i6.neT i7 (by decide))]; exact hM_195
              obtain ⟨f_203, ef_203⟩ : ∃ f : Nat → Int32, f = upd f190 ((nI z3) : Int32).toNatClampNeg k2 := ⟨_, rfl⟩
              rw [← ef_203] at hM_201
              refine lv_aload_n hx hb dX13_partner_110 rfl (lv_at hl 1 rfl) ?_
              refine lv_dup hx hb dX13_partner_111 rfl ?_
              refine va_get (D := D) (ci := 13) (v := .int (nI z3)) (C := RX13) (T := TX13) (N := 20) hx hb hg inG13 hown hK hP 0 rfl rfl 3 (by decide) (hg _ wd_831) (fun _ h9 => h9) rfl dX13_partner_112 ?_
              refine lv_iconst (v := 1) hx hb dX13_partner_115 (by decide) ?_
              refine lv_iadd hx hb dX13_partner_116 ?_
              refine lv_topi (fun f_204 ef_204 => ?_)
              obtain rfl : f_204 = (nI (z3 + 1)) := ef_204.trans (nI_add z3 1)
              refine va_put (D := D) (ci := 13) (v := .int (nI (z3 + 1))) (ty := .int) (C := RX13) (T := TX13) (N := 20) hx hb hg inG13 tyX13 tyX13_ok nmX13 hown hK hP hD hS 0 rfl rfl 3 (by decide) (hg _ wd_831) (fun _ h9 => h9) rfl (by decide +kernel) rfl rfl (Nat.le_of_ble_eq_true rfl) dX13_partner_117 (fun H_205 locs hP hD hS => ?_)
              have hP : va_P D vwCl ([(za, .inr (13, [.int 0, .ref z1, .int (nI z2), .int (nI (z3 + 1)), .int z4, .int z5, .ref z6, .ref z7, .ref z8, .ref z9, .int (nI z10), .ref z11, .ref z12, .ref z13, .ref z14, .ref z15, .int (nI z16), .ref z17, .int z18, .ref z19]))] ++ va_pl L M_200) H_205 := hP
              have hD : va_D A ([(za, .inr (13, [.int 0, .ref z1, .int (nI z2), .int (nI (z3 + 1)), .int z4, .int z5, .ref z6, .ref z7, .ref z8, .ref z9, .int (nI z10), .ref z11, .ref z12, .ref z13, .ref z14, .ref z15, .int (nI z16), .ref z17, .int z18, .ref z19]))] ++ va_pl L M_200) := hD
              refine lv_aload_n hx hb dX13_partner_120 rfl (lv_at hl 1 rfl) ?_
              refine lv_aload_n hx hb dX13_partner_121 rfl (lv_at hl 1 rfl) ?_
              refine va_get (D := D) (ci := 13) (v := .int (nI (z3 + 1))) (C := RX13) (T := TX13) (N := 20) hx hb hg inG13 hown hK hP 0 rfl rfl 3 (by decide) (hg _ wd_831) (fun _ h9 => h9) rfl dX13_partner_122 ?_
              refine lv_iconst (v := 1) hx hb dX13_partner_125 (by decide) ?_
              refine lv_isub hx hb dX13_partner_126 ?_
              refine lv_topi (fun f_206 ef_206 => ?_)
              obtain rfl : f_206 = (nI ((z3 + 1) - 1)) := ef_206.trans (nI_prd (by omega))
              have hPc := hP.sub (ws' := [(za, .inr (13, [.int 0, .ref z1, .int (nI z2), .int (nI (z3 + 1)), .int z4, .int z5, .ref z6, .ref z7, .ref z8, .ref z9, .int (nI z10), .ref z11, .ref z12, .ref z13, .ref z14, .ref z15, .int (nI z16), .ref z17, .int z18, .ref z19]))]) [0] rfl
              have hDc := hD.sub (ws' := [(za, .inr (13, [.int 0, .ref z1, .int (nI z2), .int (nI (z3 + 1)), .int z4, .int z5, .ref z6, .ref z7, .ref z8, .ref z9, .int (nI z10), .ref z11, .ref z12, .ref z13, .ref z14, .ref z15, .int (nI z16), .ref z17, .int z18, .ref z19]))]) [0] (by decide) rfl
              have hKc := hK.sub (tys' := []) [] rfl
              have hFc := va_free (wc := [(za, .inr (13, [.int 0, .ref z1, .int (nI z2), .int (nI (z3 + 1)), .int z4, .int z5, .ref z6, .ref z7, .ref z8, .ref z9, .int (nI z10), .ref z11, .ref z12, .ref z13, .ref z14, .ref z15, .int (nI z16), .ref z17, .int z18, .ref z19]))]) hD hS hA [0] rfl
              refine va_calli (va_runV (As := [.int (nI ((z3 + 1) - 1))]) (rest := []) ⟨hx, hb, hml, hown, hg⟩ (m_done l D H_205.size za 0 z1 (nI z2) (nI (z3 + 1)) z4 z5 z6 z7 z8 z9 (nI z10) z11 z12 z13 z14 z15 (nI z16) z17 z18 z19 (nI ((z3 + 1) - 1))) (cwV 1 hg (gV wd_730 wd_731 wd_732 wd_717 wd_733) rfl rfl rfl (by decide +kernel) ⟨(Nat.le_trans (Nat.le_of_ble_eq_true rfl) hRf), (Nat.le_trans (Nat.le_of_ble_eq_true rfl) hRl)⟩) ⟨Pr.blind, va_recv hK hP (ci := 13) (q0 := 0) rfl rfl, fun U hU hW => ⟨rfl, Pr.at hPc hKc hDc hN hU hW⟩⟩ rfl rfl hl.1 rfl (lv_room (Nat.le_of_ble_eq_true rfl)) dX13_partner_127 ⟨(Nat.le_trans (Nat.le_of_ble_eq_true rfl) hRc), (Nat.le_trans (Nat.le_of_ble_eq_true rfl) hRs)⟩) hS (fun q _ h => hFc q h) hFc (fun r_208 M_209 t H_207 locs ht hvm hw hB hz1 hk1 hS => ?_)
              have hp_210 := hw
              obtain ⟨hP1, hK1, hD1⟩ := hB
              rw [ht] at hP1
              obtain ⟨hP, hD⟩ := va_joinQ (X := [(za, .inr (13, [.int 0, .ref z1, .int (nI z2), .int (nI (z3 + 1)), .int z4, .int z5, .ref z6, .ref z7, .ref z8, .ref z9, .int (nI z10), .ref z11, .ref z12, .ref z13, .ref z14, .ref z15, .int (nI z16), .ref z17, .int z18, .ref z19]))]) (cx := [(za, .inr (13, [.int 0, .ref z1, .int (nI z2), .int (nI (z3 + 1)), .int z4, .int z5, .ref z6, .ref z7, .ref z8, .ref z9, .int (nI z10), .ref z11, .ref z12, .ref z13, .ref z14, .ref z15, .int (nI z16), .ref z17, .int z18, .ref z19]))]) (wr := []) (w1 := [(za, .inr (13, [.int 0, .ref z1, .int (nI z2), .int (nI (z3 + 1)), .int 0, .int (-1), .ref z6, .ref z7, .ref z8, .ref z9, .int (nI z10), .ref z11, .ref z12, .ref z13, .ref z14, .ref z15, .int (nI z16), .ref z17, .int z18, .ref z19]))]) (pl := va_pl L M_200) hP hD [0] [] rfl rfl (by decide) (by decide) hk1 hFc hP1 hD1
              have hP : va_P D vwCl ([(za, .inr (13, [.int 0, .ref z1, .int (nI z2), .int (nI (z3 + 1)), .int 0, .int (-1), .ref z6, .ref z7, .ref z8, .ref z9, .int (nI z10), .ref z11, .ref z12, .ref z13, .ref z14, .ref z15, .int (nI z16), .ref z17, .int z18, .ref z19]))] ++ va_pl L M_200) H_207 := hP
              have hD : va_D A ([(za, .inr (13, [.int 0, .ref z1, .int (nI z2), .int (nI (z3 + 1)), .int 0, .int (-1), .ref z6, .ref z7, .ref z8, .ref z9, .int (nI z10), .ref z11, .ref z12, .ref z13, .ref z14, .ref z15, .int (nI z16), .ref z17, .int z18, .ref z19]))] ++ va_pl L M_200) := hD
              have hq := Eq.symm hp_210
              subst hq
              have hE : cntQ (nI j_191) k2 z2 z3 = (z3 + 1) := by unfold cntQ; rw [if_pos ⟨⟨c_177, (lt6 c_178), (fun _ => ⟨c_180, c_185⟩), (fun q => absurd q c_186)⟩, by omega⟩]
              have hP : va_P D vwCl ([(za, .inr (13, [.int 0, .ref z1, .int (nI z2), .int (nI (cntQ (nI j_191) k2 z2 z3)), .int 0, .int (-1), .ref z6, .ref z7, .ref z8, .ref z9, .int (nI z10), .ref z11, .ref z12, .ref z13, .ref z14, .ref z15, .int (nI z16), .ref z17, .int z18, .ref z19]))] ++ va_pl L M_200) H_207 := by rw [hE]; exact hP
              have hD : va_D A ([(za, .inr (13, [.int 0, .ref z1, .int (nI z2), .int (nI (cntQ (nI j_191) k2 z2 z3)), .int 0, .int (-1), .ref z6, .ref z7, .ref z8, .ref z9, .int (nI z10), .ref z11, .ref z12, .ref z13, .ref z14, .ref z15, .int (nI z16), .ref z17, .int z18, .ref z19]))] ++ va_pl L M_200) := by rw [hE]; exact hD
              have hR9 : R5 z6 z7 M_200 := R5.put hR5 he6 he7 (by rw [hM_202, ef_197]) (by rw [hM_201, ef_203]) (fun q => absurd q c_186)
              rw [hQ]
              exact W.iret (v := (nI ((z3 + 1) - 1))) hx hb hr (fun t ht hW9 => ⟨⟨(nI ((z3 + 1) - 1)), M_200, rfl, ⟨hW, hF, hR9, (by unfold ansP; rw [if_pos ⟨⟨c_177, (lt6 c_178), (fun _ => ⟨c_180, c_185⟩), (fun q => absurd q c_186)⟩, by omega⟩]; first | done | rfl)⟩, ⟨0, (-1), by rw [ht]; exact hP, hD⟩⟩, hS.F ht⟩) hS.2.2 dX13_partner_130
            · have hz := rfl (a := 0)
              have n_211 : z3 = 40 := (iEQ (a := z3) (b := 40) (by omega) (by omega)).mp c_187
              refine lv_aload_n hx hb dX13_partner_83 rfl (lv_at hl 1 rfl) ?_
              refine lv_bipush (v := 9) hx hb dX13_partner_84 (by decide) ?_
              have hPc := hP.sub (ws' := [(za, .inr (13, [.int 0, .ref z1, .int (nI z2), .int (nI z3), .int z4, .int z5, .ref z6, .ref z7, .ref z8, .ref z9, .int (nI z10), .ref z11, .ref z12, .ref z13, .ref z14, .ref z15, .int (nI z16), .ref z17, .int z18, .ref z19]))]) [0] rfl
              have hDc := hD.sub (ws' := [(za, .inr (13, [.int 0, .ref z1, .int (nI z2), .int (nI z3), .int z4, .int z5, .ref z6, .ref z7, .ref z8, .ref z9, .int (nI z10), .ref z11, .ref z12, .ref z13, .ref z14, .ref z15, .int (nI z16), .ref z17, .int z18, .ref z19]))]) [0] (by decide) rfl
              have hKc := hK.sub (tys' := []) [] rfl
              have hFc := va_free (wc := [(za, .inr (13, [.int 0, .ref z1, .int (nI z2), .int (nI z3), .int z4, .int z5, .ref z6, .ref z7, .ref z8, .ref z9, .int (nI z10), .ref z11, .ref z12, .ref z13, .ref z14, .ref z15, .int (nI z16), .ref z17, .int z18, .ref z19]))]) hD hS hA [0] rfl
              refine va_calli (va_runV (As := [.int 9]) (rest := []) ⟨hx, hb, hml, hown, hg⟩ (m_refused l D H_1.size za 0 z1 (nI z2) (nI z3) z4 z5 z6 z7 z8 z9 (nI z10) z11 z12 z13 z14 z15 (nI z16) z17 z18 z19 9) (cwV 1 hg (gV wd_725 wd_726 wd_727 wd_717 wd_728) rfl rfl rfl (by decide +kernel) ⟨(Nat.le_trans (Nat.le_of_ble_eq_true rfl) hRf), (Nat.le_trans (Nat.le_of_ble_eq_true rfl) hRl)⟩) ⟨Pr.blind, va_recv hK hP (ci := 13) (q0 := 0) rfl rfl, fun U hU hW => ⟨rfl, Pr.at hPc hKc hDc hN hU hW⟩⟩ rfl rfl hl.1 rfl (lv_room (Nat.le_of_ble_eq_true rfl)) dX13_partner_86 ⟨(Nat.le_trans (Nat.le_of_ble_eq_true rfl) hRc), (Nat.le_trans (Nat.le_of_ble_eq_true rfl) hRs)⟩) hS (fun q _ h => hFc q h) hFc (fun r_213 M_214 t H_212 locs ht hvm hw hB hz1 hk1 hS => ?_)
              have hp_215 := hw
              obtain ⟨hP1, hK1, hD1⟩ := hB
              rw [ht] at hP1
              obtain ⟨hP, hD⟩ := va_joinQ (X := [(za, .inr (13, [.int 0, .ref z1, .int (nI z2), .int (nI z3), .int z4, .int z5, .ref z6, .ref z7, .ref z8, .ref z9, .int (nI z10), .ref z11, .ref z12, .ref z13, .ref z14, .ref z15, .int (nI z16), .ref z17, .int z18, .ref z19]))]) (cx := [(za, .inr (13, [.int 0, .ref z1, .int (nI z2), .int (nI z3), .int z4, .int z5, .ref z6, .ref z7, .ref z8, .ref z9, .int (nI z10), .ref z11, .ref z12, .ref z13, .ref z14, .ref z15, .int (nI z16), .ref z17, .int z18, .ref z19]))]) (wr := []) (w1 := [(za, .inr (13, [.int 0, .ref z1, .int (nI z2), .int (nI z3), .int 9, .int (-1), .ref z6, .ref z7, .ref z8, .ref z9, .int (nI z10), .ref z11, .ref z12, .ref z13, .ref z14, .ref z15, .int (nI z16), .ref z17, .int z18, .ref z19]))]) (pl := va_pl L M) hP hD [0] [] rfl rfl (by decide) (by decide) hk1 hFc hP1 hD1
              have hP : va_P D vwCl ([(za, .inr (13, [.int 0, .ref z1, .int (nI z2), .int (nI z3), .int 9, .int (-1), .ref z6, .ref z7, .ref z8, .ref z9, .int (nI z10), .ref z11, .ref z12, .ref z13, .ref z14, .ref z15, .int (nI z16), .ref z17, .int z18, .ref z19]))] ++ va_pl L M) H_212 := hP
              have hD : va_D A ([(za, .inr (13, [.int 0, .ref z1, .int (nI z2), .int (nI z3), .int 9, .int (-1), .ref z6, .ref z7, .ref z8, .ref z9, .int (nI z10), .ref z11, .ref z12, .ref z13, .ref z14, .ref z15, .int (nI z16), .ref z17, .int z18, .ref z19]))] ++ va_pl L M) := hD
              have hq := Eq.symm hp_215
              subst hq
              have hE : cntQ k1 k2 z2 z3 = z3 := by unfold cntQ; rw [if_neg (fun q => absurd q.2 (by omega))]
              have hP : va_P D vwCl ([(za, .inr (13, [.int 0, .ref z1, .int (nI z2), .int (nI (cntQ k1 k2 z2 z3)), .int 9, .int (-1), .ref z6, .ref z7, .ref z8, .ref z9, .int (nI z10), .ref z11, .ref z12, .ref z13, .ref z14, .ref z15, .int (nI z16), .ref z17, .int z18, .ref z19]))] ++ va_pl L M) H_212 := by rw [hE]; exact hP
              have hD : va_D A ([(za, .inr (13, [.int 0, .ref z1, .int (nI z2), .int (nI (cntQ k1 k2 z2 z3)), .int 9, .int (-1), .ref z6, .ref z7, .ref z8, .ref z9, .int (nI z10), .ref z11, .ref z12, .ref z13, .ref z14, .ref z15, .int (nI z16), .ref z17, .int z18, .ref z19]))] ++ va_pl L M) := by rw [hE]; exact hD
              rw [hQ]
              exact W.iret (v := (-1)) hx hb hr (fun t ht hW9 => ⟨⟨(-1), M, rfl, ⟨hW, hF, hR5, (by unfold ansP; rw [if_neg (fun q => absurd q.2 (by omega))]; first | done | rfl)⟩, ⟨9, (-1), by rw [ht]; exact hP, hD⟩⟩, hS.F ht⟩) hS.2.2 dX13_partner_89
          · have hz := rfl (a := 0)
            have n_216 : ¬ k2 < 0 := gtN (c := 1000000000) (by omega) (Int32.not_le.mp c_185)
            refine lv_aload_n hx hb dX13_partner_49 rfl (lv_at hl 1 rfl) ?_
            refine lv_iconst (v := 2) hx hb dX13_partner_50 (by decide) ?_
            have hPc := hP.sub (ws' := [(za, .inr (13, [.int 0, .ref z1, .int (nI z2), .int (nI z3), .int z4, .int z5, .ref z6, .ref z7, .ref z8, .ref z9, .int (nI z10), .ref z11, .ref z12, .ref z13, .ref z14, .ref z15, .int (nI z16), .ref z17, .int z18, .ref z19]))]) [0] rfl
            have hDc := hD.sub (ws' := [(za, .inr (13, [.int 0, .ref z1, .int (nI z2), .int (nI z3), .int z4, .int z5, .ref z6, .ref z7, .ref z8, .ref z9, .int (nI z10), .ref z11, .ref z12, .ref z13, .ref z14, .ref z15, .int (nI z16), .ref z17, .int z18, .ref z19]))]) [0] (by decide) rfl
            have hKc := hK.sub (tys' := []) [] rfl
            have hFc := va_free (wc := [(za, .inr (13, [.int 0, .ref z1, .int (nI z2), .int (nI z3), .int z4, .int z5, .ref z6, .ref z7, .ref z8, .ref z9, .int (nI z10), .ref z11, .ref z12, .ref z13, .ref z14, .ref z15, .int (nI z16), .ref z17, .int z18, .ref z19]))]) hD hS hA [0] rfl
            refine va_calli (va_runV (As := [.int 2]) (rest := []) ⟨hx, hb, hml, hown, hg⟩ (m_refused l D H_1.size za 0 z1 (nI z2) (nI z3) z4 z5 z6 z7 z8 z9 (nI z10) z11 z12 z13 z14 z15 (nI z16) z17 z18 z19 2) (cwV 1 hg (gV wd_725 wd_726 wd_727 wd_717 wd_728) rfl rfl rfl (by decide +kernel) ⟨(Nat.le_trans (Nat.le_of_ble_eq_true rfl) hRf), (Nat.le_trans (Nat.le_of_ble_eq_true rfl) hRl)⟩) ⟨Pr.blind, va_recv hK hP (ci := 13) (q0 := 0) rfl rfl, fun U hU hW => ⟨rfl, Pr.at hPc hKc hDc hN hU hW⟩⟩ rfl rfl hl.1 rfl (lv_room (Nat.le_of_ble_eq_true rfl)) dX13_partner_51 ⟨(Nat.le_trans (Nat.le_of_ble_eq_true rfl) hRc), (Nat.le_trans (Nat.le_of_ble_eq_true rfl) hRs)⟩) hS (fun q _ h => hFc q h) hFc (fun r_218 M_219 t H_217 locs ht hvm hw hB hz1 hk1 hS => ?_)
            have hp_220 := hw
            obtain ⟨hP1, hK1, hD1⟩ := hB
            rw [ht] at hP1
            obtain ⟨hP, hD⟩ := va_joinQ (X := [(za, .inr (13, [.int 0, .ref z1, .int (nI z2), .int (nI z3), .int z4, .int z5, .ref z6, .ref z7, .ref z8, .ref z9, .int (nI z10), .ref z11, .ref z12, .ref z13, .ref z14, .ref z15, .int (nI z16), .ref z17, .int z18, .ref z19]))]) (cx := [(za, .inr (13, [.int 0, .ref z1, .int (nI z2), .int (nI z3), .int z4, .int z5, .ref z6, .ref z7, .ref z8, .ref z9, .int (nI z10), .ref z11, .ref z12, .ref z13, .ref z14, .ref z15, .int (nI z16), .ref z17, .int z18, .ref z19]))]) (wr := []) (w1 := [(za, .inr (13, [.int 0, .ref z1, .int (nI z2), .int (nI z3), .int 2, .int (-1), .ref z6, .ref z7, .ref z8, .ref z9, .int (nI z10), .ref z11, .ref z12, .ref z13, .ref z14, .ref z15, .int (nI z16), .ref z17, .int z18, .ref z19]))]) (pl := va_pl L M) hP hD [0] [] rfl rfl (by decide) (by decide) hk1 hFc hP1 hD1
            have hP : va_P D vwCl ([(za, .inr (13, [.int 0, .ref z1, .int (nI z2), .int (nI z3), .int 2, .int (-1), .ref z6, .ref z7, .ref z8, .ref z9, .int (nI z10), .ref z11, .ref z12, .ref z13, .ref z14, .ref z15, .int (nI z16), .ref z17, .int z18, .ref z19]))] ++ va_pl L M) H_217 := hP
            have hD : va_D A ([(za, .inr (13, [.int 0, .ref z1, .int (nI z2), .int (nI z3), .int 2, .int (-1), .ref z6, .ref z7, .ref z8, .ref z9, .int (nI z10), .ref z11, .ref z12, .ref z13, .ref z14, .ref z15, .int (nI z16), .ref z17, .int z18, .ref z19]))] ++ va_pl L M) := hD
            have hq := Eq.symm hp_220
            subst hq
            have hE : cntQ k1 k2 z2 z3 = z3 := by unfold cntQ; rw [if_neg (fun q => c_185 (q.1.2.2.1 hlim).2)]
            have hP : va_P D vwCl ([(za, .inr (13, [.int 0, .ref z1, .int (nI z2), .int (nI (cntQ k1 k2 z2 z3)), .int 2, .int (-1), .ref z6, .ref z7, .ref z8, .ref z9, .int (nI z10), .ref z11, .ref z12, .ref z13, .ref z14, .ref z15, .int (nI z16), .ref z17, .int z18, .ref z19]))] ++ va_pl L M) H_217 := by rw [hE]; exact hP
            have hD : va_D A ([(za, .inr (13, [.int 0, .ref z1, .int (nI z2), .int (nI (cntQ k1 k2 z2 z3)), .int 2, .int (-1), .ref z6, .ref z7, .ref z8, .ref z9, .int (nI z10), .ref z11, .ref z12, .ref z13, .ref z14, .ref z15, .int (nI z16), .ref z17, .int z18, .ref z19]))] ++ va_pl L M) := by rw [hE]; exact hD
            rw [hQ]
            exact W.iret (v := (-1)) hx hb hr (fun t ht hW9 => ⟨⟨(-1), M, rfl, ⟨hW, hF, hR5, (by unfold ansP; rw [if_neg (fun q => c_185 (q.1.2.2.1 hlim).2)]; first | done | rfl)⟩, ⟨2, (-1), by rw [ht]; exact hP, hD⟩⟩, hS.F ht⟩) hS.2.2 dX13_partner_54
