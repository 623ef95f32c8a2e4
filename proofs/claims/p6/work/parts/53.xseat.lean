/-- whether a seat holds a tenure that hasn't ended -/
def hold (Y : Nat → Nat → Int32) (s : Nat) : Prop := 1 ≤ (Y 9 s).toInt ∧ (Y 22 ((Y 9 s).toInt - 1).toNat).toInt = -1
theorem seatOf_or {l h : Int32} {z : Int} (e : z = seatOf l h) : (l.toInt ≠ 0 ∧ z = - l.toInt) ∨ (l.toInt = 0 ∧ z = h.toInt + 1) := by
  unfold seatOf at e
  by_cases q : l = 0
  · rw [if_neg (by intro z9; exact z9 q)] at e
    exact Or.inr ⟨by rw [q]; rfl, e⟩
  · rw [if_pos q] at e
    exact Or.inl ⟨fun w => q (Int32.toInt.inj w), e⟩
theorem SIM.hold1 {k : Nat} {T : Int} {np : Nat} {PK PT : Nat → Int32} {x : Nat → Int} {y : Nat → Nat → Int32} {X : Nat → Int} {Y : Nat → Nat → Int32} {s i : Nat} (h : SIM k T np PK PT x y X Y) (hs : s < 6) (h50 : (y 50 s).toInt = 0) (h51 : (y 51 s).toInt = (i : Int)) : (Y 9 s).toInt = (i : Int) + 1 ∧ (hold Y s ↔ (y 22 i).toInt = -1) := by
  have g := h.se s hs
  have e : (Y 9 s).toInt = (i : Int) + 1 := by
    rcases seatOf_or g.1 with q | q
    · exact absurd h50 q.1
    · omega
  have t := (h.te i (by omega)).2.2.2.1
  refine ⟨e, ?_⟩
  unfold hold
  rw [e, show ((i : Int) + 1 - 1).toNat = i by omega, t]
  exact ⟨fun q => q.2, fun q => ⟨by omega, q⟩⟩
theorem SIM.hold0 {k : Nat} {T : Int} {np : Nat} {PK PT : Nat → Int32} {x : Nat → Int} {y : Nat → Nat → Int32} {X : Nat → Int} {Y : Nat → Nat → Int32} {s : Nat} (h : SIM k T np PK PT x y X Y) (hs : s < 6) (h50 : (y 50 s).toInt = 0) (h51 : (y 51 s).toInt = -1) : (Y 9 s).toInt = 0 ∧ ¬ hold Y s := by
  have g := h.se s hs
  have e : (Y 9 s).toInt = 0 := by
    rcases seatOf_or g.1 with q | q
    · exact absurd h50 q.1
    · omega
  exact ⟨e, fun q => by have := q.1; omega⟩
theorem SIM.letd {k : Nat} {T : Int} {np : Nat} {PK PT : Nat → Int32} {x : Nat → Int} {y : Nat → Nat → Int32} {X : Nat → Int} {Y : Nat → Nat → Int32} {s : Nat} (h : SIM k T np PK PT x y X Y) (hs : s < 6) (h50 : (y 50 s).toInt ≠ 0) : (Y 9 s).toInt = - (y 50 s).toInt ∧ (Y 9 s).toInt < 0 := by
  have g := h.se s hs
  rcases seatOf_or g.1 with q | q
  · exact ⟨q.2, by omega⟩
  · exact absurd q.1 h50
/-- letter, unseal, holds -/
def okHS (n : Nat) (h s : Int32) : Prop := 0 ≤ h.toInt ∧ h.toInt < (n : Int) ∧ 0 ≤ s.toInt ∧ s.toInt < 6
def okLe (n : Nat) (SY : Nat → Nat → Nat → Int32) (h s l : Int32) : Prop := okHS n h s ∧ 1 ≤ l.toInt ∧ l.toInt ≤ 1000000 ∧ 0 ≤ (SY h.toNatClampNeg 9 s.toNatClampNeg).toInt ∧ ¬ hold (SY h.toNatClampNeg) s.toNatClampNeg
noncomputable def anLe (n : Nat) (SY : Nat → Nat → Nat → Int32) (h s l : Int32) : Int32 := (@ite _ (okLe n SY h s l) (Classical.propDecidable _) (1) (-1))
noncomputable def syLe (n : Nat) (SY : Nat → Nat → Nat → Int32) (h s l : Int32) : Nat → Nat → Nat → Int32 := (@ite _ (okLe n SY h s l) (Classical.propDecidable _) (va_up SY h.toNatClampNeg (va_up (SY h.toNatClampNeg) 9 (upd (SY h.toNatClampNeg 9) s.toNatClampNeg (-l)))) (SY))
def okUn (n : Nat) (SY : Nat → Nat → Nat → Int32) (h s : Int32) : Prop := okHS n h s ∧ (SY h.toNatClampNeg 9 s.toNatClampNeg).toInt < 0
noncomputable def anUn (n : Nat) (SY : Nat → Nat → Nat → Int32) (h s : Int32) : Int32 := (@ite _ (okUn n SY h s) (Classical.propDecidable _) (-(SY h.toNatClampNeg 9 s.toNatClampNeg)) (-1))
noncomputable def syUn (n : Nat) (SY : Nat → Nat → Nat → Int32) (h s : Int32) : Nat → Nat → Nat → Int32 := (@ite _ (okUn n SY h s) (Classical.propDecidable _) (va_up SY h.toNatClampNeg (va_up (SY h.toNatClampNeg) 9 (upd (SY h.toNatClampNeg 9) s.toNatClampNeg 0))) (SY))
noncomputable def anHo (n : Nat) (SY : Nat → Nat → Nat → Int32) (h s : Int32) : Int32 := (@ite _ (okHS n h s) (Classical.propDecidable _) ((if (SY h.toNatClampNeg 9 s.toNatClampNeg).toInt = 0 then 0 else if (SY h.toNatClampNeg 9 s.toNatClampNeg).toInt < 0 then 1 else (@ite _ (hold (SY h.toNatClampNeg) s.toNatClampNeg) (Classical.propDecidable _) (2) (3)))) (-1))
theorem va_upI {α : Type} (f : Nat → α) (k : Nat) : va_up f k (f k) = f := by
  funext j
  by_cases q : j = k
  · rw [q, va_up_self]
  · rw [va_up_ne _ _ q]
theorem CX.mono {B : Nat → Nat × Nat} {K : Kp} {L : List Nat} {x0 n : Nat} {T : Int} {np : Nat} {PK PT : Nat → Int32} {SX : Nat → Nat → Int} {SY : Nat → Nat → Nat → Int32} {M : Hp} (h : CX B K L x0 n T np PK PT SX SY M) : CX B K L x0 n (T + 1) np PK PT SX SY M := ⟨fun k hk => by obtain ⟨a, e, g⟩ := h.hs k hk; exact ⟨a, e, g.mono (by omega)⟩, h.oc, h.ph⟩
theorem OC.l16 {cy : Nat → ClassId} {B : Nat → Nat × Nat} {K : Kp} {L : List Nat} {M : Hp} {b : Nat} (h : OC B K L M) (hW : WOK cy K L M) (hb : isk K L b 2 0) : ALc (M (rA 1 M (rA 2 M b 16) 1)) = 120 := by
  obtain ⟨n, q0, q1, q2⟩ := KD hW (KH hW hb).2.2.2.2.2.2.1
  have e : n = 120 := congrArg Prod.snd (q0.2.symm.trans (h.n16 b hb).2)
  obtain ⟨f, g⟩ := hW.open_56 q1
  rw [g, e]
  rfl
theorem OC.l17 {cy : Nat → ClassId} {B : Nat → Nat × Nat} {K : Kp} {L : List Nat} {M : Hp} {b : Nat} (h : OC B K L M) (hW : WOK cy K L M) (hb : isk K L b 2 0) : ALc (M (rA 1 M (rA 2 M b 17) 1)) = 20 := by
  obtain ⟨n, q0, q1, q2⟩ := KD hW (KH hW hb).2.2.2.2.2.2.2.1
  have e : n = 20 := congrArg Prod.snd (q0.2.symm.trans (h.n17 b hb).2)
  obtain ⟨f, g⟩ := hW.open_56 q1
  rw [g, e]
  rfl
theorem lfb {cy : Nat → ClassId} {K : Kp} {L : List Nat} {M : Hp} {l : Nat} (hW : WOK cy K L M) (hl : isk K L l 3 0) : ALc (M (rA 3 M l 1)) ≤ 6 := by
  obtain ⟨n, v0, v1, v2, hM, h0, h1, h2⟩ := hW.open_3 hl
  obtain ⟨f, g⟩ := hW.open_53 h0
  rw [rA_of (j := 1) hM rfl, g]
  exact h2
theorem tn0 {M : Hp} {b i : Nat} (h : RFc (M (rA 2 M b 8)) i = none) (hi : i < 24) : cax M b 28 i = 0 := by
  show vTn M b i = _
  unfold vTn
  rw [if_pos hi, h]
theorem rn0 {M : Hp} {b i : Nat} (h : RFc (M (rA 2 M b 10)) i = none) (hi : i < 16) : cax M b 33 i = 0 := by
  show vRn M b i = _
  unfold vRn
  rw [if_pos hi, h]
set_option maxHeartbeats 4000000 in
set_option maxRecDepth 100000 in
theorem e_houseAt (l : Launch) (D : va_G) (cy : Nat → ClassId) (K : Kp) (L : List Nat) (M : Hp) (sz : Nat) (xa : Nat) (x0 : Nat) (x1 : Nat) (x2 : Nat) (x3 : Nat) (x4 : Nat) (x5 : Nat) (x6 : Nat) (x7 : Int32) (x8 : Nat) (x9 : Int32) (x10 : Int32) (k1 : Int32) (Bo : Nat → Nat × Nat) (T : Int) (PK : Nat → Int32) (PT : Nat → Int32) (SX : Nat → Nat → Int) (SY : Nat → Nat → Nat → Int32) (hW : WOK cy K L M) (i0 : isk K L x0 17 8) (b1 : x1 ≤ 8) (i2 : isk K L x2 19 40) (b3 : x3 ≤ 40) (i4 : isk K L x4 7 0) (i5 : isk K L x5 5 0) (i6 : isk K L x6 60 24) (i8 : isk K L x8 73 25) (hC : CX Bo K L x0 x1 T x3 PK PT SX SY M) : Met l yX11_houseAt (wsM yX11_houseAt cX11_houseAt 2 (some (.object "PartnersBook$House"))) ({ frames := 0, cells := 0, slots := 0, locals := 0 }) (va_Pc [.ref xa, .int k1] (PG D cy [(xa, (b11_1 x0 (nI x1) x2 (nI x3) x4 x5 x6 x7 x8 x9 x10))] L M sz)) (va_Qq (fun (r : Option Nat) (_ : Unit) => iskN K L r 2 0 ∧ (∀ b, r = some b → (0 ≤ k1.toInt ∧ k1.toInt < (x1 : Int)) ∧ RFc (M x0) k1.toNatClampNeg = some b) ∧ (r = none → ¬ (0 ≤ k1.toInt ∧ k1.toInt < (x1 : Int)))) (fun _ t => PQ D [(xa, (b11_1 x0 (nI x1) x2 (nI x3) x4 x5 x6 x7 x8 x9 x10))] L M (va_A ([(xa, (b11_1 x0 (nI x1) x2 (nI x3) x4 x5 x6 x7 x8 x9 x10))] ++ va_pl L M) sz) t) (va_A ([(xa, (b11_1 x0 (nI x1) x2 (nI x3) x4 x5 x6 x7 x8 x9 x10))] ++ va_pl L M) sz)) 0 0 (va_A ([(xa, (b11_1 x0 (nI x1) x2 (nI x3) x4 x5 x6 x7 x8 x9 x10))] ++ va_pl L M) sz) := by
  refine Met.ofW (cc := cX11_houseAt) (maxL := 2) (ret := (some (.object "PartnersBook$House"))) (by decide) rfl ?_
  intro p e s m args below meth c s₁ B hml hv
  obtain ⟨rfl, hsz, hP, hK, hD0, hN⟩ := hv
  have hx := B.exec
  have hb := B.bytes
  have hr := B.returns
  have hts := atoms_spec (ws := (wsM yX11_houseAt cX11_houseAt 2 (some (.object "PartnersBook$House")))) B.pre
  have hg : ∀ w ∈ lw_good, w.before _ s = true := fun w h => hts w (List.mem_cons_of_mem _ h)
  have hown : s.vm.findClass RX11 = some m.cls := findClass_of_methodNamed B.named
  have hlocks := B.notSynchronized
  subst hsz
  have hD := hD0.self (sz := s.heap.size)
  generalize hAe : va_A ([(xa, (b11_1 x0 (nI x1) x2 (nI x3) x4 x5 x6 x7 x8 x9 x10))] ++ va_pl L M) s.heap.size = A at hD ⊢
  have hA : ∀ q : Nat, s.heap.size ≤ q → A q := fun q h => by rw [← hAe]; exact Or.inr h
  have hS : va_S A s.heap s.heap [] := va_S.rf
  have hl := lv_entry ([.ref xa, .int k1]) (n := 2) (Nat.le_of_ble_eq_true rfl)
  rw [lg_entry_eq]
  generalize (lg_sl ([.ref xa, .int k1]) ++ List.replicate (2 - (lg_sl ([.ref xa, .int k1])).length) Slot.unset).toArray = ls at hl ⊢
  refine W.nameQ (fun Q hQ => ?_)
  refine W.nameR (fun R hR => ?_)
  have hRf : 0 ≤ R.frames := by rw [hR]; exact Nat.le_of_ble_eq_true rfl
  have hRl : 0 ≤ R.locals := by rw [hR]; exact Nat.le_of_ble_eq_true rfl
  have hRc : 0 ≤ R.cells := by rw [hR]; exact Nat.le_of_ble_eq_true rfl
  have hRs : 0 ≤ R.slots := by rw [hR]; exact Nat.le_of_ble_eq_true rfl
  have hl : lv_has ls 2 [(0, .ref xa), (1, .int k1)] := hl
  refine lv_iload_n hx hb dX11_houseAt_0 rfl (lv_at hl 1 rfl) ?_
  refine lv_if_lt (tgt := 27) hx hb dX11_houseAt_1 (by decide) (fun c_1 => ?_) (fun c_1 => ?_)
  · have hz := rfl (a := 0)
    refine lv_null hx hb dX11_houseAt_27 ?_
    have hI_2 : (k1 : Int32).toInt < (0 : Int) := iltI rfl rfl c_1
    rw [hQ]
    exact W.aret (v := .null) hx hb hr (Or.inl ⟨_, rfl⟩) (Or.inl rfl) (fun t ht hW9 => ⟨⟨none, (), rfl, ⟨iskN.none, ⟨(fun b9 q9 => by cases q9), fun _ q9 => by omega⟩⟩, ⟨by rw [ht]; exact hP, hD⟩⟩, hS.F ht⟩) hS.2.2 dX11_houseAt_28
  · have hz := rfl (a := 0)
    refine lv_iload_n hx hb dX11_houseAt_4 rfl (lv_at hl 1 rfl) ?_
    refine lv_aload_n hx hb dX11_houseAt_5 rfl (lv_at hl 0 rfl) ?_
    refine va_get (D := D) (ci := 11) (v := .int (nI x1)) (C := RX11) (T := TX11) (N := 11) hx hb hg inG11 hown hK hP 0 rfl rfl 1 (by decide) (hg _ wd_336) (fun _ h9 => h9) rfl dX11_houseAt_6 ?_
    refine lv_icmp_ge (tgt := 27) hx hb dX11_houseAt_9 (by decide) (fun c_3 => ?_) (fun c_3 => ?_)
    · have hz := rfl (a := 0)
      refine lv_null hx hb dX11_houseAt_27 ?_
      have hI_4 : (0 : Int) ≤ (k1 : Int32).toInt := inltI rfl rfl c_1
      have hI_5 : ((x1 : Nat) : Int) ≤ (k1 : Int32).toInt := ileI (nI_toInt (by omega)) rfl c_3
      rw [hQ]
      exact W.aret (v := .null) hx hb hr (Or.inl ⟨_, rfl⟩) (Or.inl rfl) (fun t ht hW9 => ⟨⟨none, (), rfl, ⟨iskN.none, ⟨(fun b9 q9 => by cases q9), fun _ q9 => by omega⟩⟩, ⟨by rw [ht]; exact hP, hD⟩⟩, hS.F ht⟩) hS.2.2 dX11_houseAt_28
    · have hz := rfl (a := 0)
      refine lv_iload_n hx hb dX11_houseAt_12 rfl (lv_at hl 1 rfl) ?_
      refine lv_bipush (v := 8) hx hb dX11_houseAt_13 (by decide) ?_
      refine lv_icmp_ge (tgt := 27) hx hb dX11_houseAt_15 (by decide) (fun c_6 => ?_) (fun c_6 => ?_)
      · have hz := rfl (a := 0)
        refine lv_null hx hb dX11_houseAt_27 ?_
        have hI_7 : (0 : Int) ≤ (k1 : Int32).toInt := inltI rfl rfl c_1
        have hI_8 : (k1 : Int32).toInt < ((x1 : Nat) : Int) := inleI (nI_toInt (by omega)) rfl c_3
        have hI_9 : (8 : Int) ≤ (k1 : Int32).toInt := ileI rfl rfl c_6
        rw [hQ]
        exact W.aret (v := .null) hx hb hr (Or.inl ⟨_, rfl⟩) (Or.inl rfl) (fun t ht hW9 => ⟨⟨none, (), rfl, ⟨iskN.none, ⟨(fun b9 q9 => by cases q9), fun _ q9 => by omega⟩⟩, ⟨by rw [ht]; exact hP, hD⟩⟩, hS.F ht⟩) hS.2.2 dX11_houseAt_28
      · have hz := rfl (a := 0)
        refine lv_aload_n hx hb dX11_houseAt_18 rfl (lv_at hl 0 rfl) ?_
        refine va_get (D := D) (ci := 11) (v := .ref x0) (C := RX11) (T := TX11) (N := 11) hx hb hg inG11 hown hK hP 0 rfl rfl 0 (by decide) (hg _ wd_337) (fun _ h9 => h9) rfl dX11_houseAt_19 ?_
        refine lv_iload_n hx hb dX11_houseAt_22 rfl (lv_at hl 1 rfl) ?_
        obtain ⟨f10, hM10, hf10⟩ := hW.open_17 i0
        have hi_11 : vp_in k1 8 := (inb k1 8 (by omega) c_1 c_6)
        refine pg_aldq hx hb hK hP i0.1 3 hM10 rfl hi_11 dX11_houseAt_23 ?_
        obtain ⟨q_12, ho_13⟩ : ∃ q : Option Nat, q = f10 (k1 : Int32).toNatClampNeg := ⟨_, rfl⟩
        rw [← ho_13]
        have hq_14 : iskN K L q_12 2 0 := by rw [ho_13]; exact hf10 _ (vp_lt hi_11)
        rcases q_12 with _ | bq_12
        · have hz := rfl (a := 0)
          refine lv_goto (tgt := 28) hx hb dX11_houseAt_24 (by decide) ?_
          have hI_16 : (0 : Int) ≤ (k1 : Int32).toInt := inltI rfl rfl c_1
          have hI_17 : (k1 : Int32).toInt < ((x1 : Nat) : Int) := inleI (nI_toInt (by omega)) rfl c_3
          have hI_18 : (k1 : Int32).toInt < (8 : Int) := inleI rfl rfl c_6
          have hck : ((k1 : Int32).toNatClampNeg : Int) = k1.toInt := clT (by omega)
          rw [hQ]
          exact W.aret (v := .null) hx hb hr (Or.inl ⟨_, rfl⟩) (Or.inl rfl) (fun t ht hW9 => ⟨⟨none, (), rfl, ⟨iskN.none, ⟨(fun b9 q9 => by cases q9), fun _ q9 => by obtain ⟨a9, e9, _⟩ := hC.hs k1.toNatClampNeg (by omega); rw [RFc_of hM10] at e9; exact absurd (ho_13.trans e9) (by intro z9; cases z9)⟩⟩, ⟨by rw [ht]; exact hP, hD⟩⟩, hS.F ht⟩) hS.2.2 dX11_houseAt_28
        · have hb_15 := hq_14 bq_12 rfl
          refine lv_goto (tgt := 28) hx hb dX11_houseAt_24 (by decide) ?_
          have hI_19 : (0 : Int) ≤ (k1 : Int32).toInt := inltI rfl rfl c_1
          have hI_20 : (k1 : Int32).toInt < ((x1 : Nat) : Int) := inleI (nI_toInt (by omega)) rfl c_3
          have hI_21 : (k1 : Int32).toInt < (8 : Int) := inleI rfl rfl c_6
          rw [hQ]
          exact W.aret (v := .ref bq_12) hx hb hr (Or.inl ⟨_, rfl⟩) (Or.inr ⟨_, rfl⟩) (fun t ht hW9 => ⟨⟨(some bq_12), (), rfl, ⟨iskN.some hb_15, ⟨(fun b9 q9 => by cases q9; exact ⟨by omega, by rw [RFc_of hM10]; exact ho_13.symm⟩), (fun q9 => by cases q9)⟩⟩, ⟨by rw [ht]; exact hP, hD⟩⟩, hS.F ht⟩) hS.2.2 dX11_houseAt_28
set_option maxHeartbeats 4000000 in
set_option maxRecDepth 100000 in
theorem e_sitting (l : Launch) (D : va_G) (cy : Nat → ClassId) (K : Kp) (L : List Nat) (M : Hp) (sz : Nat) (oa : Nat) (k1 : Int32) (Bo : Nat → Nat × Nat) (hW : WOK cy K L M) (ia : isk K L oa 2 0) (hO : OC Bo K L M) : Met l yX2_sitting (wsM yX2_sitting cX2_sitting 3 (some (.object "PartnersBook$Tenure"))) ({ frames := 1, cells := 0, slots := 0, locals := 20 }) (va_Pc [.ref oa, .int k1] (PG D cy [] L M sz)) (va_Qq (fun (r : Option Nat) (_ : Unit) => iskN K L r 9 0 ∧ (∀ t, r = some t → (0 ≤ k1.toInt ∧ k1.toInt < 6) ∧ ∃ i : Nat, i < 24 ∧ RFc (M (rA 2 M oa 8)) i = some t ∧ (cax M oa 51 k1.toNatClampNeg).toInt = (i : Int) ∧ (cax M oa 22 i).toInt = -1) ∧ (r = none → ¬ (0 ≤ k1.toInt ∧ k1.toInt < 6) ∨ (cax M oa 51 k1.toNatClampNeg).toInt = -1 ∨ ∃ i : Nat, i < 24 ∧ (cax M oa 51 k1.toNatClampNeg).toInt = (i : Int) ∧ (cax M oa 22 i).toInt ≠ -1)) (fun _ t => PQ D [] L M (va_A ([] ++ va_pl L M) sz) t) (va_A ([] ++ va_pl L M) sz)) 0 0 (va_A ([] ++ va_pl L M) sz) := by
  refine Met.ofW (cc := cX2_sitting) (maxL := 3) (ret := (some (.object "PartnersBook$Tenure"))) (by decide) rfl ?_
  intro p e s m args below meth c s₁ B hml hv
  obtain ⟨rfl, hsz, hP, hK, hD0, hN⟩ := hv
  have hx := B.exec
  have hb := B.bytes
  have hr := B.returns
  have hts := atoms_spec (ws := (wsM yX2_sitting cX2_sitting 3 (some (.object "PartnersBook$Tenure")))) B.pre
  have hg : ∀ w ∈ lw_good, w.before _ s = true := fun w h => hts w (List.mem_cons_of_mem _ h)
  have hown : s.vm.findClass RX2 = some m.cls := findClass_of_methodNamed B.named
  have hlocks := B.notSynchronized
  subst hsz
  have hD := hD0.self (sz := s.heap.size)
  generalize hAe : va_A ([] ++ va_pl L M) s.heap.size = A at hD ⊢
  have hA : ∀ q : Nat, s.heap.size ≤ q → A q := fun q h => by rw [← hAe]; exact Or.inr h
  have hS : va_S A s.heap s.heap [] := va_S.rf
  have hl := lv_entry ([.ref oa, .int k1]) (n := 3) (Nat.le_of_ble_eq_true rfl)
  rw [lg_entry_eq]
  generalize (lg_sl ([.ref oa, .int k1]) ++ List.replicate (3 - (lg_sl ([.ref oa, .int k1])).length) Slot.unset).toArray = ls at hl ⊢
  refine W.nameQ (fun Q hQ => ?_)
  refine W.nameR (fun R hR => ?_)
  have hRf : 1 ≤ R.frames := by rw [hR]; exact Nat.le_of_ble_eq_true rfl
  have hRl : 20 ≤ R.locals := by rw [hR]; exact Nat.le_of_ble_eq_true rfl
  have hRc : 0 ≤ R.cells := by rw [hR]; exact Nat.le_of_ble_eq_true rfl
  have hRs : 0 ≤ R.slots := by rw [hR]; exact Nat.le_of_ble_eq_true rfl
  have hl : lv_has ls 3 [(0, .ref oa), (1, .int k1)] := hl
  refine lv_iload_n hx hb dX2_sitting_0 rfl (lv_at hl 1 rfl) ?_
  have hPc : va_P D vwCl ([] ++ va_pl L M) s.heap := hP
  have hDc : va_D A ([] ++ va_pl L M) := hD
  have hFc : ∀ q, va_A ([] ++ va_pl L M) s.heap.size q → A q := pg_free hDc hS hA
  refine va_calli (va_runSN (As := [.int k1]) (rest := []) ⟨hx, hb, hml, hown, hg⟩ (e_X11_isSeat l D cy K L M s.heap.size k1  hW ) ⟨va_cnB 1 hg (gB wd_46) rfl rfl rfl (hN _ (List.mem_of_getElem? (i := 3) rfl) : va_Nw (Cond.methodLinkNest RX2 88 yX11_isSeat RX11) s) (hg _ wd_3) (by decide +kernel) ⟨(Nat.le_trans (Nat.le_of_ble_eq_true rfl) hRf), (Nat.le_trans (Nat.le_of_ble_eq_true rfl) hRl)⟩, hg _ wd_47, trivial⟩ ⟨PG.blind, fun U hU hW => ⟨rfl, PG.at hPc hK hDc hN hU hW⟩⟩ rfl rfl hl.1 rfl (lv_room (Nat.le_of_ble_eq_true rfl)) dX2_sitting_1 ⟨(Nat.le_trans (Nat.le_of_ble_eq_true rfl) hRc), (Nat.le_trans (Nat.le_of_ble_eq_true rfl) hRs)⟩) hS (fun q _ h => hFc q h) hFc (fun r_2 M_3 t H_1 locs ht hvm hw hB hz1 hk1 hS => ?_)
  have hp_4 := hw
  obtain ⟨hP1, hD1⟩ := hB
  rw [ht] at hP1
  have hP : va_P D vwCl ([] ++ va_pl L M) H_1 := hP1
  have hD : va_D A ([] ++ va_pl L M) := hD1.mono hFc
  rcases hp_4 with ⟨rfl, c_5, c_6, c_7⟩ | ⟨rfl, c_8⟩
  · have hz := rfl (a := 0)
    refine lv_if_eq (tgt := 16) hx hb dX2_sitting_4 (by decide) (fun c_9 => absurd c_9 (by decide)) (fun _ => ?_)
    refine lv_aload_n hx hb dX2_sitting_7 rfl (lv_at hl 0 rfl) ?_
    obtain ⟨v10_0, v10_1, v10_2, v10_3, v10_4, v10_5, v10_6, v10_7, v10_8, v10_9, v10_10, v10_11, v10_12, v10_13, v10_14, v10_15, v10_16, v10_17, v10_18, v10_19, hM10, h10_3, h10_4, h10_5, h10_6, h10_7, h10_8, h10_9, h10_10, h10_11, h10_12, h10_13, h10_16, h10_17, h10_18, h10_19⟩ := hW.open_2 ia
    refine pg_get (D := D) (ci := 2) (v := .ref v10_7) (C := RX2) (T := TX2) (N := 20) hx hb hg inG2 hown hK hP ia.1 hM10 rfl 7 (by decide) (hg _ wd_48) (fun _ h9 => h9) rfl dX2_sitting_8 ?_
    refine lv_iload_n hx hb dX2_sitting_11 rfl (lv_at hl 1 rfl) ?_
    obtain ⟨f11, hM11, hf11⟩ := hW.open_61 h10_7
    have hi_12 : vp_in k1 6 := (inb k1 6 (by omega) c_6 c_7)
    refine pg_aldq hx hb hK hP h10_7.1 8 hM11 rfl hi_12 dX2_sitting_12 ?_
    obtain ⟨q_13, ho_14⟩ : ∃ q : Option Nat, q = f11 (k1 : Int32).toNatClampNeg := ⟨_, rfl⟩
    rw [← ho_14]
    have hq_15 : iskN K L q_13 9 0 := by rw [ho_14]; exact hf11 _ (vp_lt hi_12)
    rcases q_13 with _ | bq_13
    · have hz := rfl (a := 0)
      refine lv_goto (tgt := 17) hx hb dX2_sitting_13 (by decide) ?_
      refine lv_astore_nN (lv' := [(2, .null), (0, .ref oa), (1, .int k1)]) hx hb dX2_sitting_17 rfl hl (by decide) rfl (fun ls hl => ?_)
      refine lv_aload_nN hx hb dX2_sitting_18 rfl (lv_at hl 0 rfl) ?_
      refine lv_ifnullN (tgt := 29) hx hb dX2_sitting_19 (by decide) ?_
      refine lv_null hx hb dX2_sitting_29 ?_
      refine lv_goto (tgt := 34) hx hb dX2_sitting_30 (by decide) ?_
      have hI_17 : (0 : Int) ≤ (k1 : Int32).toInt := inltI rfl rfl c_6
      have hI_18 : (k1 : Int32).toInt < (6 : Int) := inleI rfl rfl c_7
      have hck : ((k1 : Int32).toNatClampNeg : Int) = k1.toInt := clT (by omega)
      rw [hQ]
      exact W.aret (v := .null) hx hb hr (Or.inl ⟨_, rfl⟩) (Or.inl rfl) (fun t ht hW9 => ⟨⟨none, (), rfl, ⟨iskN.none, ⟨(fun t9 q9 => by cases q9), fun _ => Or.inr (Or.inl (by rw [lk_he0 (i := k1.toNatClampNeg) (by rw [rA_of (j := 7) hM10 rfl, RFc_of hM11]; exact Eq.symm ho_14) (by omega)]; rfl))⟩⟩, ⟨by rw [ht]; exact hP, hD⟩⟩, hS.F ht⟩) hS.2.2 dX2_sitting_34
    · have hb_16 := hq_15 bq_13 rfl
      refine lv_goto (tgt := 17) hx hb dX2_sitting_13 (by decide) ?_
      refine lv_astore_n (lv' := [(2, .ref bq_13), (0, .ref oa), (1, .int k1)]) hx hb dX2_sitting_17 rfl hl (by decide) rfl (fun ls hl => ?_)
      refine lv_aload_n hx hb dX2_sitting_18 rfl (lv_at hl 0 rfl) ?_
      refine lv_ifnull hx hb dX2_sitting_19 ?_
      refine lv_aload_n hx hb dX2_sitting_22 rfl (lv_at hl 0 rfl) ?_
      obtain ⟨v19_0, v19_1, v19_2, v19_3, v19_4, v19_5, v19_6, v19_7, v19_8, v19_9, v19_10, v19_11, v19_12, v19_13, v19_14, v19_15, hM19, h19_0, h19_1, h19_4, h19_8⟩ := hW.open_9 hb_16
      have hPc : va_P D vwCl ([] ++ va_pl L M) H_1 := hP
      have hDc : va_D A ([] ++ va_pl L M) := hD
      have hFc : ∀ q, va_A ([] ++ va_pl L M) H_1.size q → A q := pg_free hDc hS hA
      refine va_calli (va_runV (As := []) (rest := []) ⟨hx, hb, hml, hown, hg⟩ (e_X9_hasEnded l D cy K L M H_1.size bq_13  hW hb_16) (cwV 0 hg (gV wd_49 wd_50 wd_51 wd_52 wd_53) rfl rfl rfl (by decide +kernel) ⟨(Nat.le_trans (Nat.le_of_ble_eq_true rfl) hRf), (Nat.le_trans (Nat.le_of_ble_eq_true rfl) hRl)⟩) ⟨PG.blind, pg_recv hK hP hb_16.1 hM19 rfl, fun U hU hW => ⟨rfl, PG.at hPc hK hDc hN hU hW⟩⟩ rfl rfl hl.1 rfl (lv_room (Nat.le_of_ble_eq_true rfl)) dX2_sitting_23 ⟨(Nat.le_trans (Nat.le_of_ble_eq_true rfl) hRc), (Nat.le_trans (Nat.le_of_ble_eq_true rfl) hRs)⟩) hS (fun q _ h => hFc q h) hFc (fun r_21 M_22 t H_20 locs ht hvm hw hB hz1 hk1 hS => ?_)
      have hp_23 := hw
      obtain ⟨hP1, hD1⟩ := hB
      rw [ht] at hP1
      have hP : va_P D vwCl ([] ++ va_pl L M) H_20 := hP1
      have hD : va_D A ([] ++ va_pl L M) := hD1.mono hFc
      rcases hp_23 with ⟨rfl, c_24⟩ | ⟨rfl, c_25⟩
      · have hz := rfl (a := 0)
        refine lv_if_eq (tgt := 33) hx hb dX2_sitting_26 (by decide) (fun c_26 => absurd c_26 (by decide)) (fun _ => ?_)
        refine lv_null hx hb dX2_sitting_29 ?_
        refine lv_goto (tgt := 34) hx hb dX2_sitting_30 (by decide) ?_
        have hI_27 : (0 : Int) ≤ (k1 : Int32).toInt := inltI rfl rfl c_6
        have hI_28 : (k1 : Int32).toInt < (6 : Int) := inleI rfl rfl c_7
        have hck : ((k1 : Int32).toNatClampNeg : Int) = k1.toInt := clT (by omega)
        have hs7 : RFc (M (rA 2 M oa 7)) k1.toNatClampNeg = some bq_13 := (by rw [rA_of (j := 7) hM10 rfl, RFc_of hM11]; exact (Eq.symm ho_14))
        obtain ⟨i9, hi9, he9⟩ := hO.hd oa ia _ bq_13 (by omega) hs7
        have h51 : (cax M oa 51 k1.toNatClampNeg).toInt = (i9 : Int) := by rw [lk_he hs7 (by omega), hO.nm oa ia i9 bq_13 hi9 he9]; exact nI_toInt (by omega)
        have h22 := (lk_te he9 hi9).2.2.2.1
        rw [hQ]
        exact W.aret (v := .null) hx hb hr (Or.inl ⟨_, rfl⟩) (Or.inl rfl) (fun t ht hW9 => ⟨⟨none, (), rfl, ⟨iskN.none, ⟨(fun t9 q9 => by cases q9), fun _ => Or.inr (Or.inr ⟨i9, hi9, h51, by rw [h22]; omega⟩)⟩⟩, ⟨by rw [ht]; exact hP, hD⟩⟩, hS.F ht⟩) hS.2.2 dX2_sitting_34
      · have hz := rfl (a := 0)
        refine lv_if_eq (tgt := 33) hx hb dX2_sitting_26 (by decide) (fun _ => ?_) (fun c_29 => absurd c_29 (by decide))
        refine lv_aload_n hx hb dX2_sitting_33 rfl (lv_at hl 0 rfl) ?_
        have hI_30 : (0 : Int) ≤ (k1 : Int32).toInt := inltI rfl rfl c_6
        have hI_31 : (k1 : Int32).toInt < (6 : Int) := inleI rfl rfl c_7
        have hck : ((k1 : Int32).toNatClampNeg : Int) = k1.toInt := clT (by omega)
        have hs7 : RFc (M (rA 2 M oa 7)) k1.toNatClampNeg = some bq_13 := (by rw [rA_of (j := 7) hM10 rfl, RFc_of hM11]; exact (Eq.symm ho_14))
        obtain ⟨i9, hi9, he9⟩ := hO.hd oa ia _ bq_13 (by omega) hs7
        have h51 : (cax M oa 51 k1.toNatClampNeg).toInt = (i9 : Int) := by rw [lk_he hs7 (by omega), hO.nm oa ia i9 bq_13 hi9 he9]; exact nI_toInt (by omega)
        have h22 := (lk_te he9 hi9).2.2.2.1
        rw [hQ]
        exact W.aret (v := .ref bq_13) hx hb hr (Or.inl ⟨_, rfl⟩) (Or.inr ⟨_, rfl⟩) (fun t ht hW9 => ⟨⟨(some bq_13), (), rfl, ⟨iskN.some hb_16, ⟨(fun t9 q9 => by cases q9; exact ⟨by omega, i9, hi9, he9, h51, by rw [h22]; omega⟩), (fun q9 => by cases q9)⟩⟩, ⟨by rw [ht]; exact hP, hD⟩⟩, hS.F ht⟩) hS.2.2 dX2_sitting_34
  · have hz := rfl (a := 0)
    refine lv_if_eq (tgt := 16) hx hb dX2_sitting_4 (by decide) (fun _ => ?_) (fun c_32 => absurd c_32 (by decide))
    refine lv_null hx hb dX2_sitting_16 ?_
    refine lv_astore_nN (lv' := [(2, .null), (0, .ref oa), (1, .int k1)]) hx hb dX2_sitting_17 rfl hl (by decide) rfl (fun ls hl => ?_)
    refine lv_aload_nN hx hb dX2_sitting_18 rfl (lv_at hl 0 rfl) ?_
    refine lv_ifnullN (tgt := 29) hx hb dX2_sitting_19 (by decide) ?_
    refine lv_null hx hb dX2_sitting_29 ?_
    refine lv_goto (tgt := 34) hx hb dX2_sitting_30 (by decide) ?_
    rw [hQ]
    exact W.aret (v := .null) hx hb hr (Or.inl ⟨_, rfl⟩) (Or.inl rfl) (fun t ht hW9 => ⟨⟨none, (), rfl, ⟨iskN.none, ⟨(fun t9 q9 => by cases q9), fun _ => Or.inl (by omega)⟩⟩, ⟨by rw [ht]; exact hP, hD⟩⟩, hS.F ht⟩) hS.2.2 dX2_sitting_34
theorem SIM.letter {k : Nat} {T : Int} {np : Nat} {PK PT : Nat → Int32} {x : Nat → Int} {y : Nat → Nat → Int32} {X : Nat → Int} {Y : Nat → Nat → Int32} {s : Nat} {l : Int32} (h : SIM k T np PK PT x y X Y) (hs : s < 6) (h1 : 1 ≤ l.toInt) (h2 : l.toInt ≤ 1000000) (hX : 0 ≤ X 10) : SIM k (T + 1) np PK PT x (va_up (va_up y 50 (upd (y 50) s l)) 51 (upd (y 51) s (-1))) X (va_up Y 9 (upd (Y 9) s (-l))) := by
  refine ⟨h.x0, h.x1, h.x10, h.x11, h.x12, h.x13, h.x14, h.x15, h.x16, h.x20, h.pl, h.te, h.tn, fun s' hs' => ?_, h.ru, h.en, h.mo, h.me, ⟨h.un.1, Int.le_trans h.un.2.1 (by omega), h.un.2.2⟩, h.ow, h.ob, h.wh, h.ex⟩
  show (upd (Y 9) s (-l) s').toInt = seatOf (upd (y 50) s l s') (upd (y 51) s (-1) s') ∧ _
  by_cases q : s' = s
  · subst q
    have e0 : (-l).toInt = - l.toInt := by
      rw [Int32.toInt_neg]
      apply Int.bmod_eq_of_le <;> omega
    show (upd (Y 9) s' (-l) s').toInt = seatOf (upd (y 50) s' l s') (upd (y 51) s' (-1) s') ∧ 0 ≤ (upd (y 50) s' l s').toInt ∧ (upd (y 50) s' l s').toInt ≤ 1000000 ∧ -1 ≤ (upd (y 51) s' (-1) s').toInt ∧ (upd (y 51) s' (-1) s').toInt < X 10 ∧ (upd (y 50) s' l s' ≠ 0 → upd (y 51) s' (-1) s' = -1)
    rw [upd_self, upd_self, upd_self]
    have hl : l ≠ 0 := fun z => by rw [z] at h1; exact absurd h1 (by decide)
    refine ⟨?_, by omega, h2, by decide, ?_, fun _ => rfl⟩
    · unfold seatOf
      rw [if_pos hl, e0]
    · rw [show (-1 : Int32).toInt = -1 from rfl]
      omega
  · show (upd (Y 9) s (-l) s').toInt = seatOf (upd (y 50) s l s') (upd (y 51) s (-1) s') ∧ 0 ≤ (upd (y 50) s l s').toInt ∧ (upd (y 50) s l s').toInt ≤ 1000000 ∧ -1 ≤ (upd (y 51) s (-1) s').toInt ∧ (upd (y 51) s (-1) s').toInt < X 10 ∧ (upd (y 50) s l s' ≠ 0 → upd (y 51) s (-1) s' = -1)
    rw [upd_ne _ _ q, upd_ne _ _ q, upd_ne _ _ q]
    exact h.se s' hs'

set_option maxHeartbeats 4000000 in
set_option maxRecDepth 100000 in
theorem x_letter (l : Launch) (D : va_G) (cy : Nat → ClassId) (K : Kp) (L : List Nat) (M : Hp) (sz : Nat) (xa : Nat) (x0 : Nat) (x1 : Nat) (x2 : Nat) (x3 : Nat) (x4 : Nat) (x5 : Nat) (x6 : Nat) (x7 : Int32) (x8 : Nat) (x9 : Int32) (x10 : Int32) (k1 : Int32) (k2 : Int32) (k3 : Int32) (Bo : Nat → Nat × Nat) (T : Int) (PK : Nat → Int32) (PT : Nat → Int32) (SX : Nat → Nat → Int) (SY : Nat → Nat → Nat → Int32) (hW : WOK cy K L M) (i0 : isk K L x0 17 8) (b1 : x1 ≤ 8) (i2 : isk K L x2 19 40) (b3 : x3 ≤ 40) (i4 : isk K L x4 7 0) (i5 : isk K L x5 5 0) (i6 : isk K L x6 60 24) (i8 : isk K L x8 73 25) (hC : CX Bo K L x0 x1 T x3 PK PT SX SY M) (hSV : ∀ k, k < x1 → SV (SX k) (SY k)) (hHI : ∀ k, k < x1 → HI (SX k) (SY k)) (hT : (0 ≤ T ∧ T ≤ 900000)) : Met l yX11_letter (wsM yX11_letter cX11_letter 5 (some .int)) ({ frames := 2, cells := 0, slots := 0, locals := 43 }) (va_Pc [.ref xa, .int k1, .int k2, .int k3] (PG D cy [(xa, (b11_1 x0 (nI x1) x2 (nI x3) x4 x5 x6 x7 x8 x9 x10))] L M sz)) (va_Qi (fun (r : Int32) (M9 : Hp) => WOK cy K L M9 ∧ fr K L [52, 61] M M9 ∧ (CX Bo K L x0 x1 (T + 1) x3 PK PT SX (syLe x1 SY k1 k2 k3) M9) ∧ ((r = anLe x1 SY k1 k2 k3))) (fun M9 t => ∃ (w9 : Int32), PQ D [(xa, (b11_1 x0 (nI x1) x2 (nI x3) x4 x5 x6 x7 x8 w9 (-1)))] L M9 (va_A ([(xa, (b11_1 x0 (nI x1) x2 (nI x3) x4 x5 x6 x7 x8 x9 x10))] ++ va_pl L M) sz) t) (va_A ([(xa, (b11_1 x0 (nI x1) x2 (nI x3) x4 x5 x6 x7 x8 x9 x10))] ++ va_pl L M) sz)) 0 0 (va_A ([(xa, (b11_1 x0 (nI x1) x2 (nI x3) x4 x5 x6 x7 x8 x9 x10))] ++ va_pl L M) sz) := by
  refine Met.ofW (cc := cX11_letter) (maxL := 5) (ret := (some .int)) (by decide) rfl ?_
  intro p e s m args below meth c s₁ B hml hv
  obtain ⟨rfl, hsz, hP, hK, hD0, hN⟩ := hv
  have hx := B.exec
  have hb := B.bytes
  have hr := B.returns
  have hts := atoms_spec (ws := (wsM yX11_letter cX11_letter 5 (some .int))) B.pre
  have hg : ∀ w ∈ lw_good, w.before _ s = true := fun w h => hts w (List.mem_cons_of_mem _ h)
  have hown : s.vm.findClass RX11 = some m.cls := findClass_of_methodNamed B.named
  have hlocks := B.notSynchronized
  subst hsz
  have hD := hD0.self (sz := s.heap.size)
  generalize hAe : va_A ([(xa, (b11_1 x0 (nI x1) x2 (nI x3) x4 x5 x6 x7 x8 x9 x10))] ++ va_pl L M) s.heap.size = A at hD ⊢
  have hA : ∀ q : Nat, s.heap.size ≤ q → A q := fun q h => by rw [← hAe]; exact Or.inr h
  have hS : va_S A s.heap s.heap [] := va_S.rf
  have hl := lv_entry ([.ref xa, .int k1, .int k2, .int k3]) (n := 5) (Nat.le_of_ble_eq_true rfl)
  rw [lg_entry_eq]
  generalize (lg_sl ([.ref xa, .int k1, .int k2, .int k3]) ++ List.replicate (5 - (lg_sl ([.ref xa, .int k1, .int k2, .int k3])).length) Slot.unset).toArray = ls at hl ⊢
  refine W.nameQ (fun Q hQ => ?_)
  refine W.nameR (fun R hR => ?_)
  have hRf : 2 ≤ R.frames := by rw [hR]; exact Nat.le_of_ble_eq_true rfl
  have hRl : 43 ≤ R.locals := by rw [hR]; exact Nat.le_of_ble_eq_true rfl
  have hRc : 0 ≤ R.cells := by rw [hR]; exact Nat.le_of_ble_eq_true rfl
  have hRs : 0 ≤ R.slots := by rw [hR]; exact Nat.le_of_ble_eq_true rfl
  have hF : fr K L [52, 61] M M := fr.rf
  have hl : lv_has ls 5 [(0, .ref xa), (1, .int k1), (2, .int k2), (3, .int k3)] := hl
  have hW0 := hW
  refine lv_aload_n hx hb dX11_letter_0 rfl (lv_at hl 0 rfl) ?_
  refine lv_iload_n hx hb dX11_letter_1 rfl (lv_at hl 1 rfl) ?_
  have hPc : va_P D vwCl ([(xa, (b11_1 x0 (nI x1) x2 (nI x3) x4 x5 x6 x7 x8 x9 x10))] ++ va_pl L M) s.heap := hP
  have hDc : va_D A ([(xa, (b11_1 x0 (nI x1) x2 (nI x3) x4 x5 x6 x7 x8 x9 x10))] ++ va_pl L M) := hD
  have hFc : ∀ q, va_A ([(xa, (b11_1 x0 (nI x1) x2 (nI x3) x4 x5 x6 x7 x8 x9 x10))] ++ va_pl L M) s.heap.size q → A q := pg_free hDc hS hA
  refine va_callq (va_runV (As := [.int k1]) (rest := []) ⟨hx, hb, hml, hown, hg⟩ (e_houseAt l D cy K L M s.heap.size xa x0 x1 x2 x3 x4 x5 x6 x7 x8 x9 x10 k1 Bo T PK PT SX SY  hW i0 b1 i2 b3 i4 i5 i6 i8 hC) (cwV 1 hg (gV wd_340 wd_341 wd_342 wd_3 wd_343) rfl rfl rfl (by decide +kernel) ⟨(Nat.le_trans (Nat.le_of_ble_eq_true rfl) hRf), (Nat.le_trans (Nat.le_of_ble_eq_true rfl) hRl)⟩) ⟨PG.blind, va_recv hK hP (ci := 11) (q0 := 0) rfl rfl, fun U hU hW => ⟨rfl, PG.at hPc hK hDc hN hU hW⟩⟩ rfl rfl hl.1 rfl (lv_room (Nat.le_of_ble_eq_true rfl)) dX11_letter_2 ⟨(Nat.le_trans (Nat.le_of_ble_eq_true rfl) hRc), (Nat.le_trans (Nat.le_of_ble_eq_true rfl) hRs)⟩) hS (fun q _ h => hFc q h) hFc (fun r_2 M_3 t H_1 locs ht hvm hw hB hz1 hk1 hS => ?_)
  have hp_4 := hw
  obtain ⟨hP1, hD1⟩ := hB
  rw [ht] at hP1
  have hP : va_P D vwCl ([(xa, (b11_1 x0 (nI x1) x2 (nI x3) x4 x5 x6 x7 x8 x9 x10))] ++ va_pl L M) H_1 := hP1
  have hD : va_D A ([(xa, (b11_1 x0 (nI x1) x2 (nI x3) x4 x5 x6 x7 x8 x9 x10))] ++ va_pl L M) := hD1.mono hFc
  obtain ⟨hp_4, hqx⟩ := hp_4
  rcases r_2 with _ | b_5
  · have hz := rfl (a := 0)
    refine lv_astoreN (lv' := [(4, .null), (0, .ref xa), (1, .int k1), (2, .int k2), (3, .int k3)]) hx hb dX11_letter_5 hl (by decide) rfl (fun ls hl => ?_)
    refine lv_aloadN hx hb dX11_letter_7 (lv_at hl 0 rfl) ?_
    refine lv_ifnullN (tgt := 19) hx hb dX11_letter_9 (by decide) ?_
    refine lv_aload_n hx hb dX11_letter_19 rfl (lv_at hl 1 rfl) ?_
    refine lv_iconst (v := 1) hx hb dX11_letter_20 (by decide) ?_
    have hPc := hP.sub (ws' := [(xa, (b11_1 x0 (nI x1) x2 (nI x3) x4 x5 x6 x7 x8 x9 x10))]) [0] rfl
    have hDc := hD.sub (ws' := [(xa, (b11_1 x0 (nI x1) x2 (nI x3) x4 x5 x6 x7 x8 x9 x10))]) [0] (by decide) rfl
    have hKc := hK.sub (tys' := []) [] rfl
    have hFc := va_free (wc := [(xa, (b11_1 x0 (nI x1) x2 (nI x3) x4 x5 x6 x7 x8 x9 x10))]) hD hS hA [0] rfl
    refine va_calli (va_runV (As := [.int 1]) (rest := []) ⟨hx, hb, hml, hown, hg⟩ (k_refuse l D H_1.size xa x0 (nI x1) x2 (nI x3) x4 x5 x6 x7 x8 x9 x10 1) (cwV 1 hg (gV wd_344 wd_345 wd_346 wd_3 wd_347) rfl rfl rfl (by decide +kernel) ⟨(Nat.le_trans (Nat.le_of_ble_eq_true rfl) hRf), (Nat.le_trans (Nat.le_of_ble_eq_true rfl) hRl)⟩) ⟨Pr.blind, va_recv hK hP (ci := 11) (q0 := 0) rfl rfl, fun U hU hW => ⟨rfl, Pr.at hPc hKc hDc hN hU hW⟩⟩ rfl rfl hl.1 rfl (lv_room (Nat.le_of_ble_eq_true rfl)) dX11_letter_21 ⟨(Nat.le_trans (Nat.le_of_ble_eq_true rfl) hRc), (Nat.le_trans (Nat.le_of_ble_eq_true rfl) hRs)⟩) hS (fun q _ h => hFc q h) hFc (fun r_7 M_8 t H_6 locs ht hvm hw hB hz1 hk1 hS => ?_)
    have hp_9 := hw
    obtain ⟨hP1, hK1, hD1⟩ := hB
    rw [ht] at hP1
    obtain ⟨hP, hD⟩ := va_joinQ (X := [(xa, (b11_1 x0 (nI x1) x2 (nI x3) x4 x5 x6 x7 x8 x9 x10))]) (cx := [(xa, (b11_1 x0 (nI x1) x2 (nI x3) x4 x5 x6 x7 x8 x9 x10))]) (wr := []) (w1 := [(xa, (b11_1 x0 (nI x1) x2 (nI x3) x4 x5 x6 x7 x8 1 (-1)))]) (pl := va_pl L M) hP hD [0] [] rfl rfl (by decide) (by decide) hk1 hFc hP1 hD1
    have hP : va_P D vwCl ([(xa, (b11_1 x0 (nI x1) x2 (nI x3) x4 x5 x6 x7 x8 1 (-1)))] ++ va_pl L M) H_6 := hP
    have hD : va_D A ([(xa, (b11_1 x0 (nI x1) x2 (nI x3) x4 x5 x6 x7 x8 1 (-1)))] ++ va_pl L M) := hD
    have hq := Eq.symm hp_9
    subst hq
    have hnh := hqx.2 rfl
    have hno : ¬ okLe x1 SY k1 k2 k3 := fun q9 => by unfold okLe okHS at q9; first | omega | (obtain ⟨⟨_, _, _, _⟩, _, _, _, _⟩ := q9; first | omega | contradiction)
    rw [hQ]
    exact W.iret (v := (-1)) hx hb hr (fun t ht hW9 => ⟨⟨(-1), M, rfl, ⟨hW, hF, (by unfold syLe; rw [if_neg hno]; exact hC.mono), (by unfold anLe; rw [if_neg hno])⟩, ⟨1, by rw [ht]; exact hP, hD⟩⟩, hS.F ht⟩) hS.2.2 dX11_letter_24
  · have hb_10 := hp_4 b_5 rfl
    refine lv_astore (lv' := [(4, .ref b_5), (0, .ref xa), (1, .int k1), (2, .int k2), (3, .int k3)]) hx hb dX11_letter_5 hl (by decide) rfl (fun ls hl => ?_)
    obtain ⟨hr9, hb9⟩ := hqx.1 b_5 rfl
    have hck : ((k1 : Int32).toNatClampNeg : Int) = (k1 : Int32).toInt := clT (by omega)
    have hkn : (k1 : Int32).toNatClampNeg < x1 := by omega
    have hSM := hC.at hkn hb9
    have hSVk := hSV (k1 : Int32).toNatClampNeg hkn
    have hHIk := hHI (k1 : Int32).toNatClampNeg hkn
    have hV : VC Bo K L M M b_5 (cfx M b_5) (cax M b_5) := VC.rf b_5 hC.oc
    obtain ⟨v11_0, v11_1, v11_2, v11_3, v11_4, v11_5, v11_6, v11_7, v11_8, v11_9, v11_10, v11_11, v11_12, v11_13, v11_14, v11_15, v11_16, v11_17, v11_18, v11_19, hM11, h11_3, h11_4, h11_5, h11_6, h11_7, h11_8, h11_9, h11_10, h11_11, h11_12, h11_13, h11_16, h11_17, h11_18, h11_19⟩ := hW.open_2 hb_10
    have hA_12 : (cV 2 M b_5 0).toInt = (v11_0 : Int32).toInt := by rw [cV_of hM11 rfl]
    have hA_13 : (cV 2 M b_5 1).toInt = (v11_1 : Int32).toInt := by rw [cV_of hM11 rfl]
    have hA_14 : (cV 2 M b_5 2).toInt = (v11_2 : Int32).toInt := by rw [cV_of hM11 rfl]
    have hA_15 : (cV 2 M b_5 4).toInt = ((v11_4 : Nat) : Int) := by rw [cV_of hM11 rfl]; exact nI_toInt (by omega)
    have hA_16 : (cV 2 M b_5 5).toInt = ((v11_5 : Nat) : Int) := by rw [cV_of hM11 rfl]; exact nI_toInt (by omega)
    have hA_17 : (cV 2 M b_5 9).toInt = ((v11_9 : Nat) : Int) := by rw [cV_of hM11 rfl]; exact nI_toInt (by omega)
    have hA_18 : (cV 2 M b_5 11).toInt = ((v11_11 : Nat) : Int) := by rw [cV_of hM11 rfl]; exact nI_toInt (by omega)
    have hA_19 : (cV 2 M b_5 15).toInt = (v11_15 : Int32).toInt := by rw [cV_of hM11 rfl]
    have hq0 : (cV 2 M b_5 1).toInt = SX (k1 : Int32).toNatClampNeg 0 := hSM.x0
    have hq1 : (cV 2 M b_5 2).toInt = SX (k1 : Int32).toNatClampNeg 1 := hSM.x1
    have hq10 : (cV 2 M b_5 9).toInt = SX (k1 : Int32).toNatClampNeg 10 := hSM.x10
    have hq11 : (cV 2 M b_5 11).toInt = SX (k1 : Int32).toNatClampNeg 11 := hSM.x11
    have hq12 : (cV 2 M b_5 4).toInt = SX (k1 : Int32).toNatClampNeg 12 := hSM.x12
    have hq13 : (cV 2 M b_5 5).toInt = SX (k1 : Int32).toNatClampNeg 13 := hSM.x13
    have hq14 : (cV 1 M v11_16 3).toInt = SX (k1 : Int32).toNatClampNeg 14 := by have h9 := hSM.x14; rw [← h9]; show _ = (cV 1 M (rA 2 M b_5 16) 3).toInt; rw [rA_of (j := 16) hM11 rfl]
    have hq15 : (cV 1 M v11_17 3).toInt = SX (k1 : Int32).toNatClampNeg 15 := by have h9 := hSM.x15; rw [← h9]; show _ = (cV 1 M (rA 2 M b_5 17) 3).toInt; rw [rA_of (j := 17) hM11 rfl]
    have hq16 : (cV 10 M v11_18 2).toInt = SX (k1 : Int32).toNatClampNeg 16 := by have h9 := hSM.x16; rw [← h9]; show _ = (cV 10 M (rA 2 M b_5 18) 2).toInt; rw [rA_of (j := 18) hM11 rfl]
    have hq19 : (cV 10 M v11_18 1).toInt = cfx M b_5 19 := by show _ = (cV 10 M (rA 2 M b_5 18) 1).toInt; rw [rA_of (j := 18) hM11 rfl]
    have hun := hSM.un
    have hl16 : (ALc (M (rA 1 M v11_16 1)) : Int) = 120 := by have h9 := hC.oc.l16 hW hb_10; rw [rA_of (j := 16) hM11 rfl] at h9; omega
    have hl17 : (ALc (M (rA 1 M v11_17 1)) : Int) = 20 := by have h9 := hC.oc.l17 hW hb_10; rw [rA_of (j := 17) hM11 rfl] at h9; omega
    have hbd0 := hSVk.b0
    have hbd1 := hSVk.b1
    have hbd10 := hSVk.b10
    have hbd11 := hSVk.b11
    have hbd12 := hSVk.b12
    have hbd13 := hSVk.b13
    have hbd14 := hSVk.b14
    have hbd15 := hSVk.b15
    have hbd16 := hSVk.b16
    have hqx14 : cfx M b_5 14 = SX (k1 : Int32).toNatClampNeg 14 := hSM.x14
    have hqx15 : cfx M b_5 15 = SX (k1 : Int32).toNatClampNeg 15 := hSM.x15
    have hqx16 : cfx M b_5 16 = SX (k1 : Int32).toNatClampNeg 16 := hSM.x16
    refine lv_aload hx hb dX11_letter_7 (lv_at hl 0 rfl) ?_
    refine lv_ifnull hx hb dX11_letter_9 ?_
    refine lv_iload_n hx hb dX11_letter_12 rfl (lv_at hl 3 rfl) ?_
    have hPc : va_P D vwCl ([] ++ va_pl L M) H_1 := hP.part (cx := []) [] rfl
    have hDc : va_D A ([] ++ va_pl L M) := hD.part (cx := []) [] (by decide) rfl
    have hFc : ∀ q, va_A ([] ++ va_pl L M) H_1.size q → A q := pg_free hDc hS hA
    refine va_calli (va_runS (As := [.int k2]) (rest := []) ⟨hx, hb, hml, hown, hg⟩ (e_X11_isSeat l D cy K L M H_1.size k2  hW ) (va_cwS 1 hg (gS wd_348 wd_47 wd_3 wd_46) rfl rfl rfl (by decide +kernel) ⟨(Nat.le_trans (Nat.le_of_ble_eq_true rfl) hRf), (Nat.le_trans (Nat.le_of_ble_eq_true rfl) hRl)⟩) ⟨PG.blind, fun U hU hW => ⟨rfl, PG.at hPc hK hDc hN hU hW⟩⟩ rfl rfl hl.1 rfl (lv_room (Nat.le_of_ble_eq_true rfl)) dX11_letter_13 ⟨(Nat.le_trans (Nat.le_of_ble_eq_true rfl) hRc), (Nat.le_trans (Nat.le_of_ble_eq_true rfl) hRs)⟩) hS (fun q _ h => hFc q h) hFc (fun r_21 M_22 t H_20 locs ht hvm hw hB hz1 hk1 hS => ?_)
    have hp_23 := hw
    obtain ⟨hP1, hD1⟩ := hB
    rw [ht] at hP1
    obtain ⟨hP, hD⟩ := va_joinP (X := [(xa, (b11_1 x0 (nI x1) x2 (nI x3) x4 x5 x6 x7 x8 x9 x10))]) (cx := []) (wr := [(xa, (b11_1 x0 (nI x1) x2 (nI x3) x4 x5 x6 x7 x8 x9 x10))]) (rx := []) (pl := va_pl L M) (pl1 := va_pl L M) hP hD [] [0] rfl rfl (by decide) (by decide) hk1 hFc hP1 hD1
    have hP : va_P D vwCl ([(xa, (b11_1 x0 (nI x1) x2 (nI x3) x4 x5 x6 x7 x8 x9 x10))] ++ va_pl L M) H_20 := hP
    have hD : va_D A ([(xa, (b11_1 x0 (nI x1) x2 (nI x3) x4 x5 x6 x7 x8 x9 x10))] ++ va_pl L M) := hD
    rcases hp_23 with ⟨rfl, c_24, c_25, c_26⟩ | ⟨rfl, c_27⟩
    · have hz := rfl (a := 0)
      refine lv_if_ne (tgt := 25) hx hb dX11_letter_16 (by decide) (fun _ => ?_) (fun c_28 => absurd c_28 (by decide))
      refine lv_iload_n hx hb dX11_letter_25 rfl (lv_at hl 4 rfl) ?_
      refine lv_iconst (v := 1) hx hb dX11_letter_26 (by decide) ?_
      refine lv_icmp_lt (tgt := 36) hx hb dX11_letter_27 (by decide) (fun c_29 => ?_) (fun c_29 => ?_)
      · have hz := rfl (a := 0)
        refine lv_aload_n hx hb dX11_letter_36 rfl (lv_at hl 1 rfl) ?_
        refine lv_iconst (v := 2) hx hb dX11_letter_37 (by decide) ?_
        have hPc := hP.sub (ws' := [(xa, (b11_1 x0 (nI x1) x2 (nI x3) x4 x5 x6 x7 x8 x9 x10))]) [0] rfl
        have hDc := hD.sub (ws' := [(xa, (b11_1 x0 (nI x1) x2 (nI x3) x4 x5 x6 x7 x8 x9 x10))]) [0] (by decide) rfl
        have hKc := hK.sub (tys' := []) [] rfl
        have hFc := va_free (wc := [(xa, (b11_1 x0 (nI x1) x2 (nI x3) x4 x5 x6 x7 x8 x9 x10))]) hD hS hA [0] rfl
        refine va_calli (va_runV (As := [.int 2]) (rest := []) ⟨hx, hb, hml, hown, hg⟩ (k_refuse l D H_20.size xa x0 (nI x1) x2 (nI x3) x4 x5 x6 x7 x8 x9 x10 2) (cwV 1 hg (gV wd_344 wd_345 wd_346 wd_3 wd_347) rfl rfl rfl (by decide +kernel) ⟨(Nat.le_trans (Nat.le_of_ble_eq_true rfl) hRf), (Nat.le_trans (Nat.le_of_ble_eq_true rfl) hRl)⟩) ⟨Pr.blind, va_recv hK hP (ci := 11) (q0 := 0) rfl rfl, fun U hU hW => ⟨rfl, Pr.at hPc hKc hDc hN hU hW⟩⟩ rfl rfl hl.1 rfl (lv_room (Nat.le_of_ble_eq_true rfl)) dX11_letter_38 ⟨(Nat.le_trans (Nat.le_of_ble_eq_true rfl) hRc), (Nat.le_trans (Nat.le_of_ble_eq_true rfl) hRs)⟩) hS (fun q _ h => hFc q h) hFc (fun r_31 M_32 t H_30 locs ht hvm hw hB hz1 hk1 hS => ?_)
        have hp_33 := hw
        obtain ⟨hP1, hK1, hD1⟩ := hB
        rw [ht] at hP1
        obtain ⟨hP, hD⟩ := va_joinQ (X := [(xa, (b11_1 x0 (nI x1) x2 (nI x3) x4 x5 x6 x7 x8 x9 x10))]) (cx := [(xa, (b11_1 x0 (nI x1) x2 (nI x3) x4 x5 x6 x7 x8 x9 x10))]) (wr := []) (w1 := [(xa, (b11_1 x0 (nI x1) x2 (nI x3) x4 x5 x6 x7 x8 2 (-1)))]) (pl := va_pl L M) hP hD [0] [] rfl rfl (by decide) (by decide) hk1 hFc hP1 hD1
        have hP : va_P D vwCl ([(xa, (b11_1 x0 (nI x1) x2 (nI x3) x4 x5 x6 x7 x8 2 (-1)))] ++ va_pl L M) H_30 := hP
        have hD : va_D A ([(xa, (b11_1 x0 (nI x1) x2 (nI x3) x4 x5 x6 x7 x8 2 (-1)))] ++ va_pl L M) := hD
        have hq := Eq.symm hp_33
        subst hq
        have hI_34 : (0 : Int) ≤ (k2 : Int32).toInt := inltI rfl rfl c_25
        have hI_35 : (k2 : Int32).toInt < (6 : Int) := inleI rfl rfl c_26
        have hI_36 : (k3 : Int32).toInt < (1 : Int) := iltI rfl rfl c_29
        have hcs : ((k2 : Int32).toNatClampNeg : Int) = k2.toInt := clT (by omega)
        have hse := hSM.se k2.toNatClampNeg (by omega)
        have hno : ¬ okLe x1 SY k1 k2 k3 := fun q9 => by unfold okLe okHS at q9; first | omega | (obtain ⟨⟨_, _, _, _⟩, _, _, _, _⟩ := q9; first | omega | contradiction)
        rw [hQ]
        exact W.iret (v := (-1)) hx hb hr (fun t ht hW9 => ⟨⟨(-1), M, rfl, ⟨hW, hF, (by unfold syLe; rw [if_neg hno]; exact hC.mono), (by unfold anLe; rw [if_neg hno])⟩, ⟨2, by rw [ht]; exact hP, hD⟩⟩, hS.F ht⟩) hS.2.2 dX11_letter_41
      · have hz := rfl (a := 0)
        refine lv_iload_n hx hb dX11_letter_30 rfl (lv_at hl 4 rfl) ?_
        refine lv_ldc (v := 1000000) hx hb hown (hg _ wd_349) dX11_letter_31 ?_
        refine lv_icmp_le (tgt := 42) hx hb dX11_letter_33 (by decide) (fun c_37 => ?_) (fun c_37 => ?_)
        · have hz := rfl (a := 0)
          refine lv_aload hx hb dX11_letter_42 (lv_at hl 0 rfl) ?_
          refine pg_get (D := D) (ci := 2) (v := .ref v11_6) (C := RX2) (T := TX2) (N := 20) hx hb hg inG2 hown hK hP hb_10.1 hM11 rfl 6 (by decide) (hg _ wd_350) (fun _ h9 => h9) rfl dX11_letter_44 ?_
          refine lv_iload_n hx hb dX11_letter_47 rfl (lv_at hl 3 rfl) ?_
          obtain ⟨f38, hM38⟩ := hW.open_52 h11_6
          refine pg_iald hx hb hK hP h11_6.1 0 hM38 rfl (inb k2 6 (by omega) c_25 c_26) dX11_letter_48 ?_
          refine lv_topi (fun f_39 ef_39 => ?_)
          refine lv_if_ne (tgt := 61) hx hb dX11_letter_49 (by decide) (fun c_40 => ?_) (fun c_40 => ?_)
          · have hz := rfl (a := 0)
            refine lv_aload_n hx hb dX11_letter_61 rfl (lv_at hl 1 rfl) ?_
            refine lv_iconst (v := 4) hx hb dX11_letter_62 (by decide) ?_
            have hPc := hP.sub (ws' := [(xa, (b11_1 x0 (nI x1) x2 (nI x3) x4 x5 x6 x7 x8 x9 x10))]) [0] rfl
            have hDc := hD.sub (ws' := [(xa, (b11_1 x0 (nI x1) x2 (nI x3) x4 x5 x6 x7 x8 x9 x10))]) [0] (by decide) rfl
            have hKc := hK.sub (tys' := []) [] rfl
            have hFc := va_free (wc := [(xa, (b11_1 x0 (nI x1) x2 (nI x3) x4 x5 x6 x7 x8 x9 x10))]) hD hS hA [0] rfl
            refine va_calli (va_runV (As := [.int 4]) (rest := []) ⟨hx, hb, hml, hown, hg⟩ (k_refuse l D H_20.size xa x0 (nI x1) x2 (nI x3) x4 x5 x6 x7 x8 x9 x10 4) (cwV 1 hg (gV wd_344 wd_345 wd_346 wd_3 wd_347) rfl rfl rfl (by decide +kernel) ⟨(Nat.le_trans (Nat.le_of_ble_eq_true rfl) hRf), (Nat.le_trans (Nat.le_of_ble_eq_true rfl) hRl)⟩) ⟨Pr.blind, va_recv hK hP (ci := 11) (q0 := 0) rfl rfl, fun U hU hW => ⟨rfl, Pr.at hPc hKc hDc hN hU hW⟩⟩ rfl rfl hl.1 rfl (lv_room (Nat.le_of_ble_eq_true rfl)) dX11_letter_63 ⟨(Nat.le_trans (Nat.le_of_ble_eq_true rfl) hRc), (Nat.le_trans (Nat.le_of_ble_eq_true rfl) hRs)⟩) hS (fun q _ h => hFc q h) hFc (fun r_42 M_43 t H_41 locs ht hvm hw hB hz1 hk1 hS => ?_)
            have hp_44 := hw
            obtain ⟨hP1, hK1, hD1⟩ := hB
            rw [ht] at hP1
            obtain ⟨hP, hD⟩ := va_joinQ (X := [(xa, (b11_1 x0 (nI x1) x2 (nI x3) x4 x5 x6 x7 x8 x9 x10))]) (cx := [(xa, (b11_1 x0 (nI x1) x2 (nI x3) x4 x5 x6 x7 x8 x9 x10))]) (wr := []) (w1 := [(xa, (b11_1 x0 (nI x1) x2 (nI x3) x4 x5 x6 x7 x8 4 (-1)))]) (pl := va_pl L M) hP hD [0] [] rfl rfl (by decide) (by decide) hk1 hFc hP1 hD1
            have hP : va_P D vwCl ([(xa, (b11_1 x0 (nI x1) x2 (nI x3) x4 x5 x6 x7 x8 4 (-1)))] ++ va_pl L M) H_41 := hP
            have hD : va_D A ([(xa, (b11_1 x0 (nI x1) x2 (nI x3) x4 x5 x6 x7 x8 4 (-1)))] ++ va_pl L M) := hD
            have hq := Eq.symm hp_44
            subst hq
            have hI_45 : (0 : Int) ≤ (k2 : Int32).toInt := inltI rfl rfl c_25
            have hI_46 : (k2 : Int32).toInt < (6 : Int) := inleI rfl rfl c_26
            have hI_47 : (1 : Int) ≤ (k3 : Int32).toInt := inltI rfl rfl c_29
            have hI_48 : (k3 : Int32).toInt ≤ (1000000 : Int) := ileI rfl rfl c_37
            have hI_49 : (f_39 : Int32).toInt ≠ (0 : Int) := ineI rfl rfl c_40
            have hcs : ((k2 : Int32).toNatClampNeg : Int) = k2.toInt := clT (by omega)
            have hse := hSM.se k2.toNatClampNeg (by omega)
            have h50 : (cax M b_5 50 k2.toNatClampNeg).toInt = (f_39 : Int32).toInt := by show (vLe M b_5 k2.toNatClampNeg).toInt = _; unfold vLe; rw [rA_of (j := 6) hM11 rfl, IFc_of hM38, ef_39]
            have hlt := hSM.letd (s := k2.toNatClampNeg) (by omega) (by omega)
            have hno : ¬ okLe x1 SY k1 k2 k3 := fun q9 => by unfold okLe okHS at q9; first | omega | (obtain ⟨⟨_, _, _, _⟩, _, _, _, _⟩ := q9; first | omega | contradiction)
            rw [hQ]
            exact W.iret (v := (-1)) hx hb hr (fun t ht hW9 => ⟨⟨(-1), M, rfl, ⟨hW, hF, (by unfold syLe; rw [if_neg hno]; exact hC.mono), (by unfold anLe; rw [if_neg hno])⟩, ⟨4, by rw [ht]; exact hP, hD⟩⟩, hS.F ht⟩) hS.2.2 dX11_letter_66
          · have hz := rfl (a := 0)
            refine lv_aload hx hb dX11_letter_52 (lv_at hl 0 rfl) ?_
            refine lv_iload_n hx hb dX11_letter_54 rfl (lv_at hl 3 rfl) ?_
            have hPc : va_P D vwCl ([] ++ va_pl L M) H_20 := hP.part (cx := []) [] rfl
            have hDc : va_D A ([] ++ va_pl L M) := hD.part (cx := []) [] (by decide) rfl
            have hFc : ∀ q, va_A ([] ++ va_pl L M) H_20.size q → A q := pg_free hDc hS hA
            refine va_callq (va_runV (As := [.int k2]) (rest := []) ⟨hx, hb, hml, hown, hg⟩ (e_sitting l D cy K L M H_20.size b_5 k2 Bo  hW hb_10 hV.2.2.2) (cwV 1 hg (gV wd_351 wd_352 wd_353 wd_57 wd_354) rfl rfl rfl (by decide +kernel) ⟨(Nat.le_trans (Nat.le_of_ble_eq_true rfl) hRf), (Nat.le_trans (Nat.le_of_ble_eq_true rfl) hRl)⟩) ⟨PG.blind, pg_recv hK hP hb_10.1 hM11 rfl, fun U hU hW => ⟨rfl, PG.at hPc hK hDc hN hU hW⟩⟩ rfl rfl hl.1 rfl (lv_room (Nat.le_of_ble_eq_true rfl)) dX11_letter_55 ⟨(Nat.le_trans (Nat.le_of_ble_eq_true rfl) hRc), (Nat.le_trans (Nat.le_of_ble_eq_true rfl) hRs)⟩) hS (fun q _ h => hFc q h) hFc (fun r_51 M_52 t H_50 locs ht hvm hw hB hz1 hk1 hS => ?_)
            have hp_53 := hw
            obtain ⟨hP1, hD1⟩ := hB
            rw [ht] at hP1
            obtain ⟨hP, hD⟩ := va_joinP (X := [(xa, (b11_1 x0 (nI x1) x2 (nI x3) x4 x5 x6 x7 x8 x9 x10))]) (cx := []) (wr := [(xa, (b11_1 x0 (nI x1) x2 (nI x3) x4 x5 x6 x7 x8 x9 x10))]) (rx := []) (pl := va_pl L M) (pl1 := va_pl L M) hP hD [] [0] rfl rfl (by decide) (by decide) hk1 hFc hP1 hD1
            have hP : va_P D vwCl ([(xa, (b11_1 x0 (nI x1) x2 (nI x3) x4 x5 x6 x7 x8 x9 x10))] ++ va_pl L M) H_50 := hP
            have hD : va_D A ([(xa, (b11_1 x0 (nI x1) x2 (nI x3) x4 x5 x6 x7 x8 x9 x10))] ++ va_pl L M) := hD
            obtain ⟨hp_53, hqx⟩ := hp_53
            rcases r_51 with _ | b_54
            · have hz := rfl (a := 0)
              have hqy := hqx
              refine lv_ifnullN (tgt := 67) hx hb dX11_letter_58 (by decide) ?_
              refine lv_aload hx hb dX11_letter_67 (lv_at hl 0 rfl) ?_
              refine pg_get (D := D) (ci := 2) (v := .ref v11_6) (C := RX2) (T := TX2) (N := 20) hx hb hg inG2 hown hK hP hb_10.1 hM11 rfl 6 (by decide) (hg _ wd_350) (fun _ h9 => h9) rfl dX11_letter_69 ?_
              refine lv_iload_n hx hb dX11_letter_72 rfl (lv_at hl 3 rfl) ?_
              refine lv_iload_n hx hb dX11_letter_73 rfl (lv_at hl 4 rfl) ?_
              refine pg_iast hx hb hK hP hD hS h11_6.1 0 hM38 rfl (inb k2 6 (by omega) c_25 c_26) dX11_letter_74 (fun H_55 locs hP hD hS => ?_)
              obtain ⟨M_56, eM_56⟩ : ∃ M1 : Hp, M1 = va_up M v11_6 (.inl (cy 14, 6, .inl (upd f38 (k2 : Int32).toNatClampNeg k3))) := ⟨_, rfl⟩
              have sM_56 : M_56 = sA M v11_6 (k2 : Int32).toNatClampNeg k3 := eM_56.trans (sA_of hM38)
              have hV : VC Bo K L M M_56 b_5 (cfx M b_5) (va_up (cax M b_5) 50 (upd ((cax M b_5) 50) (k2 : Int32).toNatClampNeg k3)) := by rw [sM_56]; exact VC.a_le hV hW hb_10 (rA_of (j := 6) hM11 rfl) hM38
              have hP : va_P D vwCl ([(xa, (b11_1 x0 (nI x1) x2 (nI x3) x4 x5 x6 x7 x8 x9 x10))] ++ va_pl L M_56) H_55 := by rw [eM_56]; exact hP
              have hD : va_D A ([(xa, (b11_1 x0 (nI x1) x2 (nI x3) x4 x5 x6 x7 x8 x9 x10))] ++ va_pl L M_56) := by rw [eM_56]; exact hD
              have hW : WOK cy K L M_56 := by rw [eM_56]; exact hW.up_52 h11_6 ⟨_, rfl⟩
              have hF : fr K L [52, 61] M M_56 := by rw [eM_56]; exact hF.up h11_6 (by decide)
              have hM_57 : M_56 v11_6 = .inl (cy 14, 6, .inl (upd f38 (k2 : Int32).toNatClampNeg k3)) := by rw [eM_56]; exact va_up_self _ _ _
              have hM_58 : M_56 b_5 = (b2_2 v11_0 v11_1 v11_2 v11_3 (nI v11_4) (nI v11_5) v11_6 v11_7 v11_8 (nI v11_9) v11_10 (nI v11_11) v11_12 v11_13 v11_14 v11_15 v11_16 v11_17 v11_18 v11_19) := by rw [eM_56, va_up_ne _ _ (hb_10.neT h11_6 (by decide))]; exact hM11
              obtain ⟨f_59, ef_59⟩ : ∃ f : Nat → Int32, f = upd f38 (k2 : Int32).toNatClampNeg k3 := ⟨_, rfl⟩
              rw [← ef_59] at hM_57
              clear ef_59
              refine lv_aload hx hb dX11_letter_75 (lv_at hl 0 rfl) ?_
              refine pg_get (D := D) (ci := 2) (v := .ref v11_7) (C := RX2) (T := TX2) (N := 20) hx hb hg inG2 hown hK hP hb_10.1 hM_58 rfl 7 (by decide) (hg _ wd_355) (fun _ h9 => h9) rfl dX11_letter_77 ?_
              refine lv_iload_n hx hb dX11_letter_80 rfl (lv_at hl 3 rfl) ?_
              refine lv_null hx hb dX11_letter_81 ?_
              obtain ⟨f60, hM60, hf60⟩ := hW.open_61 h11_7
              refine pg_astqN hx hb hK hP hD hS h11_7.1 8 hM60 rfl (inb k2 6 (by omega) c_25 c_26) dX11_letter_82 (fun H_61 locs hP hD hS => ?_)
              obtain ⟨M_62, eM_62⟩ : ∃ M1 : Hp, M1 = va_up M_56 v11_7 (.inl (cy 22, 6, .inr (.inr (.inr (.inr (va_up f60 (k2 : Int32).toNatClampNeg none)))))) := ⟨_, rfl⟩
              have sM_62 : M_62 = sR M_56 v11_7 (k2 : Int32).toNatClampNeg none := eM_62.trans (sR_of hM60)
              have hV : VC Bo K L M M_62 b_5 (cfx M b_5) (va_up (va_up (cax M b_5) 50 (upd ((cax M b_5) 50) (k2 : Int32).toNatClampNeg k3)) 51 (upd ((cax M b_5) 51) (k2 : Int32).toNatClampNeg (hrN M_56 none))) := by rw [sM_62]; exact VC.r_he hV hW hb_10 (vp_lt (inb k2 6 (by omega) c_25 c_26)) (rA_of (j := 7) hM_58 rfl) hM60 (fun q9 z9 => by cases z9)
              have hP : va_P D vwCl ([(xa, (b11_1 x0 (nI x1) x2 (nI x3) x4 x5 x6 x7 x8 x9 x10))] ++ va_pl L M_62) H_61 := by rw [eM_62]; exact hP
              have hD : va_D A ([(xa, (b11_1 x0 (nI x1) x2 (nI x3) x4 x5 x6 x7 x8 x9 x10))] ++ va_pl L M_62) := by rw [eM_62]; exact hD
              have hW : WOK cy K L M_62 := by rw [eM_62]; exact hW.up_61 h11_7 ⟨_, rfl, (upN0 hf60)⟩
              have hF : fr K L [52, 61] M M_62 := by rw [eM_62]; exact hF.up h11_7 (by decide)
              have hM_63 : M_62 v11_7 = .inl (cy 22, 6, .inr (.inr (.inr (.inr (va_up f60 (k2 : Int32).toNatClampNeg none))))) := by rw [eM_62]; exact va_up_self _ _ _
              have hM_64 : M_62 v11_6 = .inl (cy 14, 6, .inl (f_59)) := by rw [eM_62, va_up_ne _ _ (h11_6.neT h11_7 (by decide))]; exact hM_57
              have hM_65 : M_62 b_5 = (b2_2 v11_0 v11_1 v11_2 v11_3 (nI v11_4) (nI v11_5) v11_6 v11_7 v11_8 (nI v11_9) v11_10 (nI v11_11) v11_12 v11_13 v11_14 v11_15 v11_16 v11_17 v11_18 v11_19) := by rw [eM_62, va_up_ne _ _ (hb_10.neT h11_7 (by decide))]; exact hM_58
              have hf_67 : ∀ j, j < 6 → iskN K L ((va_up f60 (k2 : Int32).toNatClampNeg none) j) 9 0 := (upN0 hf60)
              obtain ⟨f_66, ef_66⟩ : ∃ f : Nat → Option Nat, f = va_up f60 (k2 : Int32).toNatClampNeg none := ⟨_, rfl⟩
              rw [← ef_66] at hM_63 hf_67
              clear ef_66
              refine lv_aload_n hx hb dX11_letter_83 rfl (lv_at hl 1 rfl) ?_
              refine lv_iconst (v := 1) hx hb dX11_letter_84 (by decide) ?_
              have hPc := hP.sub (ws' := [(xa, (b11_1 x0 (nI x1) x2 (nI x3) x4 x5 x6 x7 x8 x9 x10))]) [0] rfl
              have hDc := hD.sub (ws' := [(xa, (b11_1 x0 (nI x1) x2 (nI x3) x4 x5 x6 x7 x8 x9 x10))]) [0] (by decide) rfl
              have hKc := hK.sub (tys' := []) [] rfl
              have hFc := va_free (wc := [(xa, (b11_1 x0 (nI x1) x2 (nI x3) x4 x5 x6 x7 x8 x9 x10))]) hD hS hA [0] rfl
              refine va_calli (va_runV (As := [.int 1]) (rest := []) ⟨hx, hb, hml, hown, hg⟩ (k_accept l D H_61.size xa x0 (nI x1) x2 (nI x3) x4 x5 x6 x7 x8 x9 x10 1) (cwV 1 hg (gV wd_356 wd_357 wd_358 wd_3 wd_359) rfl rfl rfl (by decide +kernel) ⟨(Nat.le_trans (Nat.le_of_ble_eq_true rfl) hRf), (Nat.le_trans (Nat.le_of_ble_eq_true rfl) hRl)⟩) ⟨Pr.blind, va_recv hK hP (ci := 11) (q0 := 0) rfl rfl, fun U hU hW => ⟨rfl, Pr.at hPc hKc hDc hN hU hW⟩⟩ rfl rfl hl.1 rfl (lv_room (Nat.le_of_ble_eq_true rfl)) dX11_letter_85 ⟨(Nat.le_trans (Nat.le_of_ble_eq_true rfl) hRc), (Nat.le_trans (Nat.le_of_ble_eq_true rfl) hRs)⟩) hS (fun q _ h => hFc q h) hFc (fun r_69 M_70 t H_68 locs ht hvm hw hB hz1 hk1 hS => ?_)
              have hp_71 := hw
              obtain ⟨hP1, hK1, hD1⟩ := hB
              rw [ht] at hP1
              obtain ⟨hP, hD⟩ := va_joinQ (X := [(xa, (b11_1 x0 (nI x1) x2 (nI x3) x4 x5 x6 x7 x8 x9 x10))]) (cx := [(xa, (b11_1 x0 (nI x1) x2 (nI x3) x4 x5 x6 x7 x8 x9 x10))]) (wr := []) (w1 := [(xa, (b11_1 x0 (nI x1) x2 (nI x3) x4 x5 x6 x7 x8 0 (-1)))]) (pl := va_pl L M_62) hP hD [0] [] rfl rfl (by decide) (by decide) hk1 hFc hP1 hD1
              have hP : va_P D vwCl ([(xa, (b11_1 x0 (nI x1) x2 (nI x3) x4 x5 x6 x7 x8 0 (-1)))] ++ va_pl L M_62) H_68 := hP
              have hD : va_D A ([(xa, (b11_1 x0 (nI x1) x2 (nI x3) x4 x5 x6 x7 x8 0 (-1)))] ++ va_pl L M_62) := hD
              have hq := Eq.symm hp_71
              subst hq
              have hI_72 : (0 : Int) ≤ (k2 : Int32).toInt := inltI rfl rfl c_25
              have hI_73 : (k2 : Int32).toInt < (6 : Int) := inleI rfl rfl c_26
              have hI_74 : (1 : Int) ≤ (k3 : Int32).toInt := inltI rfl rfl c_29
              have hI_75 : (k3 : Int32).toInt ≤ (1000000 : Int) := ileI rfl rfl c_37
              have hI_76 : (f_39 : Int32).toInt = (0 : Int) := ieqI rfl rfl c_40
              have hcs : ((k2 : Int32).toNatClampNeg : Int) = k2.toInt := clT (by omega)
              have hse := hSM.se k2.toNatClampNeg (by omega)
              have h50 : (cax M b_5 50 k2.toNatClampNeg).toInt = (f_39 : Int32).toInt := by show (vLe M b_5 k2.toNatClampNeg).toInt = _; unfold vLe; rw [rA_of (j := 6) hM11 rfl, IFc_of hM38, ef_39]
              have hh : ¬ hold (SY k1.toNatClampNeg) k2.toNatClampNeg ∧ 0 ≤ (SY k1.toNatClampNeg 9 k2.toNatClampNeg).toInt := by
                rcases hqy.2 rfl with q9 | q9 | ⟨i9, hi9, h51, h22⟩
                · exact absurd (by omega) q9
                · have h9 := hSM.hold0 (s := k2.toNatClampNeg) (by omega) (by omega) q9; exact ⟨h9.2, by omega⟩
                · have h9 := hSM.hold1 (s := k2.toNatClampNeg) (by omega) (by omega) h51; exact ⟨fun w => h22 (h9.2.mp w), by omega⟩
              obtain ⟨hh1, hh2⟩ := hh
              have hyes : okLe x1 SY k1 k2 k3 := by unfold okLe okHS; refine ⟨⟨?_, ?_, ?_, ?_⟩, ?_, ?_, ?_, ?_⟩ <;> first | omega | assumption
              rw [hQ]
              exact W.iret (v := 1) hx hb hr (fun t ht hW9 => ⟨⟨1, M_62, rfl, ⟨hW, hF, (by unfold syLe; rw [if_pos hyes]; have hZ := hC.fin hW0 i0 b1 hkn hb9 hV ext.rf (by rw [hF.at i0 (by decide)]) (fun q iq => ⟨iq, cR_c (fr.cv hF (by decide) q iq 3 rfl)⟩) ((hSM.letter (s := k2.toNatClampNeg) (l := k3) (by omega) (by omega) (by omega) hSVk.b10.1)); rw [va_upI] at hZ; exact hZ), (by unfold anLe; rw [if_pos hyes])⟩, ⟨0, by rw [ht]; exact hP, hD⟩⟩, hS.F ht⟩) hS.2.2 dX11_letter_88
            · have hb_77 := hp_53 b_54 rfl
              have hqy := hqx
              refine lv_ifnull hx hb dX11_letter_58 ?_
              refine lv_aload_n hx hb dX11_letter_61 rfl (lv_at hl 1 rfl) ?_
              refine lv_iconst (v := 4) hx hb dX11_letter_62 (by decide) ?_
              have hPc := hP.sub (ws' := [(xa, (b11_1 x0 (nI x1) x2 (nI x3) x4 x5 x6 x7 x8 x9 x10))]) [0] rfl
              have hDc := hD.sub (ws' := [(xa, (b11_1 x0 (nI x1) x2 (nI x3) x4 x5 x6 x7 x8 x9 x10))]) [0] (by decide) rfl
              have hKc := hK.sub (tys' := []) [] rfl
              have hFc := va_free (wc := [(xa, (b11_1 x0 (nI x1) x2 (nI x3) x4 x5 x6 x7 x8 x9 x10))]) hD hS hA [0] rfl
              refine va_calli (va_runV (As := [.int 4]) (rest := []) ⟨hx, hb, hml, hown, hg⟩ (k_refuse l D H_50.size xa x0 (nI x1) x2 (nI x3) x4 x5 x6 x7 x8 x9 x10 4) (cwV 1 hg (gV wd_344 wd_345 wd_346 wd_3 wd_347) rfl rfl rfl (by decide +kernel) ⟨(Nat.le_trans (Nat.le_of_ble_eq_true rfl) hRf), (Nat.le_trans (Nat.le_of_ble_eq_true rfl) hRl)⟩) ⟨Pr.blind, va_recv hK hP (ci := 11) (q0 := 0) rfl rfl, fun U hU hW => ⟨rfl, Pr.at hPc hKc hDc hN hU hW⟩⟩ rfl rfl hl.1 rfl (lv_room (Nat.le_of_ble_eq_true rfl)) dX11_letter_63 ⟨(Nat.le_trans (Nat.le_of_ble_eq_true rfl) hRc), (Nat.le_trans (Nat.le_of_ble_eq_true rfl) hRs)⟩) hS (fun q _ h => hFc q h) hFc (fun r_79 M_80 t H_78 locs ht hvm hw hB hz1 hk1 hS => ?_)
              have hp_81 := hw
              obtain ⟨hP1, hK1, hD1⟩ := hB
              rw [ht] at hP1
              obtain ⟨hP, hD⟩ := va_joinQ (X := [(xa, (b11_1 x0 (nI x1) x2 (nI x3) x4 x5 x6 x7 x8 x9 x10))]) (cx := [(xa, (b11_1 x0 (nI x1) x2 (nI x3) x4 x5 x6 x7 x8 x9 x10))]) (wr := []) (w1 := [(xa, (b11_1 x0 (nI x1) x2 (nI x3) x4 x5 x6 x7 x8 4 (-1)))]) (pl := va_pl L M) hP hD [0] [] rfl rfl (by decide) (by decide) hk1 hFc hP1 hD1
              have hP : va_P D vwCl ([(xa, (b11_1 x0 (nI x1) x2 (nI x3) x4 x5 x6 x7 x8 4 (-1)))] ++ va_pl L M) H_78 := hP
              have hD : va_D A ([(xa, (b11_1 x0 (nI x1) x2 (nI x3) x4 x5 x6 x7 x8 4 (-1)))] ++ va_pl L M) := hD
              have hq := Eq.symm hp_81
              subst hq
              have hI_82 : (0 : Int) ≤ (k2 : Int32).toInt := inltI rfl rfl c_25
              have hI_83 : (k2 : Int32).toInt < (6 : Int) := inleI rfl rfl c_26
              have hI_84 : (1 : Int) ≤ (k3 : Int32).toInt := inltI rfl rfl c_29
              have hI_85 : (k3 : Int32).toInt ≤ (1000000 : Int) := ileI rfl rfl c_37
              have hI_86 : (f_39 : Int32).toInt = (0 : Int) := ieqI rfl rfl c_40
              have hcs : ((k2 : Int32).toNatClampNeg : Int) = k2.toInt := clT (by omega)
              have hse := hSM.se k2.toNatClampNeg (by omega)
              have h50 : (cax M b_5 50 k2.toNatClampNeg).toInt = (f_39 : Int32).toInt := by show (vLe M b_5 k2.toNatClampNeg).toInt = _; unfold vLe; rw [rA_of (j := 6) hM11 rfl, IFc_of hM38, ef_39]
              obtain ⟨_, i9, hi9, he9, h51, h22⟩ := hqy.1 _ rfl
              have hh := hSM.hold1 (s := k2.toNatClampNeg) (by omega) (by omega) h51
              have hh2 : hold (SY k1.toNatClampNeg) k2.toNatClampNeg := hh.2.mpr h22
              have hno : ¬ okLe x1 SY k1 k2 k3 := fun q9 => by unfold okLe okHS at q9; first | omega | (obtain ⟨⟨_, _, _, _⟩, _, _, _, _⟩ := q9; first | omega | contradiction)
              rw [hQ]
              exact W.iret (v := (-1)) hx hb hr (fun t ht hW9 => ⟨⟨(-1), M, rfl, ⟨hW, hF, (by unfold syLe; rw [if_neg hno]; exact hC.mono), (by unfold anLe; rw [if_neg hno])⟩, ⟨4, by rw [ht]; exact hP, hD⟩⟩, hS.F ht⟩) hS.2.2 dX11_letter_66
        · have hz := rfl (a := 0)
          refine lv_aload_n hx hb dX11_letter_36 rfl (lv_at hl 1 rfl) ?_
          refine lv_iconst (v := 2) hx hb dX11_letter_37 (by decide) ?_
          have hPc := hP.sub (ws' := [(xa, (b11_1 x0 (nI x1) x2 (nI x3) x4 x5 x6 x7 x8 x9 x10))]) [0] rfl
          have hDc := hD.sub (ws' := [(xa, (b11_1 x0 (nI x1) x2 (nI x3) x4 x5 x6 x7 x8 x9 x10))]) [0] (by decide) rfl
          have hKc := hK.sub (tys' := []) [] rfl
          have hFc := va_free (wc := [(xa, (b11_1 x0 (nI x1) x2 (nI x3) x4 x5 x6 x7 x8 x9 x10))]) hD hS hA [0] rfl
          refine va_calli (va_runV (As := [.int 2]) (rest := []) ⟨hx, hb, hml, hown, hg⟩ (k_refuse l D H_20.size xa x0 (nI x1) x2 (nI x3) x4 x5 x6 x7 x8 x9 x10 2) (cwV 1 hg (gV wd_344 wd_345 wd_346 wd_3 wd_347) rfl rfl rfl (by decide +kernel) ⟨(Nat.le_trans (Nat.le_of_ble_eq_true rfl) hRf), (Nat.le_trans (Nat.le_of_ble_eq_true rfl) hRl)⟩) ⟨Pr.blind, va_recv hK hP (ci := 11) (q0 := 0) rfl rfl, fun U hU hW => ⟨rfl, Pr.at hPc hKc hDc hN hU hW⟩⟩ rfl rfl hl.1 rfl (lv_room (Nat.le_of_ble_eq_true rfl)) dX11_letter_38 ⟨(Nat.le_trans (Nat.le_of_ble_eq_true rfl) hRc), (Nat.le_trans (Nat.le_of_ble_eq_true rfl) hRs)⟩) hS (fun q _ h => hFc q h) hFc (fun r_88 M_89 t H_87 locs ht hvm hw hB hz1 hk1 hS => ?_)
          have hp_90 := hw
          obtain ⟨hP1, hK1, hD1⟩ := hB
          rw [ht] at hP1
          obtain ⟨hP, hD⟩ := va_joinQ (X := [(xa, (b11_1 x0 (nI x1) x2 (nI x3) x4 x5 x6 x7 x8 x9 x10))]) (cx := [(xa, (b11_1 x0 (nI x1) x2 (nI x3) x4 x5 x6 x7 x8 x9 x10))]) (wr := []) (w1 := [(xa, (b11_1 x0 (nI x1) x2 (nI x3) x4 x5 x6 x7 x8 2 (-1)))]) (pl := va_pl L M) hP hD [0] [] rfl rfl (by decide) (by decide) hk1 hFc hP1 hD1
          have hP : va_P D vwCl ([(xa, (b11_1 x0 (nI x1) x2 (nI x3) x4 x5 x6 x7 x8 2 (-1)))] ++ va_pl L M) H_87 := hP
          have hD : va_D A ([(xa, (b11_1 x0 (nI x1) x2 (nI x3) x4 x5 x6 x7 x8 2 (-1)))] ++ va_pl L M) := hD
          have hq := Eq.symm hp_90
          subst hq
          have hI_91 : (0 : Int) ≤ (k2 : Int32).toInt := inltI rfl rfl c_25
          have hI_92 : (k2 : Int32).toInt < (6 : Int) := inleI rfl rfl c_26
          have hI_93 : (1 : Int) ≤ (k3 : Int32).toInt := inltI rfl rfl c_29
          have hI_94 : (1000000 : Int) < (k3 : Int32).toInt := inleI rfl rfl c_37
          have hcs : ((k2 : Int32).toNatClampNeg : Int) = k2.toInt := clT (by omega)
          have hse := hSM.se k2.toNatClampNeg (by omega)
          have hno : ¬ okLe x1 SY k1 k2 k3 := fun q9 => by unfold okLe okHS at q9; first | omega | (obtain ⟨⟨_, _, _, _⟩, _, _, _, _⟩ := q9; first | omega | contradiction)
          rw [hQ]
          exact W.iret (v := (-1)) hx hb hr (fun t ht hW9 => ⟨⟨(-1), M, rfl, ⟨hW, hF, (by unfold syLe; rw [if_neg hno]; exact hC.mono), (by unfold anLe; rw [if_neg hno])⟩, ⟨2, by rw [ht]; exact hP, hD⟩⟩, hS.F ht⟩) hS.2.2 dX11_letter_41
    · have hz := rfl (a := 0)
      refine lv_if_ne (tgt := 25) hx hb dX11_letter_16 (by decide) (fun c_95 => absurd c_95 (by decide)) (fun _ => ?_)
      refine lv_aload_n hx hb dX11_letter_19 rfl (lv_at hl 1 rfl) ?_
      refine lv_iconst (v := 1) hx hb dX11_letter_20 (by decide) ?_
      have hPc := hP.sub (ws' := [(xa, (b11_1 x0 (nI x1) x2 (nI x3) x4 x5 x6 x7 x8 x9 x10))]) [0] rfl
      have hDc := hD.sub (ws' := [(xa, (b11_1 x0 (nI x1) x2 (nI x3) x4 x5 x6 x7 x8 x9 x10))]) [0] (by decide) rfl
      have hKc := hK.sub (tys' := []) [] rfl
      have hFc := va_free (wc := [(xa, (b11_1 x0 (nI x1) x2 (nI x3) x4 x5 x6 x7 x8 x9 x10))]) hD hS hA [0] rfl
      refine va_calli (va_runV (As := [.int 1]) (rest := []) ⟨hx, hb, hml, hown, hg⟩ (k_refuse l D H_20.size xa x0 (nI x1) x2 (nI x3) x4 x5 x6 x7 x8 x9 x10 1) (cwV 1 hg (gV wd_344 wd_345 wd_346 wd_3 wd_347) rfl rfl rfl (by decide +kernel) ⟨(Nat.le_trans (Nat.le_of_ble_eq_true rfl) hRf), (Nat.le_trans (Nat.le_of_ble_eq_true rfl) hRl)⟩) ⟨Pr.blind, va_recv hK hP (ci := 11) (q0 := 0) rfl rfl, fun U hU hW => ⟨rfl, Pr.at hPc hKc hDc hN hU hW⟩⟩ rfl rfl hl.1 rfl (lv_room (Nat.le_of_ble_eq_true rfl)) dX11_letter_21 ⟨(Nat.le_trans (Nat.le_of_ble_eq_true rfl) hRc), (Nat.le_trans (Nat.le_of_ble_eq_true rfl) hRs)⟩) hS (fun q _ h => hFc q h) hFc (fun r_97 M_98 t H_96 locs ht hvm hw hB hz1 hk1 hS => ?_)
      have hp_99 := hw
      obtain ⟨hP1, hK1, hD1⟩ := hB
      rw [ht] at hP1
      obtain ⟨hP, hD⟩ := va_joinQ (X := [(xa, (b11_1 x0 (nI x1) x2 (nI x3) x4 x5 x6 x7 x8 x9 x10))]) (cx := [(xa, (b11_1 x0 (nI x1) x2 (nI x3) x4 x5 x6 x7 x8 x9 x10))]) (wr := []) (w1 := [(xa, (b11_1 x0 (nI x1) x2 (nI x3) x4 x5 x6 x7 x8 1 (-1)))]) (pl := va_pl L M) hP hD [0] [] rfl rfl (by decide) (by decide) hk1 hFc hP1 hD1
      have hP : va_P D vwCl ([(xa, (b11_1 x0 (nI x1) x2 (nI x3) x4 x5 x6 x7 x8 1 (-1)))] ++ va_pl L M) H_96 := hP
      have hD : va_D A ([(xa, (b11_1 x0 (nI x1) x2 (nI x3) x4 x5 x6 x7 x8 1 (-1)))] ++ va_pl L M) := hD
      have hq := Eq.symm hp_99
      subst hq
      have hno : ¬ okLe x1 SY k1 k2 k3 := fun q9 => by unfold okLe okHS at q9; first | omega | (obtain ⟨⟨_, _, _, _⟩, _, _, _, _⟩ := q9; first | omega | contradiction)
      rw [hQ]
      exact W.iret (v := (-1)) hx hb hr (fun t ht hW9 => ⟨⟨(-1), M, rfl, ⟨hW, hF, (by unfold syLe; rw [if_neg hno]; exact hC.mono), (by unfold anLe; rw [if_neg hno])⟩, ⟨1, by rw [ht]; exact hP, hD⟩⟩, hS.F ht⟩) hS.2.2 dX11_letter_24
theorem SIM.unseal {k : Nat} {T : Int} {np : Nat} {PK PT : Nat → Int32} {x : Nat → Int} {y : Nat → Nat → Int32} {X : Nat → Int} {Y : Nat → Nat → Int32} {s : Nat} (h : SIM k T np PK PT x y X Y) (hs : s < 6) (hl : (y 50 s).toInt ≠ 0) : SIM k (T + 1) np PK PT x (va_up y 50 (upd (y 50) s 0)) X (va_up Y 9 (upd (Y 9) s 0)) := by
  refine ⟨h.x0, h.x1, h.x10, h.x11, h.x12, h.x13, h.x14, h.x15, h.x16, h.x20, h.pl, h.te, h.tn, fun s' hs' => ?_, h.ru, h.en, h.mo, h.me, ⟨h.un.1, Int.le_trans h.un.2.1 (by omega), h.un.2.2⟩, h.ow, h.ob, h.wh, h.ex⟩
  show (upd (Y 9) s 0 s').toInt = seatOf (upd (y 50) s 0 s') (y 51 s') ∧ 0 ≤ (upd (y 50) s 0 s').toInt ∧ (upd (y 50) s 0 s').toInt ≤ 1000000 ∧ -1 ≤ (y 51 s').toInt ∧ (y 51 s').toInt < X 10 ∧ (upd (y 50) s 0 s' ≠ 0 → y 51 s' = -1)
  by_cases q : s' = s
  · subst q
    have g := h.se s' hs'
    have e := g.2.2.2.2.2 (fun z => hl (by rw [z]; rfl))
    rw [upd_self, upd_self]
    refine ⟨?_, by decide, by decide, g.2.2.2.1, g.2.2.2.2.1, fun z => absurd rfl z⟩
    unfold seatOf
    rw [if_neg (fun z => z rfl), e]
    rfl
  · rw [upd_ne _ _ q, upd_ne _ _ q]
    exact h.se s' hs'

set_option maxHeartbeats 4000000 in
set_option maxRecDepth 100000 in
theorem x_unseal (l : Launch) (D : va_G) (cy : Nat → ClassId) (K : Kp) (L : List Nat) (M : Hp) (sz : Nat) (xa : Nat) (x0 : Nat) (x1 : Nat) (x2 : Nat) (x3 : Nat) (x4 : Nat) (x5 : Nat) (x6 : Nat) (x7 : Int32) (x8 : Nat) (x9 : Int32) (x10 : Int32) (k1 : Int32) (k2 : Int32) (Bo : Nat → Nat × Nat) (T : Int) (PK : Nat → Int32) (PT : Nat → Int32) (SX : Nat → Nat → Int) (SY : Nat → Nat → Nat → Int32) (hW : WOK cy K L M) (i0 : isk K L x0 17 8) (b1 : x1 ≤ 8) (i2 : isk K L x2 19 40) (b3 : x3 ≤ 40) (i4 : isk K L x4 7 0) (i5 : isk K L x5 5 0) (i6 : isk K L x6 60 24) (i8 : isk K L x8 73 25) (hC : CX Bo K L x0 x1 T x3 PK PT SX SY M) (hSV : ∀ k, k < x1 → SV (SX k) (SY k)) (hHI : ∀ k, k < x1 → HI (SX k) (SY k)) (hT : (0 ≤ T ∧ T ≤ 900000)) : Met l yX11_unseal (wsM yX11_unseal cX11_unseal 5 (some .int)) ({ frames := 2, cells := 0, slots := 0, locals := 43 }) (va_Pc [.ref xa, .int k1, .int k2] (PG D cy [(xa, (b11_1 x0 (nI x1) x2 (nI x3) x4 x5 x6 x7 x8 x9 x10))] L M sz)) (va_Qi (fun (r : Int32) (M9 : Hp) => WOK cy K L M9 ∧ fr K L [52] M M9 ∧ (CX Bo K L x0 x1 (T + 1) x3 PK PT SX (syUn x1 SY k1 k2) M9) ∧ ((r = anUn x1 SY k1 k2))) (fun M9 t => ∃ (w9 : Int32), PQ D [(xa, (b11_1 x0 (nI x1) x2 (nI x3) x4 x5 x6 x7 x8 w9 (-1)))] L M9 (va_A ([(xa, (b11_1 x0 (nI x1) x2 (nI x3) x4 x5 x6 x7 x8 x9 x10))] ++ va_pl L M) sz) t) (va_A ([(xa, (b11_1 x0 (nI x1) x2 (nI x3) x4 x5 x6 x7 x8 x9 x10))] ++ va_pl L M) sz)) 0 0 (va_A ([(xa, (b11_1 x0 (nI x1) x2 (nI x3) x4 x5 x6 x7 x8 x9 x10))] ++ va_pl L M) sz) := by
  refine Met.ofW (cc := cX11_unseal) (maxL := 5) (ret := (some .int)) (by decide) rfl ?_
  intro p e s m args below meth c s₁ B hml hv
  obtain ⟨rfl, hsz, hP, hK, hD0, hN⟩ := hv
  have hx := B.exec
  have hb := B.bytes
  have hr := B.returns
  have hts := atoms_spec (ws := (wsM yX11_unseal cX11_unseal 5 (some .int))) B.pre
  have hg : ∀ w ∈ lw_good, w.before _ s = true := fun w h => hts w (List.mem_cons_of_mem _ h)
  have hown : s.vm.findClass RX11 = some m.cls := findClass_of_methodNamed B.named
  have hlocks := B.notSynchronized
  subst hsz
  have hD := hD0.self (sz := s.heap.size)
  generalize hAe : va_A ([(xa, (b11_1 x0 (nI x1) x2 (nI x3) x4 x5 x6 x7 x8 x9 x10))] ++ va_pl L M) s.heap.size = A at hD ⊢
  have hA : ∀ q : Nat, s.heap.size ≤ q → A q := fun q h => by rw [← hAe]; exact Or.inr h
  have hS : va_S A s.heap s.heap [] := va_S.rf
  have hl := lv_entry ([.ref xa, .int k1, .int k2]) (n := 5) (Nat.le_of_ble_eq_true rfl)
  rw [lg_entry_eq]
  generalize (lg_sl ([.ref xa, .int k1, .int k2]) ++ List.replicate (5 - (lg_sl ([.ref xa, .int k1, .int k2])).length) Slot.unset).toArray = ls at hl ⊢
  refine W.nameQ (fun Q hQ => ?_)
  refine W.nameR (fun R hR => ?_)
  have hRf : 2 ≤ R.frames := by rw [hR]; exact Nat.le_of_ble_eq_true rfl
  have hRl : 43 ≤ R.locals := by rw [hR]; exact Nat.le_of_ble_eq_true rfl
  have hRc : 0 ≤ R.cells := by rw [hR]; exact Nat.le_of_ble_eq_true rfl
  have hRs : 0 ≤ R.slots := by rw [hR]; exact Nat.le_of_ble_eq_true rfl
  have hF : fr K L [52] M M := fr.rf
  have hl : lv_has ls 5 [(0, .ref xa), (1, .int k1), (2, .int k2)] := hl
  have hW0 := hW
  refine lv_aload_n hx hb dX11_unseal_0 rfl (lv_at hl 0 rfl) ?_
  refine lv_iload_n hx hb dX11_unseal_1 rfl (lv_at hl 1 rfl) ?_
  have hPc : va_P D vwCl ([(xa, (b11_1 x0 (nI x1) x2 (nI x3) x4 x5 x6 x7 x8 x9 x10))] ++ va_pl L M) s.heap := hP
  have hDc : va_D A ([(xa, (b11_1 x0 (nI x1) x2 (nI x3) x4 x5 x6 x7 x8 x9 x10))] ++ va_pl L M) := hD
  have hFc : ∀ q, va_A ([(xa, (b11_1 x0 (nI x1) x2 (nI x3) x4 x5 x6 x7 x8 x9 x10))] ++ va_pl L M) s.heap.size q → A q := pg_free hDc hS hA
  refine va_callq (va_runV (As := [.int k1]) (rest := []) ⟨hx, hb, hml, hown, hg⟩ (e_houseAt l D cy K L M s.heap.size xa x0 x1 x2 x3 x4 x5 x6 x7 x8 x9 x10 k1 Bo T PK PT SX SY  hW i0 b1 i2 b3 i4 i5 i6 i8 hC) (cwV 1 hg (gV wd_340 wd_341 wd_342 wd_3 wd_343) rfl rfl rfl (by decide +kernel) ⟨(Nat.le_trans (Nat.le_of_ble_eq_true rfl) hRf), (Nat.le_trans (Nat.le_of_ble_eq_true rfl) hRl)⟩) ⟨PG.blind, va_recv hK hP (ci := 11) (q0 := 0) rfl rfl, fun U hU hW => ⟨rfl, PG.at hPc hK hDc hN hU hW⟩⟩ rfl rfl hl.1 rfl (lv_room (Nat.le_of_ble_eq_true rfl)) dX11_unseal_2 ⟨(Nat.le_trans (Nat.le_of_ble_eq_true rfl) hRc), (Nat.le_trans (Nat.le_of_ble_eq_true rfl) hRs)⟩) hS (fun q _ h => hFc q h) hFc (fun r_2 M_3 t H_1 locs ht hvm hw hB hz1 hk1 hS => ?_)
  have hp_4 := hw
  obtain ⟨hP1, hD1⟩ := hB
  rw [ht] at hP1
  have hP : va_P D vwCl ([(xa, (b11_1 x0 (nI x1) x2 (nI x3) x4 x5 x6 x7 x8 x9 x10))] ++ va_pl L M) H_1 := hP1
  have hD : va_D A ([(xa, (b11_1 x0 (nI x1) x2 (nI x3) x4 x5 x6 x7 x8 x9 x10))] ++ va_pl L M) := hD1.mono hFc
  obtain ⟨hp_4, hqx⟩ := hp_4
  rcases r_2 with _ | b_5
  · have hz := rfl (a := 0)
    refine lv_astore_nN (lv' := [(3, .null), (0, .ref xa), (1, .int k1), (2, .int k2)]) hx hb dX11_unseal_5 rfl hl (by decide) rfl (fun ls hl => ?_)
    refine lv_aload_nN hx hb dX11_unseal_6 rfl (lv_at hl 0 rfl) ?_
    refine lv_ifnullN (tgt := 17) hx hb dX11_unseal_7 (by decide) ?_
    refine lv_aload_n hx hb dX11_unseal_17 rfl (lv_at hl 1 rfl) ?_
    refine lv_iconst (v := 1) hx hb dX11_unseal_18 (by decide) ?_
    have hPc := hP.sub (ws' := [(xa, (b11_1 x0 (nI x1) x2 (nI x3) x4 x5 x6 x7 x8 x9 x10))]) [0] rfl
    have hDc := hD.sub (ws' := [(xa, (b11_1 x0 (nI x1) x2 (nI x3) x4 x5 x6 x7 x8 x9 x10))]) [0] (by decide) rfl
    have hKc := hK.sub (tys' := []) [] rfl
    have hFc := va_free (wc := [(xa, (b11_1 x0 (nI x1) x2 (nI x3) x4 x5 x6 x7 x8 x9 x10))]) hD hS hA [0] rfl
    refine va_calli (va_runV (As := [.int 1]) (rest := []) ⟨hx, hb, hml, hown, hg⟩ (k_refuse l D H_1.size xa x0 (nI x1) x2 (nI x3) x4 x5 x6 x7 x8 x9 x10 1) (cwV 1 hg (gV wd_344 wd_345 wd_346 wd_3 wd_347) rfl rfl rfl (by decide +kernel) ⟨(Nat.le_trans (Nat.le_of_ble_eq_true rfl) hRf), (Nat.le_trans (Nat.le_of_ble_eq_true rfl) hRl)⟩) ⟨Pr.blind, va_recv hK hP (ci := 11) (q0 := 0) rfl rfl, fun U hU hW => ⟨rfl, Pr.at hPc hKc hDc hN hU hW⟩⟩ rfl rfl hl.1 rfl (lv_room (Nat.le_of_ble_eq_true rfl)) dX11_unseal_19 ⟨(Nat.le_trans (Nat.le_of_ble_eq_true rfl) hRc), (Nat.le_trans (Nat.le_of_ble_eq_true rfl) hRs)⟩) hS (fun q _ h => hFc q h) hFc (fun r_7 M_8 t H_6 locs ht hvm hw hB hz1 hk1 hS => ?_)
    have hp_9 := hw
    obtain ⟨hP1, hK1, hD1⟩ := hB
    rw [ht] at hP1
    obtain ⟨hP, hD⟩ := va_joinQ (X := [(xa, (b11_1 x0 (nI x1) x2 (nI x3) x4 x5 x6 x7 x8 x9 x10))]) (cx := [(xa, (b11_1 x0 (nI x1) x2 (nI x3) x4 x5 x6 x7 x8 x9 x10))]) (wr := []) (w1 := [(xa, (b11_1 x0 (nI x1) x2 (nI x3) x4 x5 x6 x7 x8 1 (-1)))]) (pl := va_pl L M) hP hD [0] [] rfl rfl (by decide) (by decide) hk1 hFc hP1 hD1
    have hP : va_P D vwCl ([(xa, (b11_1 x0 (nI x1) x2 (nI x3) x4 x5 x6 x7 x8 1 (-1)))] ++ va_pl L M) H_6 := hP
    have hD : va_D A ([(xa, (b11_1 x0 (nI x1) x2 (nI x3) x4 x5 x6 x7 x8 1 (-1)))] ++ va_pl L M) := hD
    have hq := Eq.symm hp_9
    subst hq
    have hnh := hqx.2 rfl
    have hno : ¬ okUn x1 SY k1 k2 := fun q9 => by unfold okUn okHS at q9; first | omega | (obtain ⟨⟨_, _, _, _⟩, _⟩ := q9; first | omega | contradiction)
    rw [hQ]
    exact W.iret (v := (-1)) hx hb hr (fun t ht hW9 => ⟨⟨(-1), M, rfl, ⟨hW, hF, (by unfold syUn; rw [if_neg hno]; exact hC.mono), (by unfold anUn; rw [if_neg hno])⟩, ⟨1, by rw [ht]; exact hP, hD⟩⟩, hS.F ht⟩) hS.2.2 dX11_unseal_22
  · have hb_10 := hp_4 b_5 rfl
    refine lv_astore_n (lv' := [(3, .ref b_5), (0, .ref xa), (1, .int k1), (2, .int k2)]) hx hb dX11_unseal_5 rfl hl (by decide) rfl (fun ls hl => ?_)
    obtain ⟨hr9, hb9⟩ := hqx.1 b_5 rfl
    have hck : ((k1 : Int32).toNatClampNeg : Int) = (k1 : Int32).toInt := clT (by omega)
    have hkn : (k1 : Int32).toNatClampNeg < x1 := by omega
    have hSM := hC.at hkn hb9
    have hSVk := hSV (k1 : Int32).toNatClampNeg hkn
    have hHIk := hHI (k1 : Int32).toNatClampNeg hkn
    have hV : VC Bo K L M M b_5 (cfx M b_5) (cax M b_5) := VC.rf b_5 hC.oc
    obtain ⟨v11_0, v11_1, v11_2, v11_3, v11_4, v11_5, v11_6, v11_7, v11_8, v11_9, v11_10, v11_11, v11_12, v11_13, v11_14, v11_15, v11_16, v11_17, v11_18, v11_19, hM11, h11_3, h11_4, h11_5, h11_6, h11_7, h11_8, h11_9, h11_10, h11_11, h11_12, h11_13, h11_16, h11_17, h11_18, h11_19⟩ := hW.open_2 hb_10
    have hA_12 : (cV 2 M b_5 0).toInt = (v11_0 : Int32).toInt := by rw [cV_of hM11 rfl]
    have hA_13 : (cV 2 M b_5 1).toInt = (v11_1 : Int32).toInt := by rw [cV_of hM11 rfl]
    have hA_14 : (cV 2 M b_5 2).toInt = (v11_2 : Int32).toInt := by rw [cV_of hM11 rfl]
    have hA_15 : (cV 2 M b_5 4).toInt = ((v11_4 : Nat) : Int) := by rw [cV_of hM11 rfl]; exact nI_toInt (by omega)
    have hA_16 : (cV 2 M b_5 5).toInt = ((v11_5 : Nat) : Int) := by rw [cV_of hM11 rfl]; exact nI_toInt (by omega)
    have hA_17 : (cV 2 M b_5 9).toInt = ((v11_9 : Nat) : Int) := by rw [cV_of hM11 rfl]; exact nI_toInt (by omega)
    have hA_18 : (cV 2 M b_5 11).toInt = ((v11_11 : Nat) : Int) := by rw [cV_of hM11 rfl]; exact nI_toInt (by omega)
    have hA_19 : (cV 2 M b_5 15).toInt = (v11_15 : Int32).toInt := by rw [cV_of hM11 rfl]
    have hq0 : (cV 2 M b_5 1).toInt = SX (k1 : Int32).toNatClampNeg 0 := hSM.x0
    have hq1 : (cV 2 M b_5 2).toInt = SX (k1 : Int32).toNatClampNeg 1 := hSM.x1
    have hq10 : (cV 2 M b_5 9).toInt = SX (k1 : Int32).toNatClampNeg 10 := hSM.x10
    have hq11 : (cV 2 M b_5 11).toInt = SX (k1 : Int32).toNatClampNeg 11 := hSM.x11
    have hq12 : (cV 2 M b_5 4).toInt = SX (k1 : Int32).toNatClampNeg 12 := hSM.x12
    have hq13 : (cV 2 M b_5 5).toInt = SX (k1 : Int32).toNatClampNeg 13 := hSM.x13
    have hq14 : (cV 1 M v11_16 3).toInt = SX (k1 : Int32).toNatClampNeg 14 := by have h9 := hSM.x14; rw [← h9]; show _ = (cV 1 M (rA 2 M b_5 16) 3).toInt; rw [rA_of (j := 16) hM11 rfl]
    have hq15 : (cV 1 M v11_17 3).toInt = SX (k1 : Int32).toNatClampNeg 15 := by have h9 := hSM.x15; rw [← h9]; show _ = (cV 1 M (rA 2 M b_5 17) 3).toInt; rw [rA_of (j := 17) hM11 rfl]
    have hq16 : (cV 10 M v11_18 2).toInt = SX (k1 : Int32).toNatClampNeg 16 := by have h9 := hSM.x16; rw [← h9]; show _ = (cV 10 M (rA 2 M b_5 18) 2).toInt; rw [rA_of (j := 18) hM11 rfl]
    have hq19 : (cV 10 M v11_18 1).toInt = cfx M b_5 19 := by show _ = (cV 10 M (rA 2 M b_5 18) 1).toInt; rw [rA_of (j := 18) hM11 rfl]
    have hun := hSM.un
    have hl16 : (ALc (M (rA 1 M v11_16 1)) : Int) = 120 := by have h9 := hC.oc.l16 hW hb_10; rw [rA_of (j := 16) hM11 rfl] at h9; omega
    have hl17 : (ALc (M (rA 1 M v11_17 1)) : Int) = 20 := by have h9 := hC.oc.l17 hW hb_10; rw [rA_of (j := 17) hM11 rfl] at h9; omega
    have hbd0 := hSVk.b0
    have hbd1 := hSVk.b1
    have hbd10 := hSVk.b10
    have hbd11 := hSVk.b11
    have hbd12 := hSVk.b12
    have hbd13 := hSVk.b13
    have hbd14 := hSVk.b14
    have hbd15 := hSVk.b15
    have hbd16 := hSVk.b16
    have hqx14 : cfx M b_5 14 = SX (k1 : Int32).toNatClampNeg 14 := hSM.x14
    have hqx15 : cfx M b_5 15 = SX (k1 : Int32).toNatClampNeg 15 := hSM.x15
    have hqx16 : cfx M b_5 16 = SX (k1 : Int32).toNatClampNeg 16 := hSM.x16
    refine lv_aload_n hx hb dX11_unseal_6 rfl (lv_at hl 0 rfl) ?_
    refine lv_ifnull hx hb dX11_unseal_7 ?_
    refine lv_iload_n hx hb dX11_unseal_10 rfl (lv_at hl 3 rfl) ?_
    have hPc : va_P D vwCl ([] ++ va_pl L M) H_1 := hP.part (cx := []) [] rfl
    have hDc : va_D A ([] ++ va_pl L M) := hD.part (cx := []) [] (by decide) rfl
    have hFc : ∀ q, va_A ([] ++ va_pl L M) H_1.size q → A q := pg_free hDc hS hA
    refine va_calli (va_runS (As := [.int k2]) (rest := []) ⟨hx, hb, hml, hown, hg⟩ (e_X11_isSeat l D cy K L M H_1.size k2  hW ) (va_cwS 1 hg (gS wd_348 wd_47 wd_3 wd_46) rfl rfl rfl (by decide +kernel) ⟨(Nat.le_trans (Nat.le_of_ble_eq_true rfl) hRf), (Nat.le_trans (Nat.le_of_ble_eq_true rfl) hRl)⟩) ⟨PG.blind, fun U hU hW => ⟨rfl, PG.at hPc hK hDc hN hU hW⟩⟩ rfl rfl hl.1 rfl (lv_room (Nat.le_of_ble_eq_true rfl)) dX11_unseal_11 ⟨(Nat.le_trans (Nat.le_of_ble_eq_true rfl) hRc), (Nat.le_trans (Nat.le_of_ble_eq_true rfl) hRs)⟩) hS (fun q _ h => hFc q h) hFc (fun r_21 M_22 t H_20 locs ht hvm hw hB hz1 hk1 hS => ?_)
    have hp_23 := hw
    obtain ⟨hP1, hD1⟩ := hB
    rw [ht] at hP1
    obtain ⟨hP, hD⟩ := va_joinP (X := [(xa, (b11_1 x0 (nI x1) x2 (nI x3) x4 x5 x6 x7 x8 x9 x10))]) (cx := []) (wr := [(xa, (b11_1 x0 (nI x1) x2 (nI x3) x4 x5 x6 x7 x8 x9 x10))]) (rx := []) (pl := va_pl L M) (pl1 := va_pl L M) hP hD [] [0] rfl rfl (by decide) (by decide) hk1 hFc hP1 hD1
    have hP : va_P D vwCl ([(xa, (b11_1 x0 (nI x1) x2 (nI x3) x4 x5 x6 x7 x8 x9 x10))] ++ va_pl L M) H_20 := hP
    have hD : va_D A ([(xa, (b11_1 x0 (nI x1) x2 (nI x3) x4 x5 x6 x7 x8 x9 x10))] ++ va_pl L M) := hD
    rcases hp_23 with ⟨rfl, c_24, c_25, c_26⟩ | ⟨rfl, c_27⟩
    · have hz := rfl (a := 0)
      refine lv_if_ne (tgt := 23) hx hb dX11_unseal_14 (by decide) (fun _ => ?_) (fun c_28 => absurd c_28 (by decide))
      refine lv_aload_n hx hb dX11_unseal_23 rfl (lv_at hl 0 rfl) ?_
      refine pg_get (D := D) (ci := 2) (v := .ref v11_6) (C := RX2) (T := TX2) (N := 20) hx hb hg inG2 hown hK hP hb_10.1 hM11 rfl 6 (by decide) (hg _ wd_350) (fun _ h9 => h9) rfl dX11_unseal_24 ?_
      refine lv_iload_n hx hb dX11_unseal_27 rfl (lv_at hl 3 rfl) ?_
      obtain ⟨f29, hM29⟩ := hW.open_52 h11_6
      refine pg_iald hx hb hK hP h11_6.1 0 hM29 rfl (inb k2 6 (by omega) c_25 c_26) dX11_unseal_28 ?_
      refine lv_topi (fun f_30 ef_30 => ?_)
      refine lv_istore (lv' := [(4, .int f_30), (3, .ref b_5), (0, .ref xa), (1, .int k1), (2, .int k2)]) hx hb dX11_unseal_29 hl (by decide) rfl (fun ls hl => ?_)
      refine lv_iload hx hb dX11_unseal_31 (lv_at hl 0 rfl) ?_
      refine lv_if_ne (tgt := 42) hx hb dX11_unseal_33 (by decide) (fun c_31 => ?_) (fun c_31 => ?_)
      · have hz := rfl (a := 0)
        refine lv_aload_n hx hb dX11_unseal_42 rfl (lv_at hl 1 rfl) ?_
        refine pg_get (D := D) (ci := 2) (v := .ref v11_6) (C := RX2) (T := TX2) (N := 20) hx hb hg inG2 hown hK hP hb_10.1 hM11 rfl 6 (by decide) (hg _ wd_350) (fun _ h9 => h9) rfl dX11_unseal_43 ?_
        refine lv_iload_n hx hb dX11_unseal_46 rfl (lv_at hl 4 rfl) ?_
        refine lv_iconst (v := 0) hx hb dX11_unseal_47 (by decide) ?_
        refine pg_iast hx hb hK hP hD hS h11_6.1 0 hM29 rfl (inb k2 6 (by omega) c_25 c_26) dX11_unseal_48 (fun H_32 locs hP hD hS => ?_)
        obtain ⟨M_33, eM_33⟩ : ∃ M1 : Hp, M1 = va_up M v11_6 (.inl (cy 14, 6, .inl (upd f29 (k2 : Int32).toNatClampNeg 0))) := ⟨_, rfl⟩
        have sM_33 : M_33 = sA M v11_6 (k2 : Int32).toNatClampNeg 0 := eM_33.trans (sA_of hM29)
        have hV : VC Bo K L M M_33 b_5 (cfx M b_5) (va_up (cax M b_5) 50 (upd ((cax M b_5) 50) (k2 : Int32).toNatClampNeg 0)) := by rw [sM_33]; exact VC.a_le hV hW hb_10 (rA_of (j := 6) hM11 rfl) hM29
        have hP : va_P D vwCl ([(xa, (b11_1 x0 (nI x1) x2 (nI x3) x4 x5 x6 x7 x8 x9 x10))] ++ va_pl L M_33) H_32 := by rw [eM_33]; exact hP
        have hD : va_D A ([(xa, (b11_1 x0 (nI x1) x2 (nI x3) x4 x5 x6 x7 x8 x9 x10))] ++ va_pl L M_33) := by rw [eM_33]; exact hD
        have hW : WOK cy K L M_33 := by rw [eM_33]; exact hW.up_52 h11_6 ⟨_, rfl⟩
        have hF : fr K L [52] M M_33 := by rw [eM_33]; exact hF.up h11_6 (by decide)
        have hM_34 : M_33 v11_6 = .inl (cy 14, 6, .inl (upd f29 (k2 : Int32).toNatClampNeg 0)) := by rw [eM_33]; exact va_up_self _ _ _
        have hM_35 : M_33 b_5 = (b2_2 v11_0 v11_1 v11_2 v11_3 (nI v11_4) (nI v11_5) v11_6 v11_7 v11_8 (nI v11_9) v11_10 (nI v11_11) v11_12 v11_13 v11_14 v11_15 v11_16 v11_17 v11_18 v11_19) := by rw [eM_33, va_up_ne _ _ (hb_10.neT h11_6 (by decide))]; exact hM11
        obtain ⟨f_36, ef_36⟩ : ∃ f : Nat → Int32, f = upd f29 (k2 : Int32).toNatClampNeg 0 := ⟨_, rfl⟩
        rw [← ef_36] at hM_34
        clear ef_36
        refine lv_aload_n hx hb dX11_unseal_49 rfl (lv_at hl 2 rfl) ?_
        refine lv_iload hx hb dX11_unseal_50 (lv_at hl 0 rfl) ?_
        have hPc := hP.sub (ws' := [(xa, (b11_1 x0 (nI x1) x2 (nI x3) x4 x5 x6 x7 x8 x9 x10))]) [0] rfl
        have hDc := hD.sub (ws' := [(xa, (b11_1 x0 (nI x1) x2 (nI x3) x4 x5 x6 x7 x8 x9 x10))]) [0] (by decide) rfl
        have hKc := hK.sub (tys' := []) [] rfl
        have hFc := va_free (wc := [(xa, (b11_1 x0 (nI x1) x2 (nI x3) x4 x5 x6 x7 x8 x9 x10))]) hD hS hA [0] rfl
        refine va_calli (va_runV (As := [.int f_30]) (rest := []) ⟨hx, hb, hml, hown, hg⟩ (k_accept l D H_32.size xa x0 (nI x1) x2 (nI x3) x4 x5 x6 x7 x8 x9 x10 f_30) (cwV 1 hg (gV wd_356 wd_357 wd_358 wd_3 wd_359) rfl rfl rfl (by decide +kernel) ⟨(Nat.le_trans (Nat.le_of_ble_eq_true rfl) hRf), (Nat.le_trans (Nat.le_of_ble_eq_true rfl) hRl)⟩) ⟨Pr.blind, va_recv hK hP (ci := 11) (q0 := 0) rfl rfl, fun U hU hW => ⟨rfl, Pr.at hPc hKc hDc hN hU hW⟩⟩ rfl rfl hl.1 rfl (lv_room (Nat.le_of_ble_eq_true rfl)) dX11_unseal_52 ⟨(Nat.le_trans (Nat.le_of_ble_eq_true rfl) hRc), (Nat.le_trans (Nat.le_of_ble_eq_true rfl) hRs)⟩) hS (fun q _ h => hFc q h) hFc (fun r_38 M_39 t H_37 locs ht hvm hw hB hz1 hk1 hS => ?_)
        have hp_40 := hw
        obtain ⟨hP1, hK1, hD1⟩ := hB
        rw [ht] at hP1
        obtain ⟨hP, hD⟩ := va_joinQ (X := [(xa, (b11_1 x0 (nI x1) x2 (nI x3) x4 x5 x6 x7 x8 x9 x10))]) (cx := [(xa, (b11_1 x0 (nI x1) x2 (nI x3) x4 x5 x6 x7 x8 x9 x10))]) (wr := []) (w1 := [(xa, (b11_1 x0 (nI x1) x2 (nI x3) x4 x5 x6 x7 x8 0 (-1)))]) (pl := va_pl L M_33) hP hD [0] [] rfl rfl (by decide) (by decide) hk1 hFc hP1 hD1
        have hP : va_P D vwCl ([(xa, (b11_1 x0 (nI x1) x2 (nI x3) x4 x5 x6 x7 x8 0 (-1)))] ++ va_pl L M_33) H_37 := hP
        have hD : va_D A ([(xa, (b11_1 x0 (nI x1) x2 (nI x3) x4 x5 x6 x7 x8 0 (-1)))] ++ va_pl L M_33) := hD
        have hq := Eq.symm hp_40
        subst hq
        have hI_41 : (0 : Int) ≤ (k2 : Int32).toInt := inltI rfl rfl c_25
        have hI_42 : (k2 : Int32).toInt < (6 : Int) := inleI rfl rfl c_26
        have hI_43 : (f_30 : Int32).toInt ≠ (0 : Int) := ineI rfl rfl c_31
        have hcs : ((k2 : Int32).toNatClampNeg : Int) = k2.toInt := clT (by omega)
        have hse := hSM.se k2.toNatClampNeg (by omega)
        have h50 : cax M b_5 50 k2.toNatClampNeg = f_30 := by show vLe M b_5 k2.toNatClampNeg = _; unfold vLe; rw [rA_of (j := 6) hM11 rfl, IFc_of hM29, ef_30]
        have h50i := congrArg Int32.toInt h50
        have hlt := hSM.letd (s := k2.toNatClampNeg) (by omega) (by omega)
        have hyes : okUn x1 SY k1 k2 := by unfold okUn okHS; refine ⟨⟨?_, ?_, ?_, ?_⟩, ?_⟩ <;> first | omega | assumption
        rw [hQ]
        exact W.iret (v := f_30) hx hb hr (fun t ht hW9 => ⟨⟨f_30, M_33, rfl, ⟨hW, hF, (by unfold syUn; rw [if_pos hyes]; have hZ := hC.fin hW0 i0 b1 hkn hb9 hV ext.rf (by rw [hF.at i0 (by decide)]) (fun q iq => ⟨iq, cR_c (fr.cv hF (by decide) q iq 3 rfl)⟩) ((hSM.unseal (s := k2.toNatClampNeg) (by omega) (by omega))); rw [va_upI] at hZ; exact hZ), (by unfold anUn; rw [if_pos hyes]; apply Int32.toInt.inj; rw [Int32.toInt_neg, hlt.1, h50i, Int.neg_neg]; have hh9 := hse.2; rw [h50i] at hh9; symm; apply Int.bmod_eq_of_le <;> omega)⟩, ⟨0, by rw [ht]; exact hP, hD⟩⟩, hS.F ht⟩) hS.2.2 dX11_unseal_55
      · have hz := rfl (a := 0)
        refine lv_aload_n hx hb dX11_unseal_36 rfl (lv_at hl 2 rfl) ?_
        refine lv_iconst (v := 4) hx hb dX11_unseal_37 (by decide) ?_
        have hPc := hP.sub (ws' := [(xa, (b11_1 x0 (nI x1) x2 (nI x3) x4 x5 x6 x7 x8 x9 x10))]) [0] rfl
        have hDc := hD.sub (ws' := [(xa, (b11_1 x0 (nI x1) x2 (nI x3) x4 x5 x6 x7 x8 x9 x10))]) [0] (by decide) rfl
        have hKc := hK.sub (tys' := []) [] rfl
        have hFc := va_free (wc := [(xa, (b11_1 x0 (nI x1) x2 (nI x3) x4 x5 x6 x7 x8 x9 x10))]) hD hS hA [0] rfl
        refine va_calli (va_runV (As := [.int 4]) (rest := []) ⟨hx, hb, hml, hown, hg⟩ (k_refuse l D H_20.size xa x0 (nI x1) x2 (nI x3) x4 x5 x6 x7 x8 x9 x10 4) (cwV 1 hg (gV wd_344 wd_345 wd_346 wd_3 wd_347) rfl rfl rfl (by decide +kernel) ⟨(Nat.le_trans (Nat.le_of_ble_eq_true rfl) hRf), (Nat.le_trans (Nat.le_of_ble_eq_true rfl) hRl)⟩) ⟨Pr.blind, va_recv hK hP (ci := 11) (q0 := 0) rfl rfl, fun U hU hW => ⟨rfl, Pr.at hPc hKc hDc hN hU hW⟩⟩ rfl rfl hl.1 rfl (lv_room (Nat.le_of_ble_eq_true rfl)) dX11_unseal_38 ⟨(Nat.le_trans (Nat.le_of_ble_eq_true rfl) hRc), (Nat.le_trans (Nat.le_of_ble_eq_true rfl) hRs)⟩) hS (fun q _ h => hFc q h) hFc (fun r_45 M_46 t H_44 locs ht hvm hw hB hz1 hk1 hS => ?_)
        have hp_47 := hw
        obtain ⟨hP1, hK1, hD1⟩ := hB
        rw [ht] at hP1
        obtain ⟨hP, hD⟩ := va_joinQ (X := [(xa, (b11_1 x0 (nI x1) x2 (nI x3) x4 x5 x6 x7 x8 x9 x10))]) (cx := [(xa, (b11_1 x0 (nI x1) x2 (nI x3) x4 x5 x6 x7 x8 x9 x10))]) (wr := []) (w1 := [(xa, (b11_1 x0 (nI x1) x2 (nI x3) x4 x5 x6 x7 x8 4 (-1)))]) (pl := va_pl L M) hP hD [0] [] rfl rfl (by decide) (by decide) hk1 hFc hP1 hD1
        have hP : va_P D vwCl ([(xa, (b11_1 x0 (nI x1) x2 (nI x3) x4 x5 x6 x7 x8 4 (-1)))] ++ va_pl L M) H_44 := hP
        have hD : va_D A ([(xa, (b11_1 x0 (nI x1) x2 (nI x3) x4 x5 x6 x7 x8 4 (-1)))] ++ va_pl L M) := hD
        have hq := Eq.symm hp_47
        subst hq
        have hI_48 : (0 : Int) ≤ (k2 : Int32).toInt := inltI rfl rfl c_25
        have hI_49 : (k2 : Int32).toInt < (6 : Int) := inleI rfl rfl c_26
        have hI_50 : (f_30 : Int32).toInt = (0 : Int) := ieqI rfl rfl c_31
        have hcs : ((k2 : Int32).toNatClampNeg : Int) = k2.toInt := clT (by omega)
        have hse := hSM.se k2.toNatClampNeg (by omega)
        have h50 : cax M b_5 50 k2.toNatClampNeg = f_30 := by show vLe M b_5 k2.toNatClampNeg = _; unfold vLe; rw [rA_of (j := 6) hM11 rfl, IFc_of hM29, ef_30]
        have h50i := congrArg Int32.toInt h50
        have hsq : 0 ≤ (SY k1.toNatClampNeg 9 k2.toNatClampNeg).toInt := by rcases seatOf_or hse.1 with q9 | q9 <;> omega
        have hno : ¬ okUn x1 SY k1 k2 := fun q9 => by unfold okUn okHS at q9; first | omega | (obtain ⟨⟨_, _, _, _⟩, _⟩ := q9; first | omega | contradiction)
        rw [hQ]
        exact W.iret (v := (-1)) hx hb hr (fun t ht hW9 => ⟨⟨(-1), M, rfl, ⟨hW, hF, (by unfold syUn; rw [if_neg hno]; exact hC.mono), (by unfold anUn; rw [if_neg hno])⟩, ⟨4, by rw [ht]; exact hP, hD⟩⟩, hS.F ht⟩) hS.2.2 dX11_unseal_41
    · have hz := rfl (a := 0)
      refine lv_if_ne (tgt := 23) hx hb dX11_unseal_14 (by decide) (fun c_51 => absurd c_51 (by decide)) (fun _ => ?_)
      refine lv_aload_n hx hb dX11_unseal_17 rfl (lv_at hl 1 rfl) ?_
      refine lv_iconst (v := 1) hx hb dX11_unseal_18 (by decide) ?_
      have hPc := hP.sub (ws' := [(xa, (b11_1 x0 (nI x1) x2 (nI x3) x4 x5 x6 x7 x8 x9 x10))]) [0] rfl
      have hDc := hD.sub (ws' := [(xa, (b11_1 x0 (nI x1) x2 (nI x3) x4 x5 x6 x7 x8 x9 x10))]) [0] (by decide) rfl
      have hKc := hK.sub (tys' := []) [] rfl
      have hFc := va_free (wc := [(xa, (b11_1 x0 (nI x1) x2 (nI x3) x4 x5 x6 x7 x8 x9 x10))]) hD hS hA [0] rfl
      refine va_calli (va_runV (As := [.int 1]) (rest := []) ⟨hx, hb, hml, hown, hg⟩ (k_refuse l D H_20.size xa x0 (nI x1) x2 (nI x3) x4 x5 x6 x7 x8 x9 x10 1) (cwV 1 hg (gV wd_344 wd_345 wd_346 wd_3 wd_347) rfl rfl rfl (by decide +kernel) ⟨(Nat.le_trans (Nat.le_of_ble_eq_true rfl) hRf), (Nat.le_trans (Nat.le_of_ble_eq_true rfl) hRl)⟩) ⟨Pr.blind, va_recv hK hP (ci := 11) (q0 := 0) rfl rfl, fun U hU hW => ⟨rfl, Pr.at hPc hKc hDc hN hU hW⟩⟩ rfl rfl hl.1 rfl (lv_room (Nat.le_of_ble_eq_true rfl)) dX11_unseal_19 ⟨(Nat.le_trans (Nat.le_of_ble_eq_true rfl) hRc), (Nat.le_trans (Nat.le_of_ble_eq_true rfl) hRs)⟩) hS (fun q _ h => hFc q h) hFc (fun r_53 M_54 t H_52 locs ht hvm hw hB hz1 hk1 hS => ?_)
      have hp_55 := hw
      obtain ⟨hP1, hK1, hD1⟩ := hB
      rw [ht] at hP1
      obtain ⟨hP, hD⟩ := va_joinQ (X := [(xa, (b11_1 x0 (nI x1) x2 (nI x3) x4 x5 x6 x7 x8 x9 x10))]) (cx := [(xa, (b11_1 x0 (nI x1) x2 (nI x3) x4 x5 x6 x7 x8 x9 x10))]) (wr := []) (w1 := [(xa, (b11_1 x0 (nI x1) x2 (nI x3) x4 x5 x6 x7 x8 1 (-1)))]) (pl := va_pl L M) hP hD [0] [] rfl rfl (by decide) (by decide) hk1 hFc hP1 hD1
      have hP : va_P D vwCl ([(xa, (b11_1 x0 (nI x1) x2 (nI x3) x4 x5 x6 x7 x8 1 (-1)))] ++ va_pl L M) H_52 := hP
      have hD : va_D A ([(xa, (b11_1 x0 (nI x1) x2 (nI x3) x4 x5 x6 x7 x8 1 (-1)))] ++ va_pl L M) := hD
      have hq := Eq.symm hp_55
      subst hq
      have hno : ¬ okUn x1 SY k1 k2 := fun q9 => by unfold okUn okHS at q9; first | omega | (obtain ⟨⟨_, _, _, _⟩, _⟩ := q9; first | omega | contradiction)
      rw [hQ]
      exact W.iret (v := (-1)) hx hb hr (fun t ht hW9 => ⟨⟨(-1), M, rfl, ⟨hW, hF, (by unfold syUn; rw [if_neg hno]; exact hC.mono), (by unfold anUn; rw [if_neg hno])⟩, ⟨1, by rw [ht]; exact hP, hD⟩⟩, hS.F ht⟩) hS.2.2 dX11_unseal_22
set_option maxHeartbeats 4000000 in
set_option maxRecDepth 100000 in
theorem x_holds (l : Launch) (D : va_G) (cy : Nat → ClassId) (K : Kp) (L : List Nat) (M : Hp) (sz : Nat) (xa : Nat) (x0 : Nat) (x1 : Nat) (x2 : Nat) (x3 : Nat) (x4 : Nat) (x5 : Nat) (x6 : Nat) (x7 : Int32) (x8 : Nat) (x9 : Int32) (x10 : Int32) (k1 : Int32) (k2 : Int32) (Bo : Nat → Nat × Nat) (T : Int) (PK : Nat → Int32) (PT : Nat → Int32) (SX : Nat → Nat → Int) (SY : Nat → Nat → Nat → Int32) (hW : WOK cy K L M) (i0 : isk K L x0 17 8) (b1 : x1 ≤ 8) (i2 : isk K L x2 19 40) (b3 : x3 ≤ 40) (i4 : isk K L x4 7 0) (i5 : isk K L x5 5 0) (i6 : isk K L x6 60 24) (i8 : isk K L x8 73 25) (hC : CX Bo K L x0 x1 T x3 PK PT SX SY M) (hSV : ∀ k, k < x1 → SV (SX k) (SY k)) (hHI : ∀ k, k < x1 → HI (SX k) (SY k)) (hT : (0 ≤ T ∧ T ≤ 900000)) : Met l yX11_holds (wsM yX11_holds cX11_holds 5 (some .int)) ({ frames := 2, cells := 0, slots := 0, locals := 43 }) (va_Pc [.ref xa, .int k1, .int k2] (PG D cy [(xa, (b11_1 x0 (nI x1) x2 (nI x3) x4 x5 x6 x7 x8 x9 x10))] L M sz)) (va_Qi (fun (r : Int32) (_ : Unit) => (r = anHo x1 SY k1 k2)) (fun _ t => ∃ (w9 : Int32), PQ D [(xa, (b11_1 x0 (nI x1) x2 (nI x3) x4 x5 x6 x7 x8 w9 (-1)))] L M (va_A ([(xa, (b11_1 x0 (nI x1) x2 (nI x3) x4 x5 x6 x7 x8 x9 x10))] ++ va_pl L M) sz) t) (va_A ([(xa, (b11_1 x0 (nI x1) x2 (nI x3) x4 x5 x6 x7 x8 x9 x10))] ++ va_pl L M) sz)) 0 0 (va_A ([(xa, (b11_1 x0 (nI x1) x2 (nI x3) x4 x5 x6 x7 x8 x9 x10))] ++ va_pl L M) sz) := by
  refine Met.ofW (cc := cX11_holds) (maxL := 5) (ret := (some .int)) (by decide) rfl ?_
  intro p e s m args below meth c s₁ B hml hv
  obtain ⟨rfl, hsz, hP, hK, hD0, hN⟩ := hv
  have hx := B.exec
  have hb := B.bytes
  have hr := B.returns
  have hts := atoms_spec (ws := (wsM yX11_holds cX11_holds 5 (some .int))) B.pre
  have hg : ∀ w ∈ lw_good, w.before _ s = true := fun w h => hts w (List.mem_cons_of_mem _ h)
  have hown : s.vm.findClass RX11 = some m.cls := findClass_of_methodNamed B.named
  have hlocks := B.notSynchronized
  subst hsz
  have hD := hD0.self (sz := s.heap.size)
  generalize hAe : va_A ([(xa, (b11_1 x0 (nI x1) x2 (nI x3) x4 x5 x6 x7 x8 x9 x10))] ++ va_pl L M) s.heap.size = A at hD ⊢
  have hA : ∀ q : Nat, s.heap.size ≤ q → A q := fun q h => by rw [← hAe]; exact Or.inr h
  have hS : va_S A s.heap s.heap [] := va_S.rf
  have hl := lv_entry ([.ref xa, .int k1, .int k2]) (n := 5) (Nat.le_of_ble_eq_true rfl)
  rw [lg_entry_eq]
  generalize (lg_sl ([.ref xa, .int k1, .int k2]) ++ List.replicate (5 - (lg_sl ([.ref xa, .int k1, .int k2])).length) Slot.unset).toArray = ls at hl ⊢
  refine W.nameQ (fun Q hQ => ?_)
  refine W.nameR (fun R hR => ?_)
  have hRf : 2 ≤ R.frames := by rw [hR]; exact Nat.le_of_ble_eq_true rfl
  have hRl : 43 ≤ R.locals := by rw [hR]; exact Nat.le_of_ble_eq_true rfl
  have hRc : 0 ≤ R.cells := by rw [hR]; exact Nat.le_of_ble_eq_true rfl
  have hRs : 0 ≤ R.slots := by rw [hR]; exact Nat.le_of_ble_eq_true rfl
  have hl : lv_has ls 5 [(0, .ref xa), (1, .int k1), (2, .int k2)] := hl
  have hW0 := hW
  refine lv_aload_n hx hb dX11_holds_0 rfl (lv_at hl 0 rfl) ?_
  refine lv_iload_n hx hb dX11_holds_1 rfl (lv_at hl 1 rfl) ?_
  have hPc : va_P D vwCl ([(xa, (b11_1 x0 (nI x1) x2 (nI x3) x4 x5 x6 x7 x8 x9 x10))] ++ va_pl L M) s.heap := hP
  have hDc : va_D A ([(xa, (b11_1 x0 (nI x1) x2 (nI x3) x4 x5 x6 x7 x8 x9 x10))] ++ va_pl L M) := hD
  have hFc : ∀ q, va_A ([(xa, (b11_1 x0 (nI x1) x2 (nI x3) x4 x5 x6 x7 x8 x9 x10))] ++ va_pl L M) s.heap.size q → A q := pg_free hDc hS hA
  refine va_callq (va_runV (As := [.int k1]) (rest := []) ⟨hx, hb, hml, hown, hg⟩ (e_houseAt l D cy K L M s.heap.size xa x0 x1 x2 x3 x4 x5 x6 x7 x8 x9 x10 k1 Bo T PK PT SX SY  hW i0 b1 i2 b3 i4 i5 i6 i8 hC) (cwV 1 hg (gV wd_340 wd_341 wd_342 wd_3 wd_343) rfl rfl rfl (by decide +kernel) ⟨(Nat.le_trans (Nat.le_of_ble_eq_true rfl) hRf), (Nat.le_trans (Nat.le_of_ble_eq_true rfl) hRl)⟩) ⟨PG.blind, va_recv hK hP (ci := 11) (q0 := 0) rfl rfl, fun U hU hW => ⟨rfl, PG.at hPc hK hDc hN hU hW⟩⟩ rfl rfl hl.1 rfl (lv_room (Nat.le_of_ble_eq_true rfl)) dX11_holds_2 ⟨(Nat.le_trans (Nat.le_of_ble_eq_true rfl) hRc), (Nat.le_trans (Nat.le_of_ble_eq_true rfl) hRs)⟩) hS (fun q _ h => hFc q h) hFc (fun r_2 M_3 t H_1 locs ht hvm hw hB hz1 hk1 hS => ?_)
  have hp_4 := hw
  obtain ⟨hP1, hD1⟩ := hB
  rw [ht] at hP1
  have hP : va_P D vwCl ([(xa, (b11_1 x0 (nI x1) x2 (nI x3) x4 x5 x6 x7 x8 x9 x10))] ++ va_pl L M) H_1 := hP1
  have hD : va_D A ([(xa, (b11_1 x0 (nI x1) x2 (nI x3) x4 x5 x6 x7 x8 x9 x10))] ++ va_pl L M) := hD1.mono hFc
  obtain ⟨hp_4, hqx⟩ := hp_4
  rcases r_2 with _ | b_5
  · have hz := rfl (a := 0)
    refine lv_astore_nN (lv' := [(3, .null), (0, .ref xa), (1, .int k1), (2, .int k2)]) hx hb dX11_holds_5 rfl hl (by decide) rfl (fun ls hl => ?_)
    refine lv_aload_nN hx hb dX11_holds_6 rfl (lv_at hl 0 rfl) ?_
    refine lv_ifnullN (tgt := 17) hx hb dX11_holds_7 (by decide) ?_
    refine lv_aload_n hx hb dX11_holds_17 rfl (lv_at hl 1 rfl) ?_
    refine lv_iconst (v := 1) hx hb dX11_holds_18 (by decide) ?_
    have hPc := hP.sub (ws' := [(xa, (b11_1 x0 (nI x1) x2 (nI x3) x4 x5 x6 x7 x8 x9 x10))]) [0] rfl
    have hDc := hD.sub (ws' := [(xa, (b11_1 x0 (nI x1) x2 (nI x3) x4 x5 x6 x7 x8 x9 x10))]) [0] (by decide) rfl
    have hKc := hK.sub (tys' := []) [] rfl
    have hFc := va_free (wc := [(xa, (b11_1 x0 (nI x1) x2 (nI x3) x4 x5 x6 x7 x8 x9 x10))]) hD hS hA [0] rfl
    refine va_calli (va_runV (As := [.int 1]) (rest := []) ⟨hx, hb, hml, hown, hg⟩ (k_refuse l D H_1.size xa x0 (nI x1) x2 (nI x3) x4 x5 x6 x7 x8 x9 x10 1) (cwV 1 hg (gV wd_344 wd_345 wd_346 wd_3 wd_347) rfl rfl rfl (by decide +kernel) ⟨(Nat.le_trans (Nat.le_of_ble_eq_true rfl) hRf), (Nat.le_trans (Nat.le_of_ble_eq_true rfl) hRl)⟩) ⟨Pr.blind, va_recv hK hP (ci := 11) (q0 := 0) rfl rfl, fun U hU hW => ⟨rfl, Pr.at hPc hKc hDc hN hU hW⟩⟩ rfl rfl hl.1 rfl (lv_room (Nat.le_of_ble_eq_true rfl)) dX11_holds_19 ⟨(Nat.le_trans (Nat.le_of_ble_eq_true rfl) hRc), (Nat.le_trans (Nat.le_of_ble_eq_true rfl) hRs)⟩) hS (fun q _ h => hFc q h) hFc (fun r_7 M_8 t H_6 locs ht hvm hw hB hz1 hk1 hS => ?_)
    have hp_9 := hw
    obtain ⟨hP1, hK1, hD1⟩ := hB
    rw [ht] at hP1
    obtain ⟨hP, hD⟩ := va_joinQ (X := [(xa, (b11_1 x0 (nI x1) x2 (nI x3) x4 x5 x6 x7 x8 x9 x10))]) (cx := [(xa, (b11_1 x0 (nI x1) x2 (nI x3) x4 x5 x6 x7 x8 x9 x10))]) (wr := []) (w1 := [(xa, (b11_1 x0 (nI x1) x2 (nI x3) x4 x5 x6 x7 x8 1 (-1)))]) (pl := va_pl L M) hP hD [0] [] rfl rfl (by decide) (by decide) hk1 hFc hP1 hD1
    have hP : va_P D vwCl ([(xa, (b11_1 x0 (nI x1) x2 (nI x3) x4 x5 x6 x7 x8 1 (-1)))] ++ va_pl L M) H_6 := hP
    have hD : va_D A ([(xa, (b11_1 x0 (nI x1) x2 (nI x3) x4 x5 x6 x7 x8 1 (-1)))] ++ va_pl L M) := hD
    have hq := Eq.symm hp_9
    subst hq
    have hnh := hqx.2 rfl
    have hno : ¬ okHS x1 k1 k2 := fun q9 => by unfold okHS at q9; first | omega | (obtain ⟨_, _, _, _⟩ := q9; first | omega | contradiction)
    rw [hQ]
    exact W.iret (v := (-1)) hx hb hr (fun t ht hW9 => ⟨⟨(-1), (), rfl, (by unfold anHo; rw [if_neg hno]), ⟨1, by rw [ht]; exact hP, hD⟩⟩, hS.F ht⟩) hS.2.2 dX11_holds_22
  · have hb_10 := hp_4 b_5 rfl
    refine lv_astore_n (lv' := [(3, .ref b_5), (0, .ref xa), (1, .int k1), (2, .int k2)]) hx hb dX11_holds_5 rfl hl (by decide) rfl (fun ls hl => ?_)
    obtain ⟨hr9, hb9⟩ := hqx.1 b_5 rfl
    have hck : ((k1 : Int32).toNatClampNeg : Int) = (k1 : Int32).toInt := clT (by omega)
    have hkn : (k1 : Int32).toNatClampNeg < x1 := by omega
    have hSM := hC.at hkn hb9
    have hSVk := hSV (k1 : Int32).toNatClampNeg hkn
    have hHIk := hHI (k1 : Int32).toNatClampNeg hkn
    have hV : VC Bo K L M M b_5 (cfx M b_5) (cax M b_5) := VC.rf b_5 hC.oc
    obtain ⟨v11_0, v11_1, v11_2, v11_3, v11_4, v11_5, v11_6, v11_7, v11_8, v11_9, v11_10, v11_11, v11_12, v11_13, v11_14, v11_15, v11_16, v11_17, v11_18, v11_19, hM11, h11_3, h11_4, h11_5, h11_6, h11_7, h11_8, h11_9, h11_10, h11_11, h11_12, h11_13, h11_16, h11_17, h11_18, h11_19⟩ := hW.open_2 hb_10
    have hA_12 : (cV 2 M b_5 0).toInt = (v11_0 : Int32).toInt := by rw [cV_of hM11 rfl]
    have hA_13 : (cV 2 M b_5 1).toInt = (v11_1 : Int32).toInt := by rw [cV_of hM11 rfl]
    have hA_14 : (cV 2 M b_5 2).toInt = (v11_2 : Int32).toInt := by rw [cV_of hM11 rfl]
    have hA_15 : (cV 2 M b_5 4).toInt = ((v11_4 : Nat) : Int) := by rw [cV_of hM11 rfl]; exact nI_toInt (by omega)
    have hA_16 : (cV 2 M b_5 5).toInt = ((v11_5 : Nat) : Int) := by rw [cV_of hM11 rfl]; exact nI_toInt (by omega)
    have hA_17 : (cV 2 M b_5 9).toInt = ((v11_9 : Nat) : Int) := by rw [cV_of hM11 rfl]; exact nI_toInt (by omega)
    have hA_18 : (cV 2 M b_5 11).toInt = ((v11_11 : Nat) : Int) := by rw [cV_of hM11 rfl]; exact nI_toInt (by omega)
    have hA_19 : (cV 2 M b_5 15).toInt = (v11_15 : Int32).toInt := by rw [cV_of hM11 rfl]
    have hq0 : (cV 2 M b_5 1).toInt = SX (k1 : Int32).toNatClampNeg 0 := hSM.x0
    have hq1 : (cV 2 M b_5 2).toInt = SX (k1 : Int32).toNatClampNeg 1 := hSM.x1
    have hq10 : (cV 2 M b_5 9).toInt = SX (k1 : Int32).toNatClampNeg 10 := hSM.x10
    have hq11 : (cV 2 M b_5 11).toInt = SX (k1 : Int32).toNatClampNeg 11 := hSM.x11
    have hq12 : (cV 2 M b_5 4).toInt = SX (k1 : Int32).toNatClampNeg 12 := hSM.x12
    have hq13 : (cV 2 M b_5 5).toInt = SX (k1 : Int32).toNatClampNeg 13 := hSM.x13
    have hq14 : (cV 1 M v11_16 3).toInt = SX (k1 : Int32).toNatClampNeg 14 := by have h9 := hSM.x14; rw [← h9]; show _ = (cV 1 M (rA 2 M b_5 16) 3).toInt; rw [rA_of (j := 16) hM11 rfl]
    have hq15 : (cV 1 M v11_17 3).toInt = SX (k1 : Int32).toNatClampNeg 15 := by have h9 := hSM.x15; rw [← h9]; show _ = (cV 1 M (rA 2 M b_5 17) 3).toInt; rw [rA_of (j := 17) hM11 rfl]
    have hq16 : (cV 10 M v11_18 2).toInt = SX (k1 : Int32).toNatClampNeg 16 := by have h9 := hSM.x16; rw [← h9]; show _ = (cV 10 M (rA 2 M b_5 18) 2).toInt; rw [rA_of (j := 18) hM11 rfl]
    have hq19 : (cV 10 M v11_18 1).toInt = cfx M b_5 19 := by show _ = (cV 10 M (rA 2 M b_5 18) 1).toInt; rw [rA_of (j := 18) hM11 rfl]
    have hun := hSM.un
    have hl16 : (ALc (M (rA 1 M v11_16 1)) : Int) = 120 := by have h9 := hC.oc.l16 hW hb_10; rw [rA_of (j := 16) hM11 rfl] at h9; omega
    have hl17 : (ALc (M (rA 1 M v11_17 1)) : Int) = 20 := by have h9 := hC.oc.l17 hW hb_10; rw [rA_of (j := 17) hM11 rfl] at h9; omega
    have hbd0 := hSVk.b0
    have hbd1 := hSVk.b1
    have hbd10 := hSVk.b10
    have hbd11 := hSVk.b11
    have hbd12 := hSVk.b12
    have hbd13 := hSVk.b13
    have hbd14 := hSVk.b14
    have hbd15 := hSVk.b15
    have hbd16 := hSVk.b16
    have hqx14 : cfx M b_5 14 = SX (k1 : Int32).toNatClampNeg 14 := hSM.x14
    have hqx15 : cfx M b_5 15 = SX (k1 : Int32).toNatClampNeg 15 := hSM.x15
    have hqx16 : cfx M b_5 16 = SX (k1 : Int32).toNatClampNeg 16 := hSM.x16
    refine lv_aload_n hx hb dX11_holds_6 rfl (lv_at hl 0 rfl) ?_
    refine lv_ifnull hx hb dX11_holds_7 ?_
    refine lv_iload_n hx hb dX11_holds_10 rfl (lv_at hl 3 rfl) ?_
    have hPc : va_P D vwCl ([] ++ va_pl L M) H_1 := hP.part (cx := []) [] rfl
    have hDc : va_D A ([] ++ va_pl L M) := hD.part (cx := []) [] (by decide) rfl
    have hFc : ∀ q, va_A ([] ++ va_pl L M) H_1.size q → A q := pg_free hDc hS hA
    refine va_calli (va_runS (As := [.int k2]) (rest := []) ⟨hx, hb, hml, hown, hg⟩ (e_X11_isSeat l D cy K L M H_1.size k2  hW ) (va_cwS 1 hg (gS wd_348 wd_47 wd_3 wd_46) rfl rfl rfl (by decide +kernel) ⟨(Nat.le_trans (Nat.le_of_ble_eq_true rfl) hRf), (Nat.le_trans (Nat.le_of_ble_eq_true rfl) hRl)⟩) ⟨PG.blind, fun U hU hW => ⟨rfl, PG.at hPc hK hDc hN hU hW⟩⟩ rfl rfl hl.1 rfl (lv_room (Nat.le_of_ble_eq_true rfl)) dX11_holds_11 ⟨(Nat.le_trans (Nat.le_of_ble_eq_true rfl) hRc), (Nat.le_trans (Nat.le_of_ble_eq_true rfl) hRs)⟩) hS (fun q _ h => hFc q h) hFc (fun r_21 M_22 t H_20 locs ht hvm hw hB hz1 hk1 hS => ?_)
    have hp_23 := hw
    obtain ⟨hP1, hD1⟩ := hB
    rw [ht] at hP1
    obtain ⟨hP, hD⟩ := va_joinP (X := [(xa, (b11_1 x0 (nI x1) x2 (nI x3) x4 x5 x6 x7 x8 x9 x10))]) (cx := []) (wr := [(xa, (b11_1 x0 (nI x1) x2 (nI x3) x4 x5 x6 x7 x8 x9 x10))]) (rx := []) (pl := va_pl L M) (pl1 := va_pl L M) hP hD [] [0] rfl rfl (by decide) (by decide) hk1 hFc hP1 hD1
    have hP : va_P D vwCl ([(xa, (b11_1 x0 (nI x1) x2 (nI x3) x4 x5 x6 x7 x8 x9 x10))] ++ va_pl L M) H_20 := hP
    have hD : va_D A ([(xa, (b11_1 x0 (nI x1) x2 (nI x3) x4 x5 x6 x7 x8 x9 x10))] ++ va_pl L M) := hD
    rcases hp_23 with ⟨rfl, c_24, c_25, c_26⟩ | ⟨rfl, c_27⟩
    · have hz := rfl (a := 0)
      refine lv_if_ne (tgt := 23) hx hb dX11_holds_14 (by decide) (fun _ => ?_) (fun c_28 => absurd c_28 (by decide))
      refine lv_aload_n hx hb dX11_holds_23 rfl (lv_at hl 0 rfl) ?_
      refine pg_get (D := D) (ci := 2) (v := .ref v11_6) (C := RX2) (T := TX2) (N := 20) hx hb hg inG2 hown hK hP hb_10.1 hM11 rfl 6 (by decide) (hg _ wd_350) (fun _ h9 => h9) rfl dX11_holds_24 ?_
      refine lv_iload_n hx hb dX11_holds_27 rfl (lv_at hl 3 rfl) ?_
      obtain ⟨f29, hM29⟩ := hW.open_52 h11_6
      refine pg_iald hx hb hK hP h11_6.1 0 hM29 rfl (inb k2 6 (by omega) c_25 c_26) dX11_holds_28 ?_
      refine lv_topi (fun f_30 ef_30 => ?_)
      refine lv_if_eq (tgt := 38) hx hb dX11_holds_29 (by decide) (fun c_31 => ?_) (fun c_31 => ?_)
      · have hz := rfl (a := 0)
        refine lv_aload_n hx hb dX11_holds_38 rfl (lv_at hl 0 rfl) ?_
        refine pg_get (D := D) (ci := 2) (v := .ref v11_7) (C := RX2) (T := TX2) (N := 20) hx hb hg inG2 hown hK hP hb_10.1 hM11 rfl 7 (by decide) (hg _ wd_355) (fun _ h9 => h9) rfl dX11_holds_39 ?_
        refine lv_iload_n hx hb dX11_holds_42 rfl (lv_at hl 3 rfl) ?_
        obtain ⟨f32, hM32, hf32⟩ := hW.open_61 h11_7
        have hi_33 : vp_in k2 6 := (inb k2 6 (by omega) c_25 c_26)
        refine pg_aldq hx hb hK hP h11_7.1 8 hM32 rfl hi_33 dX11_holds_43 ?_
        obtain ⟨q_34, ho_35⟩ : ∃ q : Option Nat, q = f32 (k2 : Int32).toNatClampNeg := ⟨_, rfl⟩
        rw [← ho_35]
        have hq_36 : iskN K L q_34 9 0 := by rw [ho_35]; exact hf32 _ (vp_lt hi_33)
        rcases q_34 with _ | bq_34
        · have hz := rfl (a := 0)
          refine lv_astoreN (lv' := [(4, .null), (3, .ref b_5), (0, .ref xa), (1, .int k1), (2, .int k2)]) hx hb dX11_holds_44 hl (by decide) rfl (fun ls hl => ?_)
          refine lv_aloadN hx hb dX11_holds_46 (lv_at hl 0 rfl) ?_
          refine lv_ifnonnullN hx hb dX11_holds_48 ?_
          refine lv_aload_n hx hb dX11_holds_51 rfl (lv_at hl 2 rfl) ?_
          refine lv_iconst (v := 0) hx hb dX11_holds_52 (by decide) ?_
          have hPc := hP.sub (ws' := [(xa, (b11_1 x0 (nI x1) x2 (nI x3) x4 x5 x6 x7 x8 x9 x10))]) [0] rfl
          have hDc := hD.sub (ws' := [(xa, (b11_1 x0 (nI x1) x2 (nI x3) x4 x5 x6 x7 x8 x9 x10))]) [0] (by decide) rfl
          have hKc := hK.sub (tys' := []) [] rfl
          have hFc := va_free (wc := [(xa, (b11_1 x0 (nI x1) x2 (nI x3) x4 x5 x6 x7 x8 x9 x10))]) hD hS hA [0] rfl
          refine va_calli (va_runV (As := [.int 0]) (rest := []) ⟨hx, hb, hml, hown, hg⟩ (k_accept l D H_20.size xa x0 (nI x1) x2 (nI x3) x4 x5 x6 x7 x8 x9 x10 0) (cwV 1 hg (gV wd_356 wd_357 wd_358 wd_3 wd_359) rfl rfl rfl (by decide +kernel) ⟨(Nat.le_trans (Nat.le_of_ble_eq_true rfl) hRf), (Nat.le_trans (Nat.le_of_ble_eq_true rfl) hRl)⟩) ⟨Pr.blind, va_recv hK hP (ci := 11) (q0 := 0) rfl rfl, fun U hU hW => ⟨rfl, Pr.at hPc hKc hDc hN hU hW⟩⟩ rfl rfl hl.1 rfl (lv_room (Nat.le_of_ble_eq_true rfl)) dX11_holds_53 ⟨(Nat.le_trans (Nat.le_of_ble_eq_true rfl) hRc), (Nat.le_trans (Nat.le_of_ble_eq_true rfl) hRs)⟩) hS (fun q _ h => hFc q h) hFc (fun r_39 M_40 t H_38 locs ht hvm hw hB hz1 hk1 hS => ?_)
          have hp_41 := hw
          obtain ⟨hP1, hK1, hD1⟩ := hB
          rw [ht] at hP1
          obtain ⟨hP, hD⟩ := va_joinQ (X := [(xa, (b11_1 x0 (nI x1) x2 (nI x3) x4 x5 x6 x7 x8 x9 x10))]) (cx := [(xa, (b11_1 x0 (nI x1) x2 (nI x3) x4 x5 x6 x7 x8 x9 x10))]) (wr := []) (w1 := [(xa, (b11_1 x0 (nI x1) x2 (nI x3) x4 x5 x6 x7 x8 0 (-1)))]) (pl := va_pl L M) hP hD [0] [] rfl rfl (by decide) (by decide) hk1 hFc hP1 hD1
          have hP : va_P D vwCl ([(xa, (b11_1 x0 (nI x1) x2 (nI x3) x4 x5 x6 x7 x8 0 (-1)))] ++ va_pl L M) H_38 := hP
          have hD : va_D A ([(xa, (b11_1 x0 (nI x1) x2 (nI x3) x4 x5 x6 x7 x8 0 (-1)))] ++ va_pl L M) := hD
          have hq := Eq.symm hp_41
          subst hq
          have hI_42 : (0 : Int) ≤ (k2 : Int32).toInt := inltI rfl rfl c_25
          have hI_43 : (k2 : Int32).toInt < (6 : Int) := inleI rfl rfl c_26
          have hI_44 : (f_30 : Int32).toInt = (0 : Int) := ieqI rfl rfl c_31
          have hcs : ((k2 : Int32).toNatClampNeg : Int) = k2.toInt := clT (by omega)
          have hse := hSM.se k2.toNatClampNeg (by omega)
          have h50 : cax M b_5 50 k2.toNatClampNeg = f_30 := by show vLe M b_5 k2.toNatClampNeg = _; unfold vLe; rw [rA_of (j := 6) hM11 rfl, IFc_of hM29, ef_30]
          have h50i := congrArg Int32.toInt h50
          have hsq : 0 ≤ (SY k1.toNatClampNeg 9 k2.toNatClampNeg).toInt := by rcases seatOf_or hse.1 with q9 | q9 <;> omega
          have hh := hSM.hold0 (s := k2.toNatClampNeg) (by omega) (by omega) (by rw [lk_he0 (i := k2.toNatClampNeg) (by rw [rA_of (j := 7) hM11 rfl, RFc_of hM32]; exact Eq.symm ho_35) (by omega)]; rfl)
          have hyes : okHS x1 k1 k2 := by unfold okHS; refine ⟨?_, ?_, ?_, ?_⟩ <;> first | omega | assumption
          rw [hQ]
          exact W.iret (v := 0) hx hb hr (fun t ht hW9 => ⟨⟨0, (), rfl, (by unfold anHo; rw [if_pos hyes, if_pos (by omega)]), ⟨0, by rw [ht]; exact hP, hD⟩⟩, hS.F ht⟩) hS.2.2 dX11_holds_56
        · have hb_37 := hq_36 bq_34 rfl
          refine lv_astore (lv' := [(4, .ref bq_34), (3, .ref b_5), (0, .ref xa), (1, .int k1), (2, .int k2)]) hx hb dX11_holds_44 hl (by decide) rfl (fun ls hl => ?_)
          refine lv_aload hx hb dX11_holds_46 (lv_at hl 0 rfl) ?_
          refine lv_ifnonnull (tgt := 57) hx hb dX11_holds_48 (by decide) ?_
          refine lv_aload_n hx hb dX11_holds_57 rfl (lv_at hl 2 rfl) ?_
          refine lv_aload hx hb dX11_holds_58 (lv_at hl 0 rfl) ?_
          obtain ⟨v45_0, v45_1, v45_2, v45_3, v45_4, v45_5, v45_6, v45_7, v45_8, v45_9, v45_10, v45_11, v45_12, v45_13, v45_14, v45_15, hM45, h45_0, h45_1, h45_4, h45_8⟩ := hW.open_9 hb_37
          have hPc : va_P D vwCl ([] ++ va_pl L M) H_20 := hP.part (cx := []) [] rfl
          have hDc : va_D A ([] ++ va_pl L M) := hD.part (cx := []) [] (by decide) rfl
          have hFc : ∀ q, va_A ([] ++ va_pl L M) H_20.size q → A q := pg_free hDc hS hA
          refine va_calli (va_runV (As := []) (rest := [.ref xa]) ⟨hx, hb, hml, hown, hg⟩ (e_X9_hasEnded l D cy K L M H_20.size bq_34  hW hb_37) (cwV 0 hg (gV wd_360 wd_50 wd_51 wd_52 wd_53) rfl rfl rfl (by decide +kernel) ⟨(Nat.le_trans (Nat.le_of_ble_eq_true rfl) hRf), (Nat.le_trans (Nat.le_of_ble_eq_true rfl) hRl)⟩) ⟨PG.blind, pg_recv hK hP hb_37.1 hM45 rfl, fun U hU hW => ⟨rfl, PG.at hPc hK hDc hN hU hW⟩⟩ rfl rfl hl.1 rfl (lv_room (Nat.le_of_ble_eq_true rfl)) dX11_holds_60 ⟨(Nat.le_trans (Nat.le_of_ble_eq_true rfl) hRc), (Nat.le_trans (Nat.le_of_ble_eq_true rfl) hRs)⟩) hS (fun q _ h => hFc q h) hFc (fun r_47 M_48 t H_46 locs ht hvm hw hB hz1 hk1 hS => ?_)
          have hp_49 := hw
          obtain ⟨hP1, hD1⟩ := hB
          rw [ht] at hP1
          obtain ⟨hP, hD⟩ := va_joinP (X := [(xa, (b11_1 x0 (nI x1) x2 (nI x3) x4 x5 x6 x7 x8 x9 x10))]) (cx := []) (wr := [(xa, (b11_1 x0 (nI x1) x2 (nI x3) x4 x5 x6 x7 x8 x9 x10))]) (rx := []) (pl := va_pl L M) (pl1 := va_pl L M) hP hD [] [0] rfl rfl (by decide) (by decide) hk1 hFc hP1 hD1
          have hP : va_P D vwCl ([(xa, (b11_1 x0 (nI x1) x2 (nI x3) x4 x5 x6 x7 x8 x9 x10))] ++ va_pl L M) H_46 := hP
          have hD : va_D A ([(xa, (b11_1 x0 (nI x1) x2 (nI x3) x4 x5 x6 x7 x8 x9 x10))] ++ va_pl L M) := hD
          rcases hp_49 with ⟨rfl, c_50⟩ | ⟨rfl, c_51⟩
          · have hz := rfl (a := 0)
            refine lv_if_eq (tgt := 70) hx hb dX11_holds_63 (by decide) (fun c_52 => absurd c_52 (by decide)) (fun _ => ?_)
            refine lv_iconst (v := 3) hx hb dX11_holds_66 (by decide) ?_
            refine lv_goto (tgt := 71) hx hb dX11_holds_67 (by decide) ?_
            have hPc := hP.sub (ws' := [(xa, (b11_1 x0 (nI x1) x2 (nI x3) x4 x5 x6 x7 x8 x9 x10))]) [0] rfl
            have hDc := hD.sub (ws' := [(xa, (b11_1 x0 (nI x1) x2 (nI x3) x4 x5 x6 x7 x8 x9 x10))]) [0] (by decide) rfl
            have hKc := hK.sub (tys' := []) [] rfl
            have hFc := va_free (wc := [(xa, (b11_1 x0 (nI x1) x2 (nI x3) x4 x5 x6 x7 x8 x9 x10))]) hD hS hA [0] rfl
            refine va_calli (va_runV (As := [.int 3]) (rest := []) ⟨hx, hb, hml, hown, hg⟩ (k_accept l D H_46.size xa x0 (nI x1) x2 (nI x3) x4 x5 x6 x7 x8 x9 x10 3) (cwV 1 hg (gV wd_356 wd_357 wd_358 wd_3 wd_359) rfl rfl rfl (by decide +kernel) ⟨(Nat.le_trans (Nat.le_of_ble_eq_true rfl) hRf), (Nat.le_trans (Nat.le_of_ble_eq_true rfl) hRl)⟩) ⟨Pr.blind, va_recv hK hP (ci := 11) (q0 := 0) rfl rfl, fun U hU hW => ⟨rfl, Pr.at hPc hKc hDc hN hU hW⟩⟩ rfl rfl hl.1 rfl (lv_room (Nat.le_of_ble_eq_true rfl)) dX11_holds_71 ⟨(Nat.le_trans (Nat.le_of_ble_eq_true rfl) hRc), (Nat.le_trans (Nat.le_of_ble_eq_true rfl) hRs)⟩) hS (fun q _ h => hFc q h) hFc (fun r_54 M_55 t H_53 locs ht hvm hw hB hz1 hk1 hS => ?_)
            have hp_56 := hw
            obtain ⟨hP1, hK1, hD1⟩ := hB
            rw [ht] at hP1
            obtain ⟨hP, hD⟩ := va_joinQ (X := [(xa, (b11_1 x0 (nI x1) x2 (nI x3) x4 x5 x6 x7 x8 x9 x10))]) (cx := [(xa, (b11_1 x0 (nI x1) x2 (nI x3) x4 x5 x6 x7 x8 x9 x10))]) (wr := []) (w1 := [(xa, (b11_1 x0 (nI x1) x2 (nI x3) x4 x5 x6 x7 x8 0 (-1)))]) (pl := va_pl L M) hP hD [0] [] rfl rfl (by decide) (by decide) hk1 hFc hP1 hD1
            have hP : va_P D vwCl ([(xa, (b11_1 x0 (nI x1) x2 (nI x3) x4 x5 x6 x7 x8 0 (-1)))] ++ va_pl L M) H_53 := hP
            have hD : va_D A ([(xa, (b11_1 x0 (nI x1) x2 (nI x3) x4 x5 x6 x7 x8 0 (-1)))] ++ va_pl L M) := hD
            have hq := Eq.symm hp_56
            subst hq
            have hI_57 : (0 : Int) ≤ (k2 : Int32).toInt := inltI rfl rfl c_25
            have hI_58 : (k2 : Int32).toInt < (6 : Int) := inleI rfl rfl c_26
            have hI_59 : (f_30 : Int32).toInt = (0 : Int) := ieqI rfl rfl c_31
            have hA_60 : (cV 9 M bq_34 0).toInt = ((v45_0 : Nat) : Int) := by rw [cV_of hM45 rfl]; exact nI_toInt (by omega)
            have hA_61 : (cV 9 M bq_34 2).toInt = (v45_2 : Int32).toInt := by rw [cV_of hM45 rfl]
            have hA_62 : (cV 9 M bq_34 3).toInt = (v45_3 : Int32).toInt := by rw [cV_of hM45 rfl]
            have hA_63 : (cV 9 M bq_34 4).toInt = (v45_4 : Int32).toInt := by rw [cV_of hM45 rfl]
            have hA_64 : (cV 9 M bq_34 5).toInt = (v45_5 : Int32).toInt := by rw [cV_of hM45 rfl]
            have hA_65 : (cV 9 M bq_34 6).toInt = (v45_6 : Int32).toInt := by rw [cV_of hM45 rfl]
            have hA_66 : (cV 9 M bq_34 7).toInt = (v45_7 : Int32).toInt := by rw [cV_of hM45 rfl]
            have hcs : ((k2 : Int32).toNatClampNeg : Int) = k2.toInt := clT (by omega)
            have hse := hSM.se k2.toNatClampNeg (by omega)
            have h50 : cax M b_5 50 k2.toNatClampNeg = f_30 := by show vLe M b_5 k2.toNatClampNeg = _; unfold vLe; rw [rA_of (j := 6) hM11 rfl, IFc_of hM29, ef_30]
            have h50i := congrArg Int32.toInt h50
            have hsq : 0 ≤ (SY k1.toNatClampNeg 9 k2.toNatClampNeg).toInt := by rcases seatOf_or hse.1 with q9 | q9 <;> omega
            have hs7 : RFc (M (rA 2 M b_5 7)) k2.toNatClampNeg = some bq_34 := (by rw [rA_of (j := 7) hM11 rfl, RFc_of hM32]; exact (Eq.symm ho_35))
            obtain ⟨i9, hi9, he9⟩ := hC.oc.hd b_5 hb_10 _ bq_34 (by omega) hs7
            have h51 : (cax M b_5 51 k2.toNatClampNeg).toInt = (i9 : Int) := by rw [lk_he hs7 (by omega), hC.oc.nm b_5 hb_10 i9 bq_34 hi9 he9]; exact nI_toInt (by omega)
            have h22 := congrArg Int32.toInt (lk_te he9 hi9).2.2.2.1
            have hh := hSM.hold1 (s := k2.toNatClampNeg) (by omega) (by omega) h51
            have hhd : ¬ hold (SY k1.toNatClampNeg) k2.toNatClampNeg := fun w9 => absurd (hh.2.mp w9) (by omega)
            have hyes : okHS x1 k1 k2 := by unfold okHS; refine ⟨?_, ?_, ?_, ?_⟩ <;> first | omega | assumption
            rw [hQ]
            exact W.iret (v := 3) hx hb hr (fun t ht hW9 => ⟨⟨3, (), rfl, (by unfold anHo; rw [if_pos hyes, if_neg (by omega), if_neg (by omega), if_neg hhd]), ⟨0, by rw [ht]; exact hP, hD⟩⟩, hS.F ht⟩) hS.2.2 dX11_holds_74
          · have hz := rfl (a := 0)
            refine lv_if_eq (tgt := 70) hx hb dX11_holds_63 (by decide) (fun _ => ?_) (fun c_67 => absurd c_67 (by decide))
            refine lv_iconst (v := 2) hx hb dX11_holds_70 (by decide) ?_
            have hPc := hP.sub (ws' := [(xa, (b11_1 x0 (nI x1) x2 (nI x3) x4 x5 x6 x7 x8 x9 x10))]) [0] rfl
            have hDc := hD.sub (ws' := [(xa, (b11_1 x0 (nI x1) x2 (nI x3) x4 x5 x6 x7 x8 x9 x10))]) [0] (by decide) rfl
            have hKc := hK.sub (tys' := []) [] rfl
            have hFc := va_free (wc := [(xa, (b11_1 x0 (nI x1) x2 (nI x3) x4 x5 x6 x7 x8 x9 x10))]) hD hS hA [0] rfl
            refine va_calli (va_runV (As := [.int 2]) (rest := []) ⟨hx, hb, hml, hown, hg⟩ (k_accept l D H_46.size xa x0 (nI x1) x2 (nI x3) x4 x5 x6 x7 x8 x9 x10 2) (cwV 1 hg (gV wd_356 wd_357 wd_358 wd_3 wd_359) rfl rfl rfl (by decide +kernel) ⟨(Nat.le_trans (Nat.le_of_ble_eq_true rfl) hRf), (Nat.le_trans (Nat.le_of_ble_eq_true rfl) hRl)⟩) ⟨Pr.blind, va_recv hK hP (ci := 11) (q0 := 0) rfl rfl, fun U hU hW => ⟨rfl, Pr.at hPc hKc hDc hN hU hW⟩⟩ rfl rfl hl.1 rfl (lv_room (Nat.le_of_ble_eq_true rfl)) dX11_holds_71 ⟨(Nat.le_trans (Nat.le_of_ble_eq_true rfl) hRc), (Nat.le_trans (Nat.le_of_ble_eq_true rfl) hRs)⟩) hS (fun q _ h => hFc q h) hFc (fun r_69 M_70 t H_68 locs ht hvm hw hB hz1 hk1 hS => ?_)
            have hp_71 := hw
            obtain ⟨hP1, hK1, hD1⟩ := hB
            rw [ht] at hP1
            obtain ⟨hP, hD⟩ := va_joinQ (X := [(xa, (b11_1 x0 (nI x1) x2 (nI x3) x4 x5 x6 x7 x8 x9 x10))]) (cx := [(xa, (b11_1 x0 (nI x1) x2 (nI x3) x4 x5 x6 x7 x8 x9 x10))]) (wr := []) (w1 := [(xa, (b11_1 x0 (nI x1) x2 (nI x3) x4 x5 x6 x7 x8 0 (-1)))]) (pl := va_pl L M) hP hD [0] [] rfl rfl (by decide) (by decide) hk1 hFc hP1 hD1
            have hP : va_P D vwCl ([(xa, (b11_1 x0 (nI x1) x2 (nI x3) x4 x5 x6 x7 x8 0 (-1)))] ++ va_pl L M) H_68 := hP
            have hD : va_D A ([(xa, (b11_1 x0 (nI x1) x2 (nI x3) x4 x5 x6 x7 x8 0 (-1)))] ++ va_pl L M) := hD
            have hq := Eq.symm hp_71
            subst hq
            have hI_72 : (0 : Int) ≤ (k2 : Int32).toInt := inltI rfl rfl c_25
            have hI_73 : (k2 : Int32).toInt < (6 : Int) := inleI rfl rfl c_26
            have hI_74 : (f_30 : Int32).toInt = (0 : Int) := ieqI rfl rfl c_31
            have hA_75 : (cV 9 M bq_34 0).toInt = ((v45_0 : Nat) : Int) := by rw [cV_of hM45 rfl]; exact nI_toInt (by omega)
            have hA_76 : (cV 9 M bq_34 2).toInt = (v45_2 : Int32).toInt := by rw [cV_of hM45 rfl]
            have hA_77 : (cV 9 M bq_34 3).toInt = (v45_3 : Int32).toInt := by rw [cV_of hM45 rfl]
            have hA_78 : (cV 9 M bq_34 4).toInt = (v45_4 : Int32).toInt := by rw [cV_of hM45 rfl]
            have hA_79 : (cV 9 M bq_34 5).toInt = (v45_5 : Int32).toInt := by rw [cV_of hM45 rfl]
            have hA_80 : (cV 9 M bq_34 6).toInt = (v45_6 : Int32).toInt := by rw [cV_of hM45 rfl]
            have hA_81 : (cV 9 M bq_34 7).toInt = (v45_7 : Int32).toInt := by rw [cV_of hM45 rfl]
            have hcs : ((k2 : Int32).toNatClampNeg : Int) = k2.toInt := clT (by omega)
            have hse := hSM.se k2.toNatClampNeg (by omega)
            have h50 : cax M b_5 50 k2.toNatClampNeg = f_30 := by show vLe M b_5 k2.toNatClampNeg = _; unfold vLe; rw [rA_of (j := 6) hM11 rfl, IFc_of hM29, ef_30]
            have h50i := congrArg Int32.toInt h50
            have hsq : 0 ≤ (SY k1.toNatClampNeg 9 k2.toNatClampNeg).toInt := by rcases seatOf_or hse.1 with q9 | q9 <;> omega
            have hs7 : RFc (M (rA 2 M b_5 7)) k2.toNatClampNeg = some bq_34 := (by rw [rA_of (j := 7) hM11 rfl, RFc_of hM32]; exact (Eq.symm ho_35))
            obtain ⟨i9, hi9, he9⟩ := hC.oc.hd b_5 hb_10 _ bq_34 (by omega) hs7
            have h51 : (cax M b_5 51 k2.toNatClampNeg).toInt = (i9 : Int) := by rw [lk_he hs7 (by omega), hC.oc.nm b_5 hb_10 i9 bq_34 hi9 he9]; exact nI_toInt (by omega)
            have h22 := congrArg Int32.toInt (lk_te he9 hi9).2.2.2.1
            have hh := hSM.hold1 (s := k2.toNatClampNeg) (by omega) (by omega) h51
            have hhd :  hold (SY k1.toNatClampNeg) k2.toNatClampNeg := hh.2.mpr (by omega)
            have hyes : okHS x1 k1 k2 := by unfold okHS; refine ⟨?_, ?_, ?_, ?_⟩ <;> first | omega | assumption
            rw [hQ]
            exact W.iret (v := 2) hx hb hr (fun t ht hW9 => ⟨⟨2, (), rfl, (by unfold anHo; rw [if_pos hyes, if_neg (by omega), if_neg (by omega), if_pos hhd]), ⟨0, by rw [ht]; exact hP, hD⟩⟩, hS.F ht⟩) hS.2.2 dX11_holds_74
      · have hz := rfl (a := 0)
        refine lv_aload_n hx hb dX11_holds_32 rfl (lv_at hl 1 rfl) ?_
        refine lv_iconst (v := 1) hx hb dX11_holds_33 (by decide) ?_
        have hPc := hP.sub (ws' := [(xa, (b11_1 x0 (nI x1) x2 (nI x3) x4 x5 x6 x7 x8 x9 x10))]) [0] rfl
        have hDc := hD.sub (ws' := [(xa, (b11_1 x0 (nI x1) x2 (nI x3) x4 x5 x6 x7 x8 x9 x10))]) [0] (by decide) rfl
        have hKc := hK.sub (tys' := []) [] rfl
        have hFc := va_free (wc := [(xa, (b11_1 x0 (nI x1) x2 (nI x3) x4 x5 x6 x7 x8 x9 x10))]) hD hS hA [0] rfl
        refine va_calli (va_runV (As := [.int 1]) (rest := []) ⟨hx, hb, hml, hown, hg⟩ (k_accept l D H_20.size xa x0 (nI x1) x2 (nI x3) x4 x5 x6 x7 x8 x9 x10 1) (cwV 1 hg (gV wd_356 wd_357 wd_358 wd_3 wd_359) rfl rfl rfl (by decide +kernel) ⟨(Nat.le_trans (Nat.le_of_ble_eq_true rfl) hRf), (Nat.le_trans (Nat.le_of_ble_eq_true rfl) hRl)⟩) ⟨Pr.blind, va_recv hK hP (ci := 11) (q0 := 0) rfl rfl, fun U hU hW => ⟨rfl, Pr.at hPc hKc hDc hN hU hW⟩⟩ rfl rfl hl.1 rfl (lv_room (Nat.le_of_ble_eq_true rfl)) dX11_holds_34 ⟨(Nat.le_trans (Nat.le_of_ble_eq_true rfl) hRc), (Nat.le_trans (Nat.le_of_ble_eq_true rfl) hRs)⟩) hS (fun q _ h => hFc q h) hFc (fun r_83 M_84 t H_82 locs ht hvm hw hB hz1 hk1 hS => ?_)
        have hp_85 := hw
        obtain ⟨hP1, hK1, hD1⟩ := hB
        rw [ht] at hP1
        obtain ⟨hP, hD⟩ := va_joinQ (X := [(xa, (b11_1 x0 (nI x1) x2 (nI x3) x4 x5 x6 x7 x8 x9 x10))]) (cx := [(xa, (b11_1 x0 (nI x1) x2 (nI x3) x4 x5 x6 x7 x8 x9 x10))]) (wr := []) (w1 := [(xa, (b11_1 x0 (nI x1) x2 (nI x3) x4 x5 x6 x7 x8 0 (-1)))]) (pl := va_pl L M) hP hD [0] [] rfl rfl (by decide) (by decide) hk1 hFc hP1 hD1
        have hP : va_P D vwCl ([(xa, (b11_1 x0 (nI x1) x2 (nI x3) x4 x5 x6 x7 x8 0 (-1)))] ++ va_pl L M) H_82 := hP
        have hD : va_D A ([(xa, (b11_1 x0 (nI x1) x2 (nI x3) x4 x5 x6 x7 x8 0 (-1)))] ++ va_pl L M) := hD
        have hq := Eq.symm hp_85
        subst hq
        have hI_86 : (0 : Int) ≤ (k2 : Int32).toInt := inltI rfl rfl c_25
        have hI_87 : (k2 : Int32).toInt < (6 : Int) := inleI rfl rfl c_26
        have hI_88 : (f_30 : Int32).toInt ≠ (0 : Int) := ineI rfl rfl c_31
        have hcs : ((k2 : Int32).toNatClampNeg : Int) = k2.toInt := clT (by omega)
        have hse := hSM.se k2.toNatClampNeg (by omega)
        have h50 : cax M b_5 50 k2.toNatClampNeg = f_30 := by show vLe M b_5 k2.toNatClampNeg = _; unfold vLe; rw [rA_of (j := 6) hM11 rfl, IFc_of hM29, ef_30]
        have h50i := congrArg Int32.toInt h50
        have hlt := hSM.letd (s := k2.toNatClampNeg) (by omega) (by omega)
        have hyes : okHS x1 k1 k2 := by unfold okHS; refine ⟨?_, ?_, ?_, ?_⟩ <;> first | omega | assumption
        rw [hQ]
        exact W.iret (v := 1) hx hb hr (fun t ht hW9 => ⟨⟨1, (), rfl, (by unfold anHo; rw [if_pos hyes, if_neg (by omega), if_pos (by omega)]), ⟨0, by rw [ht]; exact hP, hD⟩⟩, hS.F ht⟩) hS.2.2 dX11_holds_37
    · have hz := rfl (a := 0)
      refine lv_if_ne (tgt := 23) hx hb dX11_holds_14 (by decide) (fun c_89 => absurd c_89 (by decide)) (fun _ => ?_)
      refine lv_aload_n hx hb dX11_holds_17 rfl (lv_at hl 1 rfl) ?_
      refine lv_iconst (v := 1) hx hb dX11_holds_18 (by decide) ?_
      have hPc := hP.sub (ws' := [(xa, (b11_1 x0 (nI x1) x2 (nI x3) x4 x5 x6 x7 x8 x9 x10))]) [0] rfl
      have hDc := hD.sub (ws' := [(xa, (b11_1 x0 (nI x1) x2 (nI x3) x4 x5 x6 x7 x8 x9 x10))]) [0] (by decide) rfl
      have hKc := hK.sub (tys' := []) [] rfl
      have hFc := va_free (wc := [(xa, (b11_1 x0 (nI x1) x2 (nI x3) x4 x5 x6 x7 x8 x9 x10))]) hD hS hA [0] rfl
      refine va_calli (va_runV (As := [.int 1]) (rest := []) ⟨hx, hb, hml, hown, hg⟩ (k_refuse l D H_20.size xa x0 (nI x1) x2 (nI x3) x4 x5 x6 x7 x8 x9 x10 1) (cwV 1 hg (gV wd_344 wd_345 wd_346 wd_3 wd_347) rfl rfl rfl (by decide +kernel) ⟨(Nat.le_trans (Nat.le_of_ble_eq_true rfl) hRf), (Nat.le_trans (Nat.le_of_ble_eq_true rfl) hRl)⟩) ⟨Pr.blind, va_recv hK hP (ci := 11) (q0 := 0) rfl rfl, fun U hU hW => ⟨rfl, Pr.at hPc hKc hDc hN hU hW⟩⟩ rfl rfl hl.1 rfl (lv_room (Nat.le_of_ble_eq_true rfl)) dX11_holds_19 ⟨(Nat.le_trans (Nat.le_of_ble_eq_true rfl) hRc), (Nat.le_trans (Nat.le_of_ble_eq_true rfl) hRs)⟩) hS (fun q _ h => hFc q h) hFc (fun r_91 M_92 t H_90 locs ht hvm hw hB hz1 hk1 hS => ?_)
      have hp_93 := hw
      obtain ⟨hP1, hK1, hD1⟩ := hB
      rw [ht] at hP1
      obtain ⟨hP, hD⟩ := va_joinQ (X := [(xa, (b11_1 x0 (nI x1) x2 (nI x3) x4 x5 x6 x7 x8 x9 x10))]) (cx := [(xa, (b11_1 x0 (nI x1) x2 (nI x3) x4 x5 x6 x7 x8 x9 x10))]) (wr := []) (w1 := [(xa, (b11_1 x0 (nI x1) x2 (nI x3) x4 x5 x6 x7 x8 1 (-1)))]) (pl := va_pl L M) hP hD [0] [] rfl rfl (by decide) (by decide) hk1 hFc hP1 hD1
      have hP : va_P D vwCl ([(xa, (b11_1 x0 (nI x1) x2 (nI x3) x4 x5 x6 x7 x8 1 (-1)))] ++ va_pl L M) H_90 := hP
      have hD : va_D A ([(xa, (b11_1 x0 (nI x1) x2 (nI x3) x4 x5 x6 x7 x8 1 (-1)))] ++ va_pl L M) := hD
      have hq := Eq.symm hp_93
      subst hq
      have hno : ¬ okHS x1 k1 k2 := fun q9 => by unfold okHS at q9; first | omega | (obtain ⟨_, _, _, _⟩ := q9; first | omega | contradiction)
      rw [hQ]
      exact W.iret (v := (-1)) hx hb hr (fun t ht hW9 => ⟨⟨(-1), (), rfl, (by unfold anHo; rw [if_neg hno]), ⟨1, by rw [ht]; exact hP, hD⟩⟩, hS.F ht⟩) hS.2.2 dX11_holds_22
