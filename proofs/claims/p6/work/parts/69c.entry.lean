

/-- what a leaf tells of its entry k -/
def enV (M : Hp) (o : Nat) (k : Int32) : Int64 := if 0 ≤ k.toInt ∧ k.toInt < (cV 3 M o 2).toInt ∧ k.toInt < (ALc (M (rA 3 M o 1)) : Int) then (IFc (M (rA 3 M o 1)) k.toNatClampNeg).toInt64 else 0
def enS (X : Nat → Int) (Y : Nat → Nat → Int32) (d : Nat) (k : Int32) : Int64 := if 0 ≤ k.toInt ∧ k.toInt < (Y 3 d).toInt then Int64.ofInt (X (lKey 10 (6 * d + k.toNatClampNeg))) else 0
def okEy (n : Nat) (h d : Int32) : Prop := okH n h ∧ 0 ≤ d.toInt ∧ d.toInt < 1000
noncomputable def anEy (n : Nat) (SX : Nat → Nat → Int) (SY : Nat → Nat → Nat → Int32) (h d i : Int32) : Int64 := @ite _ (okEy n h d) (Classical.propDecidable _) (enS (SX h.toNatClampNeg) (SY h.toNatClampNeg) d.toNatClampNeg i) 0
theorem i64E (v : Int32) : v.toInt64 = Int64.ofInt v.toInt := by
  rw [← Int32.toInt_toInt64 v, Int64.ofInt_toInt]
theorem en_0 {X : Nat → Int} {Y : Nat → Nat → Int32} {d : Nat} {k : Int32} (h : Y 3 d = 0) : enS X Y d k = 0 := by
  unfold enS
  rw [h, show (0 : Int32).toInt = 0 from rfl]
  exact if_neg (fun w => by omega)
theorem en_S {k : Nat} {T : Int} {np : Nat} {PK PT : Nat → Int32} {M : Hp} {b : Nat} {X : Nat → Int} {Y : Nat → Nat → Int32} {l d : Nat} {w : Int32} (h : SIM k T np PK PT (cfx M b) (cax M b) X Y) (hA : HA (Y 2) (Y 3)) (hs : RFc (M (rA 2 M b 12)) d = some l) (hd : d < 1000) (hb : ALc (M (rA 3 M l 1)) < 2147483648) : enV M l w = enS X Y d w := by
  have lk := lk_lf hs hd
  have pl := h.pl d hd
  have e3 : (Y 3 d).toInt = (cV 3 M l 2).toInt := by rw [← pl.2.1, lk.2.1]
  have e2 : (Y 2 d).toInt = (ALc (M (rA 3 M l 1)) : Int) := by
    rw [← pl.1, lk.1]
    exact nI_toInt hb
  unfold enV enS
  by_cases q : 0 ≤ w.toInt ∧ w.toInt < (Y 3 d).toInt
  · have c1 : (w.toNatClampNeg : Int) = w.toInt := clT q.1
    have a := (hA d hd).resolve_left (fun z => by
      rw [z, show (-1 : Int32).toInt = -1 from rfl] at e2
      omega)
    have et := h.ex.et d hd w.toNatClampNeg (by omega)
    have e60 : cax M b 60 (1000 * w.toNatClampNeg + d) = IFc (M (rA 3 M l 1)) w.toNatClampNeg := by
      show vEt M b (1000 * w.toNatClampNeg + d) = _
      unfold vEt
      rw [show (1000 * w.toNatClampNeg + d) % 1000 = d by omega, show (1000 * w.toNatClampNeg + d) / 1000 = w.toNatClampNeg by omega, hs]
      rfl
    rw [if_pos q, if_pos ⟨q.1, by omega, by omega⟩, ← et, e60]
    exact i64E _
  · rw [if_neg q, if_neg (fun z => q ⟨z.1, by omega⟩)]
set_option maxHeartbeats 4000000 in
set_option maxRecDepth 100000 in
theorem e_entryAt (l : Launch) (D : va_G) (cy : Nat → ClassId) (K : Kp) (L : List Nat) (M : Hp) (sz : Nat) (oa : Nat) (k1 : Int32) (hW : WOK cy K L M) (ia : isk K L oa 3 0) : Met l yX3_entryAt (wsM yX3_entryAt cX3_entryAt 2 (some .long)) ({ frames := 0, cells := 0, slots := 0, locals := 0 }) (va_Pc [.ref oa, .int k1] (PG D cy [] L M sz)) (va_Ql (fun (r : Int64) (_ : Unit) => (r = (enV M oa k1))) (fun _ t => PQ D [] L M (va_A ([] ++ va_pl L M) sz) t) (va_A ([] ++ va_pl L M) sz)) 0 0 (va_A ([] ++ va_pl L M) sz) := by
  refine Met.ofW (cc := cX3_entryAt) (maxL := 2) (ret := (some .long)) (by decide) rfl ?_
  intro p e s m args below meth c s₁ B hml hv
  obtain ⟨rfl, hsz, hP, hK, hD0, hN⟩ := hv
  have hx := B.exec
  have hb := B.bytes
  have hr := B.returns
  have hts := atoms_spec (ws := (wsM yX3_entryAt cX3_entryAt 2 (some .long))) B.pre
  have hg : ∀ w ∈ lw_good, w.before _ s = true := fun w h => hts w (List.mem_cons_of_mem _ h)
  have hown : s.vm.findClass RX3 = some m.cls := findClass_of_methodNamed B.named
  have hlocks := B.notSynchronized
  subst hsz
  have hD := hD0.self (sz := s.heap.size)
  generalize hAe : va_A ([] ++ va_pl L M) s.heap.size = A at hD ⊢
  have hA : ∀ q : Nat, s.heap.size ≤ q → A q := fun q h => by rw [← hAe]; exact Or.inr h
  have hS : va_S A s.heap s.heap [] := va_S.rf
  have hl := lv_entry ([.ref oa, .int k1]) (n := 2) (Nat.le_of_ble_eq_true rfl)
  rw [lg_entry_eq]
  generalize (lg_sl ([.ref oa, .int k1]) ++ List.replicate (2 - (lg_sl ([.ref oa, .int k1])).length) Slot.unset).toArray = ls at hl ⊢
  refine W.nameQ (fun Q hQ => ?_)
  refine W.nameR (fun R hR => ?_)
  have hRf : 0 ≤ R.frames := by rw [hR]; exact Nat.le_of_ble_eq_true rfl
  have hRl : 0 ≤ R.locals := by rw [hR]; exact Nat.le_of_ble_eq_true rfl
  have hRc : 0 ≤ R.cells := by rw [hR]; exact Nat.le_of_ble_eq_true rfl
  have hRs : 0 ≤ R.slots := by rw [hR]; exact Nat.le_of_ble_eq_true rfl
  have hl : lv_has ls 2 [(0, .ref oa), (1, .int k1)] := hl
  refine lv_iload_n hx hb dX3_entryAt_0 rfl (lv_at hl 1 rfl) ?_
  refine lv_if_lt (tgt := 31) hx hb dX3_entryAt_1 (by decide) (fun c_1 => ?_) (fun c_1 => ?_)
  · have hz := rfl (a := 0)
    refine lv_lconst (v := 0) hx hb dX3_entryAt_31 (by decide) ?_
    have hI_2 : (k1 : Int32).toInt < (0 : Int) := iltI rfl rfl c_1
    rw [hQ]
    exact W.lret (v := 0) hx hb hr (fun t ht hW9 => ⟨⟨0, (), rfl, (by unfold enV; rw [if_neg (fun w9 => by have h1 := w9.1; have h2 := w9.2.1; have h3 := w9.2.2; omega)]), ⟨by rw [ht]; exact hP, hD⟩⟩, hS.F ht⟩) hS.2.2 dX3_entryAt_32
  · have hz := rfl (a := 0)
    refine lv_iload_n hx hb dX3_entryAt_4 rfl (lv_at hl 1 rfl) ?_
    refine lv_aload_n hx hb dX3_entryAt_5 rfl (lv_at hl 0 rfl) ?_
    obtain ⟨n3, v3_0, v3_1, v3_2, hM3, h3_1, h3_2, y3_0⟩ := hW.open_3 ia
    refine pg_get (D := D) (ci := 3) (v := .int (nI v3_2)) (C := RX3) (T := TX3) (N := 3) hx hb hg inG3 hown hK hP ia.1 hM3 rfl 2 (by decide) (hg _ wd_33) (fun _ h9 => h9) rfl dX3_entryAt_6 ?_
    refine lv_icmp_ge (tgt := 31) hx hb dX3_entryAt_9 (by decide) (fun c_4 => ?_) (fun c_4 => ?_)
    · have hz := rfl (a := 0)
      refine lv_lconst (v := 0) hx hb dX3_entryAt_31 (by decide) ?_
      have hI_5 : (0 : Int) ≤ (k1 : Int32).toInt := inltI rfl rfl c_1
      have hI_6 : ((v3_2 : Nat) : Int) ≤ (k1 : Int32).toInt := ileI (nI_toInt (by omega)) rfl c_4
      have hA_7 : (cV 3 M oa 0).toInt = (v3_0 : Int32).toInt := by rw [cV_of hM3 rfl]
      have hA_8 : (cV 3 M oa 2).toInt = ((v3_2 : Nat) : Int) := by rw [cV_of hM3 rfl]; exact nI_toInt (by omega)
      rw [hQ]
      exact W.lret (v := 0) hx hb hr (fun t ht hW9 => ⟨⟨0, (), rfl, (by unfold enV; rw [if_neg (fun w9 => by have h1 := w9.1; have h2 := w9.2.1; have h3 := w9.2.2; omega)]), ⟨by rw [ht]; exact hP, hD⟩⟩, hS.F ht⟩) hS.2.2 dX3_entryAt_32
    · have hz := rfl (a := 0)
      refine lv_iload_n hx hb dX3_entryAt_12 rfl (lv_at hl 1 rfl) ?_
      refine lv_aload_n hx hb dX3_entryAt_13 rfl (lv_at hl 0 rfl) ?_
      refine pg_get (D := D) (ci := 3) (v := .ref v3_1) (C := RX3) (T := TX3) (N := 3) hx hb hg inG3 hown hK hP ia.1 hM3 rfl 1 (by decide) (hg _ wd_34) (fun _ h9 => h9) rfl dX3_entryAt_14 ?_
      obtain ⟨f9, hM9⟩ := hW.open_53 h3_1
      refine pg_alen (v := (nI n3)) hx hb hK hP h3_1.1 0 hM9 rfl (by rfl) dX3_entryAt_17 ?_
      refine lv_icmp_ge (tgt := 31) hx hb dX3_entryAt_18 (by decide) (fun c_10 => ?_) (fun c_10 => ?_)
      · have hz := rfl (a := 0)
        refine lv_lconst (v := 0) hx hb dX3_entryAt_31 (by decide) ?_
        have hI_11 : (0 : Int) ≤ (k1 : Int32).toInt := inltI rfl rfl c_1
        have hI_12 : (k1 : Int32).toInt < ((v3_2 : Nat) : Int) := inleI (nI_toInt (by omega)) rfl c_4
        have hI_13 : ((n3 : Nat) : Int) ≤ (k1 : Int32).toInt := ileI (nI_toInt (by omega)) rfl c_10
        have hA_14 : (cV 3 M oa 0).toInt = (v3_0 : Int32).toInt := by rw [cV_of hM3 rfl]
        have hA_15 : (ALc (M (rA 3 M oa 1)) : Int) = ((n3 : Nat) : Int) := by rw [rA_of hM3 rfl, hM9]; rfl
        have hA_16 : (cV 3 M oa 2).toInt = ((v3_2 : Nat) : Int) := by rw [cV_of hM3 rfl]; exact nI_toInt (by omega)
        rw [hQ]
        exact W.lret (v := 0) hx hb hr (fun t ht hW9 => ⟨⟨0, (), rfl, (by unfold enV; rw [if_neg (fun w9 => by have h1 := w9.1; have h2 := w9.2.1; have h3 := w9.2.2; omega)]), ⟨by rw [ht]; exact hP, hD⟩⟩, hS.F ht⟩) hS.2.2 dX3_entryAt_32
      · have hz := rfl (a := 0)
        refine lv_aload_n hx hb dX3_entryAt_21 rfl (lv_at hl 0 rfl) ?_
        refine pg_get (D := D) (ci := 3) (v := .ref v3_1) (C := RX3) (T := TX3) (N := 3) hx hb hg inG3 hown hK hP ia.1 hM3 rfl 1 (by decide) (hg _ wd_34) (fun _ h9 => h9) rfl dX3_entryAt_22 ?_
        refine lv_iload_n hx hb dX3_entryAt_25 rfl (lv_at hl 1 rfl) ?_
        refine pg_iald hx hb hK hP h3_1.1 0 hM9 rfl (inb k1 n3 (by omega) c_1 c_10) dX3_entryAt_26 ?_
        refine lv_topi (fun f_17 ef_17 => ?_)
        refine lv_i2l hx hb dX3_entryAt_27 rfl ?_
        refine lv_topl (fun f_18 ef_18 => ?_)
        refine lv_goto (tgt := 32) hx hb dX3_entryAt_28 (by decide) ?_
        have hI_19 : (0 : Int) ≤ (k1 : Int32).toInt := inltI rfl rfl c_1
        have hI_20 : (k1 : Int32).toInt < ((v3_2 : Nat) : Int) := inleI (nI_toInt (by omega)) rfl c_4
        have hI_21 : (k1 : Int32).toInt < ((n3 : Nat) : Int) := inleI (nI_toInt (by omega)) rfl c_10
        have hA_22 : (cV 3 M oa 0).toInt = (v3_0 : Int32).toInt := by rw [cV_of hM3 rfl]
        have hA_23 : (ALc (M (rA 3 M oa 1)) : Int) = ((n3 : Nat) : Int) := by rw [rA_of hM3 rfl, hM9]; rfl
        have hA_24 : (cV 3 M oa 2).toInt = ((v3_2 : Nat) : Int) := by rw [cV_of hM3 rfl]; exact nI_toInt (by omega)
        rw [hQ]
        exact W.lret (v := f_18) hx hb hr (fun t ht hW9 => ⟨⟨f_18, (), rfl, (by unfold enV; rw [if_pos (by refine ⟨?_, ?_, ?_⟩ <;> omega), rA_of (j := 1) hM3 rfl, IFc_of hM9, ef_18, ef_17]), ⟨by rw [ht]; exact hP, hD⟩⟩, hS.F ht⟩) hS.2.2 dX3_entryAt_32
set_option maxHeartbeats 4000000 in
set_option maxRecDepth 100000 in
theorem x_entry (l : Launch) (D : va_G) (cy : Nat → ClassId) (K : Kp) (L : List Nat) (M : Hp) (sz : Nat) (xa : Nat) (x0 : Nat) (x1 : Nat) (x2 : Nat) (x3 : Nat) (x4 : Nat) (x5 : Nat) (x6 : Nat) (x7 : Int32) (x8 : Nat) (x9 : Int32) (x10 : Int32) (k1 : Int32) (k2 : Int32) (k3 : Int32) (Bo : Nat → Nat × Nat) (T : Int) (PK : Nat → Int32) (PT : Nat → Int32) (SX : Nat → Nat → Int) (SY : Nat → Nat → Nat → Int32) (hW : WOK cy K L M) (i0 : isk K L x0 17 8) (b1 : x1 ≤ 8) (i2 : isk K L x2 19 40) (b3 : x3 ≤ 40) (i4 : isk K L x4 7 0) (i5 : isk K L x5 5 0) (i6 : isk K L x6 60 24) (i8 : isk K L x8 73 25) (hC : CX Bo K L x0 x1 T x3 PK PT SX SY M) (hSV : ∀ k, k < x1 → SV (SX k) (SY k)) (hHI : ∀ k, k < x1 → HI (SX k) (SY k)) (hT : (0 ≤ T ∧ T ≤ 900000)) : Met l yX11_entry (wsM yX11_entry cX11_entry 6 (some .long)) ({ frames := 2, cells := 0, slots := 0, locals := 41 }) (va_Pc [.ref xa, .int k1, .int k2, .int k3] (PG D cy [(xa, (b11_1 x0 (nI x1) x2 (nI x3) x4 x5 x6 x7 x8 x9 x10))] L M sz)) (va_Ql (fun (r : Int64) (_ : Unit) => (r = (anEy x1 SX SY k1 k2 k3))) (fun _ t => PQ D [(xa, (b11_1 x0 (nI x1) x2 (nI x3) x4 x5 x6 x7 x8 x9 x10))] L M (va_A ([(xa, (b11_1 x0 (nI x1) x2 (nI x3) x4 x5 x6 x7 x8 x9 x10))] ++ va_pl L M) sz) t) (va_A ([(xa, (b11_1 x0 (nI x1) x2 (nI x3) x4 x5 x6 x7 x8 x9 x10))] ++ va_pl L M) sz)) 0 0 (va_A ([(xa, (b11_1 x0 (nI x1) x2 (nI x3) x4 x5 x6 x7 x8 x9 x10))] ++ va_pl L M) sz) := by
  refine Met.ofW (cc := cX11_entry) (maxL := 6) (ret := (some .long)) (by decide) rfl ?_
  intro p e s m args below meth c s₁ B hml hv
  obtain ⟨rfl, hsz, hP, hK, hD0, hN⟩ := hv
  have hx := B.exec
  have hb := B.bytes
  have hr := B.returns
  have hts := atoms_spec (ws := (wsM yX11_entry cX11_entry 6 (some .long))) B.pre
  have hg : ∀ w ∈ lw_good, w.before _ s = true := fun w h => hts w (List.mem_cons_of_mem _ h)
  have hown : s.vm.findClass RX11 = some m.cls := findClass_of_methodNamed B.named
  have hlocks := B.notSynchronized
  subst hsz
  have hD := hD0.self (sz := s.heap.size)
  generalize hAe : va_A ([(xa, (b11_1 x0 (nI x1) x2 (nI x3) x4 x5 x6 x7 x8 x9 x10))] ++ va_pl L M) s.heap.size = A at hD ⊢
  have hA : ∀ q : Nat, s.heap.size ≤ q → A q := fun q h => by rw [← hAe]; exact Or.inr h
  have hS : va_S A s.heap s.heap [] := va_S.rf
  have hl := lv_entry ([.ref xa, .int k1, .int k2, .int k3]) (n := 6) (Nat.le_of_ble_eq_true rfl)
  rw [lg_entry_eq]
  generalize (lg_sl ([.ref xa, .int k1, .int k2, .int k3]) ++ List.replicate (6 - (lg_sl ([.ref xa, .int k1, .int k2, .int k3])).length) Slot.unset).toArray = ls at hl ⊢
  refine W.nameQ (fun Q hQ => ?_)
  refine W.nameR (fun R hR => ?_)
  have hRf : 2 ≤ R.frames := by rw [hR]; exact Nat.le_of_ble_eq_true rfl
  have hRl : 41 ≤ R.locals := by rw [hR]; exact Nat.le_of_ble_eq_true rfl
  have hRc : 0 ≤ R.cells := by rw [hR]; exact Nat.le_of_ble_eq_true rfl
  have hRs : 0 ≤ R.slots := by rw [hR]; exact Nat.le_of_ble_eq_true rfl
  have hl : lv_has ls 6 [(0, .ref xa), (1, .int k1), (2, .int k2), (3, .int k3)] := hl
  have hW0 := hW
  refine lv_aload_n hx hb dX11_entry_0 rfl (lv_at hl 0 rfl) ?_
  refine lv_iload_n hx hb dX11_entry_1 rfl (lv_at hl 1 rfl) ?_
  have hPc : va_P D vwCl ([(xa, (b11_1 x0 (nI x1) x2 (nI x3) x4 x5 x6 x7 x8 x9 x10))] ++ va_pl L M) s.heap := hP
  have hDc : va_D A ([(xa, (b11_1 x0 (nI x1) x2 (nI x3) x4 x5 x6 x7 x8 x9 x10))] ++ va_pl L M) := hD
  have hFc : ∀ q, va_A ([(xa, (b11_1 x0 (nI x1) x2 (nI x3) x4 x5 x6 x7 x8 x9 x10))] ++ va_pl L M) s.heap.size q → A q := pg_free hDc hS hA
  refine va_callq (va_runV (As := [.int k1]) (rest := []) ⟨hx, hb, hml, hown, hg⟩ (e_houseAt l D cy K L M s.heap.size xa x0 x1 x2 x3 x4 x5 x6 x7 x8 x9 x10 k1 Bo T PK PT SX SY  hW i0 b1 i2 b3 i4 i5 i6 i8 hC) (cwV 1 hg (gV wd_340 wd_341 wd_342 wd_3 wd_343) rfl rfl rfl (by decide +kernel) ⟨(Nat.le_trans (Nat.le_of_ble_eq_true rfl) hRf), (Nat.le_trans (Nat.le_of_ble_eq_true rfl) hRl)⟩) ⟨PG.blind, va_recv hK hP (ci := 11) (q0 := 0) rfl rfl, fun U hU hW => ⟨rfl, PG.at hPc hK hDc hN hU hW⟩⟩ rfl rfl hl.1 rfl (lv_room (Nat.le_of_ble_eq_true rfl)) dX11_entry_2 ⟨(Nat.le_trans (Nat.le_of_ble_eq_true rfl) hRc), (Nat.le_trans (Nat.le_of_ble_eq_true rfl) hRs)⟩) hS (fun q _ h => hFc q h) hFc (fun r_2 M_3 t H_1 locs ht hvm hw hB hz1 hk1 hS => ?_)
  have hp_4 := hw
  obtain ⟨hP1, hD1⟩ := hB
  rw [ht] at hP1
  have hP : va_P D vwCl ([(xa, (b11_1 x0 (nI x1) x2 (nI x3) x4 x5 x6 x7 x8 x9 x10))] ++ va_pl L M) H_1 := hP1
  have hD : va_D A ([(xa, (b11_1 x0 (nI x1) x2 (nI x3) x4 x5 x6 x7 x8 x9 x10))] ++ va_pl L M) := hD1.mono hFc
  obtain ⟨hp_4, hqx⟩ := hp_4
  rcases r_2 with _ | b_5
  · have hz := rfl (a := 0)
    refine lv_astoreN (lv' := [(4, .null), (0, .ref xa), (1, .int k1), (2, .int k2), (3, .int k3)]) hx hb dX11_entry_5 hl (by decide) rfl (fun ls hl => ?_)
    refine lv_aloadN hx hb dX11_entry_7 (lv_at hl 0 rfl) ?_
    refine lv_ifnonnullN hx hb dX11_entry_9 ?_
    refine lv_null hx hb dX11_entry_12 ?_
    refine lv_goto (tgt := 22) hx hb dX11_entry_13 (by decide) ?_
    refine lv_astoreN (lv' := [(5, .null), (4, .null), (0, .ref xa), (1, .int k1), (2, .int k2), (3, .int k3)]) hx hb dX11_entry_22 hl (by decide) rfl (fun ls hl => ?_)
    refine lv_aloadN hx hb dX11_entry_24 (lv_at hl 0 rfl) ?_
    refine lv_ifnonnullN hx hb dX11_entry_26 ?_
    refine lv_lconst (v := 0) hx hb dX11_entry_29 (by decide) ?_
    refine lv_goto (tgt := 39) hx hb dX11_entry_30 (by decide) ?_
    rw [hQ]
    exact W.lret (v := 0) hx hb hr (fun t ht hW9 => ⟨⟨0, (), rfl, (by unfold anEy; exact (if_neg (fun q9 => hqx.2 rfl q9.1)).symm), ⟨by rw [ht]; exact hP, hD⟩⟩, hS.F ht⟩) hS.2.2 dX11_entry_39
  · have hb_6 := hp_4 b_5 rfl
    refine lv_astore (lv' := [(4, .ref b_5), (0, .ref xa), (1, .int k1), (2, .int k2), (3, .int k3)]) hx hb dX11_entry_5 hl (by decide) rfl (fun ls hl => ?_)
    obtain ⟨hr9, hb9⟩ := hqx.1 b_5 rfl
    have hck : ((k1 : Int32).toNatClampNeg : Int) = (k1 : Int32).toInt := clT (by omega)
    have hkn : (k1 : Int32).toNatClampNeg < x1 := by omega
    have hSM := hC.at hkn hb9
    have hSVk := hSV (k1 : Int32).toNatClampNeg hkn
    have hHIk := hHI (k1 : Int32).toNatClampNeg hkn
    have hV : VC Bo K L M M b_5 (cfx M b_5) (cax M b_5) := VC.rf b_5 hC.oc
    obtain ⟨v7_0, v7_1, v7_2, v7_3, v7_4, v7_5, v7_6, v7_7, v7_8, v7_9, v7_10, v7_11, v7_12, v7_13, v7_14, v7_15, v7_16, v7_17, v7_18, v7_19, hM7, h7_3, h7_4, h7_5, h7_6, h7_7, h7_8, h7_9, h7_10, h7_11, h7_12, h7_13, h7_16, h7_17, h7_18, h7_19⟩ := hW.open_2 hb_6
    have hA_8 : (cV 2 M b_5 0).toInt = (v7_0 : Int32).toInt := by rw [cV_of hM7 rfl]
    have hA_9 : (cV 2 M b_5 1).toInt = (v7_1 : Int32).toInt := by rw [cV_of hM7 rfl]
    have hA_10 : (cV 2 M b_5 2).toInt = (v7_2 : Int32).toInt := by rw [cV_of hM7 rfl]
    have hA_11 : (cV 2 M b_5 4).toInt = ((v7_4 : Nat) : Int) := by rw [cV_of hM7 rfl]; exact nI_toInt (by omega)
    have hA_12 : (cV 2 M b_5 5).toInt = ((v7_5 : Nat) : Int) := by rw [cV_of hM7 rfl]; exact nI_toInt (by omega)
    have hA_13 : (cV 2 M b_5 9).toInt = ((v7_9 : Nat) : Int) := by rw [cV_of hM7 rfl]; exact nI_toInt (by omega)
    have hA_14 : (cV 2 M b_5 11).toInt = ((v7_11 : Nat) : Int) := by rw [cV_of hM7 rfl]; exact nI_toInt (by omega)
    have hA_15 : (cV 2 M b_5 15).toInt = (v7_15 : Int32).toInt := by rw [cV_of hM7 rfl]
    have hq0 : (cV 2 M b_5 1).toInt = SX (k1 : Int32).toNatClampNeg 0 := hSM.x0
    have hq1 : (cV 2 M b_5 2).toInt = SX (k1 : Int32).toNatClampNeg 1 := hSM.x1
    have hq10 : (cV 2 M b_5 9).toInt = SX (k1 : Int32).toNatClampNeg 10 := hSM.x10
    have hq11 : (cV 2 M b_5 11).toInt = SX (k1 : Int32).toNatClampNeg 11 := hSM.x11
    have hq12 : (cV 2 M b_5 4).toInt = SX (k1 : Int32).toNatClampNeg 12 := hSM.x12
    have hq13 : (cV 2 M b_5 5).toInt = SX (k1 : Int32).toNatClampNeg 13 := hSM.x13
    have hq14 : (cV 1 M v7_16 3).toInt = SX (k1 : Int32).toNatClampNeg 14 := by have h9 := hSM.x14; rw [← h9]; show _ = (cV 1 M (rA 2 M b_5 16) 3).toInt; rw [rA_of (j := 16) hM7 rfl]
    have hq15 : (cV 1 M v7_17 3).toInt = SX (k1 : Int32).toNatClampNeg 15 := by have h9 := hSM.x15; rw [← h9]; show _ = (cV 1 M (rA 2 M b_5 17) 3).toInt; rw [rA_of (j := 17) hM7 rfl]
    have hq16 : (cV 10 M v7_18 2).toInt = SX (k1 : Int32).toNatClampNeg 16 := by have h9 := hSM.x16; rw [← h9]; show _ = (cV 10 M (rA 2 M b_5 18) 2).toInt; rw [rA_of (j := 18) hM7 rfl]
    have hq19 : (cV 10 M v7_18 1).toInt = cfx M b_5 19 := by show _ = (cV 10 M (rA 2 M b_5 18) 1).toInt; rw [rA_of (j := 18) hM7 rfl]
    have hun := hSM.un
    have hl16 : (ALc (M (rA 1 M v7_16 1)) : Int) = 120 := by have h9 := hC.oc.l16 hW hb_6; rw [rA_of (j := 16) hM7 rfl] at h9; omega
    have hl17 : (ALc (M (rA 1 M v7_17 1)) : Int) = 20 := by have h9 := hC.oc.l17 hW hb_6; rw [rA_of (j := 17) hM7 rfl] at h9; omega
    have hbd0 := hSVk.b0
    have hbd1 := hSVk.b1
    have hbd10 := hSVk.b10
    have hbd11 := hSVk.b11
    have hbd12 := hSVk.b12
    have hbd13 := hSVk.b13
    have hbd14 := hSVk.b14
    have hbd15 := hSVk.b15
    have hbd16 := hSVk.b16
    have hqx14 : cfx M b_5 14 = SX (k1 : Int32).toNatClampNeg 14 := hSM.x14
    have hqx15 : cfx M b_5 15 = SX (k1 : Int32).toNatClampNeg 15 := hSM.x15
    have hqx16 : cfx M b_5 16 = SX (k1 : Int32).toNatClampNeg 16 := hSM.x16
    refine lv_aload hx hb dX11_entry_7 (lv_at hl 0 rfl) ?_
    refine lv_ifnonnull (tgt := 16) hx hb dX11_entry_9 (by decide) ?_
    refine lv_aload hx hb dX11_entry_16 (lv_at hl 0 rfl) ?_
    refine lv_iload_n hx hb dX11_entry_18 rfl (lv_at hl 3 rfl) ?_
    have hPc : va_P D vwCl ([] ++ va_pl L M) H_1 := hP.part (cx := []) [] rfl
    have hDc : va_D A ([] ++ va_pl L M) := hD.part (cx := []) [] (by decide) rfl
    have hFc : ∀ q, va_A ([] ++ va_pl L M) H_1.size q → A q := pg_free hDc hS hA
    refine va_callq (va_runV (As := [.int k2]) (rest := []) ⟨hx, hb, hml, hown, hg⟩ (e_X2_leafOn l D cy K L M H_1.size b_5 k2  hW hb_6) (cwV 1 hg (gV wd_376 wd_71 wd_72 wd_57 wd_73) rfl rfl rfl (by decide +kernel) ⟨(Nat.le_trans (Nat.le_of_ble_eq_true rfl) hRf), (Nat.le_trans (Nat.le_of_ble_eq_true rfl) hRl)⟩) ⟨PG.blind, pg_recv hK hP hb_6.1 hM7 rfl, fun U hU hW => ⟨rfl, PG.at hPc hK hDc hN hU hW⟩⟩ rfl rfl hl.1 rfl (lv_room (Nat.le_of_ble_eq_true rfl)) dX11_entry_19 ⟨(Nat.le_trans (Nat.le_of_ble_eq_true rfl) hRc), (Nat.le_trans (Nat.le_of_ble_eq_true rfl) hRs)⟩) hS (fun q _ h => hFc q h) hFc (fun r_17 M_18 t H_16 locs ht hvm hw hB hz1 hk1 hS => ?_)
    have hp_19 := hw
    obtain ⟨hP1, hD1⟩ := hB
    rw [ht] at hP1
    obtain ⟨hP, hD⟩ := va_joinP (X := [(xa, (b11_1 x0 (nI x1) x2 (nI x3) x4 x5 x6 x7 x8 x9 x10))]) (cx := []) (wr := [(xa, (b11_1 x0 (nI x1) x2 (nI x3) x4 x5 x6 x7 x8 x9 x10))]) (rx := []) (pl := va_pl L M) (pl1 := va_pl L M) hP hD [] [0] rfl rfl (by decide) (by decide) hk1 hFc hP1 hD1
    have hP : va_P D vwCl ([(xa, (b11_1 x0 (nI x1) x2 (nI x3) x4 x5 x6 x7 x8 x9 x10))] ++ va_pl L M) H_16 := hP
    have hD : va_D A ([(xa, (b11_1 x0 (nI x1) x2 (nI x3) x4 x5 x6 x7 x8 x9 x10))] ++ va_pl L M) := hD
    obtain ⟨hp_19, hqx⟩ := hp_19
    rcases r_17 with _ | b_20
    · have hz := rfl (a := 0)
      have hen : anEy x1 SX SY k1 k2 k3 = 0 := by
        unfold anEy
        by_cases q9 : okEy x1 k1 k2
        · have hcd : (k2.toNatClampNeg : Int) = k2.toInt := clT q9.2.1
          have q8 := q9.2.2
          have hdn : k2.toNatClampNeg < 1000 := by omega
          rw [if_pos q9]
          exact en_0 ((hSM.pl _ hdn).2.1.symm.trans (lk_lf0 ((hqx.2 rfl).resolve_left (fun z9 => z9 (by omega))) hdn).2)
        · exact if_neg q9
      refine lv_astoreN (lv' := [(5, .null), (4, .ref b_5), (0, .ref xa), (1, .int k1), (2, .int k2), (3, .int k3)]) hx hb dX11_entry_22 hl (by decide) rfl (fun ls hl => ?_)
      refine lv_aloadN hx hb dX11_entry_24 (lv_at hl 0 rfl) ?_
      refine lv_ifnonnullN hx hb dX11_entry_26 ?_
      refine lv_lconst (v := 0) hx hb dX11_entry_29 (by decide) ?_
      refine lv_goto (tgt := 39) hx hb dX11_entry_30 (by decide) ?_
      rw [hQ]
      exact W.lret (v := 0) hx hb hr (fun t ht hW9 => ⟨⟨0, (), rfl, hen.symm, ⟨by rw [ht]; exact hP, hD⟩⟩, hS.F ht⟩) hS.2.2 dX11_entry_39
    · have hb_21 := hp_19 b_20 rfl
      obtain ⟨hdc, hsl⟩ := hqx.1 _ rfl
      have hcd : (k2.toNatClampNeg : Int) = k2.toInt := clT (by omega)
      have hdn : k2.toNatClampNeg < 1000 := by omega
      have hlb := lfb hW hb_21
      have hen : enV M b_20 k3 = enS (SX k1.toNatClampNeg) (SY k1.toNatClampNeg) k2.toNatClampNeg k3 := en_S hSM hHIk.1 hsl hdn (by omega)
      have hyes : okEy x1 k1 k2 := by unfold okEy okH; exact ⟨hr9, by omega, by omega⟩
      refine lv_astore (lv' := [(5, .ref b_20), (4, .ref b_5), (0, .ref xa), (1, .int k1), (2, .int k2), (3, .int k3)]) hx hb dX11_entry_22 hl (by decide) rfl (fun ls hl => ?_)
      refine lv_aload hx hb dX11_entry_24 (lv_at hl 0 rfl) ?_
      refine lv_ifnonnull (tgt := 33) hx hb dX11_entry_26 (by decide) ?_
      refine lv_aload hx hb dX11_entry_33 (lv_at hl 0 rfl) ?_
      refine lv_iload_n hx hb dX11_entry_35 rfl (lv_at hl 5 rfl) ?_
      obtain ⟨n22, v22_0, v22_1, v22_2, hM22, h22_1, h22_2, y22_0⟩ := hW.open_3 hb_21
      have hPc : va_P D vwCl ([] ++ va_pl L M) H_16 := hP.part (cx := []) [] rfl
      have hDc : va_D A ([] ++ va_pl L M) := hD.part (cx := []) [] (by decide) rfl
      have hFc : ∀ q, va_A ([] ++ va_pl L M) H_16.size q → A q := pg_free hDc hS hA
      refine va_calll (va_runV (As := [.int k3]) (rest := []) ⟨hx, hb, hml, hown, hg⟩ (e_entryAt l D cy K L M H_16.size b_20 k3  hW hb_21) (cwV 1 hg (gV wd_513 wd_514 wd_515 wd_39 wd_516) rfl rfl rfl (by decide +kernel) ⟨(Nat.le_trans (Nat.le_of_ble_eq_true rfl) hRf), (Nat.le_trans (Nat.le_of_ble_eq_true rfl) hRl)⟩) ⟨PG.blind, pg_recv hK hP hb_21.1 hM22 rfl, fun U hU hW => ⟨rfl, PG.at hPc hK hDc hN hU hW⟩⟩ rfl rfl hl.1 rfl (lv_room (Nat.le_of_ble_eq_true rfl)) dX11_entry_36 ⟨(Nat.le_trans (Nat.le_of_ble_eq_true rfl) hRc), (Nat.le_trans (Nat.le_of_ble_eq_true rfl) hRs)⟩) hS (fun q _ h => hFc q h) hFc (fun r_24 M_25 t H_23 locs ht hvm hw hB hz1 hk1 hS => ?_)
      have hp_26 := hw
      obtain ⟨hP1, hD1⟩ := hB
      rw [ht] at hP1
      obtain ⟨hP, hD⟩ := va_joinP (X := [(xa, (b11_1 x0 (nI x1) x2 (nI x3) x4 x5 x6 x7 x8 x9 x10))]) (cx := []) (wr := [(xa, (b11_1 x0 (nI x1) x2 (nI x3) x4 x5 x6 x7 x8 x9 x10))]) (rx := []) (pl := va_pl L M) (pl1 := va_pl L M) hP hD [] [0] rfl rfl (by decide) (by decide) hk1 hFc hP1 hD1
      have hP : va_P D vwCl ([(xa, (b11_1 x0 (nI x1) x2 (nI x3) x4 x5 x6 x7 x8 x9 x10))] ++ va_pl L M) H_23 := hP
      have hD : va_D A ([(xa, (b11_1 x0 (nI x1) x2 (nI x3) x4 x5 x6 x7 x8 x9 x10))] ++ va_pl L M) := hD
      obtain rfl := hp_26
      rw [hQ]
      exact W.lret (v := (enV M b_20 k3)) hx hb hr (fun t ht hW9 => ⟨⟨(enV M b_20 k3), (), rfl, (by unfold anEy; rw [if_pos hyes]; exact hen), ⟨by rw [ht]; exact hP, hD⟩⟩, hS.F ht⟩) hS.2.2 dX11_entry_39
set_option maxHeartbeats 4000000 in
set_option maxRecDepth 100000 in
theorem z_entry (l : Launch) (D : va_G) (cy : Nat → ClassId) (K : Kp) (L : List Nat) (M : Hp) (sz : Nat) (za : Nat) (z0 : Int32) (z1 : Nat) (z2 : Nat) (z3 : Nat) (z4 : Int32) (z5 : Int32) (z6 : Nat) (z7 : Nat) (z8 : Nat) (z9 : Nat) (z10 : Nat) (z11 : Nat) (z12 : Nat) (z13 : Nat) (z14 : Nat) (z15 : Nat) (z16 : Nat) (z17 : Nat) (z18 : Int32) (z19 : Nat) (k1 : Int32) (k2 : Int32) (k3 : Int32) (SX : Nat → Nat → Int) (SY : Nat → Nat → Nat → Int32) (hW : WOM cy K L M) (i1 : isk K L z1 23 8) (b2 : z2 ≤ 8) (b3 : z3 ≤ 40) (i6 : isk K L z6 47 40) (i7 : isk K L z7 48 40) (i8 : isk K L z8 49 8) (i9 : isk K L z9 50 8) (b10 : z10 ≤ 8) (i11 : isk K L z11 32 24) (i12 : isk K L z12 14 24) (i13 : isk K L z13 97 24) (i14 : isk K L z14 98 24) (i15 : isk K L z15 99 24) (b16 : z16 ≤ 24) (i17 : isk K L z17 14 24) (i19 : isk K L z19 15 25) (hGI : GI K L z1 z2 M) (hZS : ZSx z1 z2 SX SY M) : Met l yX13_entry (wsM yX13_entry cX13_entry 4 (some .long)) ({ frames := 1, cells := 0, slots := 0, locals := 21 }) (va_Pc [.ref za, .int k1, .int k2, .int k3] (PG D cy [(za, (b13_0 z0 z1 (nI z2) (nI z3) z4 z5 z6 z7 z8 z9 (nI z10) z11 z12 z13 z14 z15 (nI z16) z17 z18 z19))] L M sz)) (va_Ql (fun (r : Int64) (_ : Unit) => (r = anEy z2 SX SY k1 k2 k3)) (fun _ t => PQ D [(za, (b13_0 0 z1 (nI z2) (nI z3) z4 z5 z6 z7 z8 z9 (nI z10) z11 z12 z13 z14 z15 (nI z16) z17 z18 z19))] L M (va_A ([(za, (b13_0 z0 z1 (nI z2) (nI z3) z4 z5 z6 z7 z8 z9 (nI z10) z11 z12 z13 z14 z15 (nI z16) z17 z18 z19))] ++ va_pl L M) sz) t) (va_A ([(za, (b13_0 z0 z1 (nI z2) (nI z3) z4 z5 z6 z7 z8 z9 (nI z10) z11 z12 z13 z14 z15 (nI z16) z17 z18 z19))] ++ va_pl L M) sz)) 0 0 (va_A ([(za, (b13_0 z0 z1 (nI z2) (nI z3) z4 z5 z6 z7 z8 z9 (nI z10) z11 z12 z13 z14 z15 (nI z16) z17 z18 z19))] ++ va_pl L M) sz) := by
  refine Met.ofW (cc := cX13_entry) (maxL := 4) (ret := (some .long)) (by decide) rfl ?_
  intro p e s m args below meth c s₁ B hml hv
  obtain ⟨rfl, hsz, hP, hK, hD0, hN⟩ := hv
  have hx := B.exec
  have hb := B.bytes
  have hr := B.returns
  have hts := atoms_spec (ws := (wsM yX13_entry cX13_entry 4 (some .long))) B.pre
  have hg : ∀ w ∈ lw_good, w.before _ s = true := fun w h => hts w (List.mem_cons_of_mem _ h)
  have hown : s.vm.findClass RX13 = some m.cls := findClass_of_methodNamed B.named
  have hlocks := B.notSynchronized
  subst hsz
  have hD := hD0.self (sz := s.heap.size)
  generalize hAe : va_A ([(za, (b13_0 z0 z1 (nI z2) (nI z3) z4 z5 z6 z7 z8 z9 (nI z10) z11 z12 z13 z14 z15 (nI z16) z17 z18 z19))] ++ va_pl L M) s.heap.size = A at hD ⊢
  have hA : ∀ q : Nat, s.heap.size ≤ q → A q := fun q h => by rw [← hAe]; exact Or.inr h
  have hS : va_S A s.heap s.heap [] := va_S.rf
  have hl := lv_entry ([.ref za, .int k1, .int k2, .int k3]) (n := 4) (Nat.le_of_ble_eq_true rfl)
  rw [lg_entry_eq]
  generalize (lg_sl ([.ref za, .int k1, .int k2, .int k3]) ++ List.replicate (4 - (lg_sl ([.ref za, .int k1, .int k2, .int k3])).length) Slot.unset).toArray = ls at hl ⊢
  refine W.nameQ (fun Q hQ => ?_)
  refine W.nameR (fun R hR => ?_)
  have hRf : 1 ≤ R.frames := by rw [hR]; exact Nat.le_of_ble_eq_true rfl
  have hRl : 21 ≤ R.locals := by rw [hR]; exact Nat.le_of_ble_eq_true rfl
  have hRc : 0 ≤ R.cells := by rw [hR]; exact Nat.le_of_ble_eq_true rfl
  have hRs : 0 ≤ R.slots := by rw [hR]; exact Nat.le_of_ble_eq_true rfl
  have hl : lv_has ls 4 [(0, .ref za), (1, .int k1), (2, .int k2), (3, .int k3)] := hl
  have hW0 := hW
  refine lv_aload_n hx hb dX13_entry_0 rfl (lv_at hl 0 rfl) ?_
  refine lv_iconst (v := 0) hx hb dX13_entry_1 (by decide) ?_
  refine va_put (D := D) (ci := 13) (v := .int 0) (ty := .int) (C := RX13) (T := TX13) (N := 20) hx hb hg inG13 tyX13 tyX13_ok nmX13 hown hK hP hD hS 0 rfl rfl 0 (by decide) (hg _ wd_720) (fun _ h9 => h9) rfl (by decide +kernel) rfl rfl (Nat.le_of_ble_eq_true rfl) dX13_entry_2 (fun H_1 locs hP hD hS => ?_)
  have hP : va_P D vwCl ([(za, (b13_0 0 z1 (nI z2) (nI z3) z4 z5 z6 z7 z8 z9 (nI z10) z11 z12 z13 z14 z15 (nI z16) z17 z18 z19))] ++ va_pl L M) H_1 := hP
  have hD : va_D A ([(za, (b13_0 0 z1 (nI z2) (nI z3) z4 z5 z6 z7 z8 z9 (nI z10) z11 z12 z13 z14 z15 (nI z16) z17 z18 z19))] ++ va_pl L M) := hD
  refine lv_aload_n hx hb dX13_entry_5 rfl (lv_at hl 0 rfl) ?_
  refine lv_iload_n hx hb dX13_entry_6 rfl (lv_at hl 1 rfl) ?_
  have hPc : va_P D vwCl ([(za, (b13_0 0 z1 (nI z2) (nI z3) z4 z5 z6 z7 z8 z9 (nI z10) z11 z12 z13 z14 z15 (nI z16) z17 z18 z19))] ++ va_pl L M) H_1 := hP
  have hDc : va_D A ([(za, (b13_0 0 z1 (nI z2) (nI z3) z4 z5 z6 z7 z8 z9 (nI z10) z11 z12 z13 z14 z15 (nI z16) z17 z18 z19))] ++ va_pl L M) := hD
  have hFc : ∀ q, va_A ([(za, (b13_0 0 z1 (nI z2) (nI z3) z4 z5 z6 z7 z8 z9 (nI z10) z11 z12 z13 z14 z15 (nI z16) z17 z18 z19))] ++ va_pl L M) H_1.size q → A q := pg_free hDc hS hA
  refine va_calli (va_runV (As := [.int k1]) (rest := []) ⟨hx, hb, hml, hown, hg⟩ (f_isHouse l D cy K L M H_1.size za 0 z1 z2 z3 z4 z5 z6 z7 z8 z9 z10 z11 z12 z13 z14 z15 z16 z17 z18 z19 k1  hW i1 b2 b3 i6 i7 i8 i9 b10 i11 i12 i13 i14 i15 b16 i17 i19) (cwV 1 hg (gV wd_714 wd_715 wd_716 wd_717 wd_718) rfl rfl rfl (by decide +kernel) ⟨(Nat.le_trans (Nat.le_of_ble_eq_true rfl) hRf), (Nat.le_trans (Nat.le_of_ble_eq_true rfl) hRl)⟩) ⟨PG.blind, va_recv hK hP (ci := 13) (q0 := 0) rfl rfl, fun U hU hW => ⟨rfl, PG.at hPc hK hDc hN hU hW⟩⟩ rfl rfl hl.1 rfl (lv_room (Nat.le_of_ble_eq_true rfl)) dX13_entry_7 ⟨(Nat.le_trans (Nat.le_of_ble_eq_true rfl) hRc), (Nat.le_trans (Nat.le_of_ble_eq_true rfl) hRs)⟩) hS (fun q _ h => hFc q h) hFc (fun r_3 M_4 t H_2 locs ht hvm hw hB hz1 hk1 hS => ?_)
  have hp_5 := hw
  obtain ⟨hP1, hD1⟩ := hB
  rw [ht] at hP1
  have hP : va_P D vwCl ([(za, (b13_0 0 z1 (nI z2) (nI z3) z4 z5 z6 z7 z8 z9 (nI z10) z11 z12 z13 z14 z15 (nI z16) z17 z18 z19))] ++ va_pl L M) H_2 := hP1
  have hD : va_D A ([(za, (b13_0 0 z1 (nI z2) (nI z3) z4 z5 z6 z7 z8 z9 (nI z10) z11 z12 z13 z14 z15 (nI z16) z17 z18 z19))] ++ va_pl L M) := hD1.mono hFc
  rcases hp_5 with ⟨rfl, c_6, c_7, c_8⟩ | ⟨rfl, c_9⟩
  · have hz := rfl (a := 0)
    refine lv_if_eq (tgt := 62) hx hb dX13_entry_10 (by decide) (fun c_10 => absurd c_10 (by decide)) (fun _ => ?_)
    refine lv_iload_n hx hb dX13_entry_13 rfl (lv_at hl 2 rfl) ?_
    refine lv_if_lt (tgt := 62) hx hb dX13_entry_14 (by decide) (fun c_11 => ?_) (fun c_11 => ?_)
    · have hz := rfl (a := 0)
      refine lv_lconst (v := 0) hx hb dX13_entry_62 (by decide) ?_
      have hI_12 : (0 : Int) ≤ (k1 : Int32).toInt := inltI rfl rfl c_7
      have hI_13 : (k1 : Int32).toInt < ((z2 : Nat) : Int) := inleI (nI_toInt (by omega)) rfl c_8
      have hI_14 : (k2 : Int32).toInt < (0 : Int) := iltI rfl rfl c_11
      have hno : ¬ okEy z2 k1 k2 := fun q9 => by unfold okEy okH at q9; first | omega | (obtain ⟨⟨_, _⟩, _, _⟩ := q9; first | omega | contradiction)
      rw [hQ]
      exact W.lret (v := 0) hx hb hr (fun t ht hW9 => ⟨⟨0, (), rfl, (by unfold anEy; rw [if_neg hno]), ⟨by rw [ht]; exact hP, hD⟩⟩, hS.F ht⟩) hS.2.2 dX13_entry_63
    · have hz := rfl (a := 0)
      refine lv_iload_n hx hb dX13_entry_17 rfl (lv_at hl 2 rfl) ?_
      refine lv_sipush (v := 1000) hx hb dX13_entry_18 (by decide) ?_
      refine lv_icmp_ge (tgt := 62) hx hb dX13_entry_21 (by decide) (fun c_15 => ?_) (fun c_15 => ?_)
      · have hz := rfl (a := 0)
        refine lv_lconst (v := 0) hx hb dX13_entry_62 (by decide) ?_
        have hI_16 : (0 : Int) ≤ (k1 : Int32).toInt := inltI rfl rfl c_7
        have hI_17 : (k1 : Int32).toInt < ((z2 : Nat) : Int) := inleI (nI_toInt (by omega)) rfl c_8
        have hI_18 : (0 : Int) ≤ (k2 : Int32).toInt := inltI rfl rfl c_11
        have hI_19 : (1000 : Int) ≤ (k2 : Int32).toInt := ileI rfl rfl c_15
        have hno : ¬ okEy z2 k1 k2 := fun q9 => by unfold okEy okH at q9; first | omega | (obtain ⟨⟨_, _⟩, _, _⟩ := q9; first | omega | contradiction)
        rw [hQ]
        exact W.lret (v := 0) hx hb hr (fun t ht hW9 => ⟨⟨0, (), rfl, (by unfold anEy; rw [if_neg hno]), ⟨by rw [ht]; exact hP, hD⟩⟩, hS.F ht⟩) hS.2.2 dX13_entry_63
      · have hz := rfl (a := 0)
        obtain ⟨j_20, hj_21, rfl⟩ := i32nat 1000 (by decide) c_11 c_15
        refine lv_iload_n hx hb dX13_entry_24 rfl (lv_at hl 3 rfl) ?_
        refine lv_if_lt (tgt := 62) hx hb dX13_entry_25 (by decide) (fun c_22 => ?_) (fun c_22 => ?_)
        · have hz := rfl (a := 0)
          refine lv_lconst (v := 0) hx hb dX13_entry_62 (by decide) ?_
          have hI_23 : (0 : Int) ≤ (k1 : Int32).toInt := inltI rfl rfl c_7
          have hI_24 : (k1 : Int32).toInt < ((z2 : Nat) : Int) := inleI (nI_toInt (by omega)) rfl c_8
          have hI_25 : (0 : Int) ≤ ((j_20 : Nat) : Int) := inltI (nI_toInt (by omega)) rfl c_11
          have hI_26 : ((j_20 : Nat) : Int) < (1000 : Int) := inleI rfl (nI_toInt (by omega)) c_15
          have hI_27 : (k3 : Int32).toInt < (0 : Int) := iltI rfl rfl c_22
          have hn92 : ((nI j_20) : Int32).toInt = ((j_20 : Nat) : Int) := nI_toInt (by omega)
          have hyes : okEy z2 k1 (nI j_20) := by unfold okEy okH; refine ⟨⟨?_, ?_⟩, ?_, ?_⟩ <;> first | omega | assumption
          rw [hQ]
          exact W.lret (v := 0) hx hb hr (fun t ht hW9 => ⟨⟨0, (), rfl, (by unfold anEy; rw [if_pos hyes]; unfold enS; rw [if_neg (fun w9 => by have h1 := w9.1; have h2 := w9.2; omega)]), ⟨by rw [ht]; exact hP, hD⟩⟩, hS.F ht⟩) hS.2.2 dX13_entry_63
        · have hz := rfl (a := 0)
          refine lv_iload_n hx hb dX13_entry_28 rfl (lv_at hl 3 rfl) ?_
          refine lv_aload_n hx hb dX13_entry_29 rfl (lv_at hl 0 rfl) ?_
          refine va_get (D := D) (ci := 13) (v := .ref z1) (C := RX13) (T := TX13) (N := 20) hx hb hg inG13 hown hK hP 0 rfl rfl 1 (by decide) (hg _ wd_739) (fun _ h9 => h9) rfl dX13_entry_30 ?_
          refine lv_iload_n hx hb dX13_entry_33 rfl (lv_at hl 1 rfl) ?_
          obtain ⟨f28, hM28, hf28⟩ := hW.open_23 i1
          have hi_29 : vp_in k1 8 := (inbW (a := z2) (by omega) (inb k1 z2 (by omega) c_7 c_8))
          refine pg_aldq hx hb hK hP i1.1 9 hM28 rfl hi_29 dX13_entry_34 ?_
          obtain ⟨b30, eb_31, hb_32⟩ := hf28 _ (vp_lt hi_29)
          rw [eb_31]
          have hact : ACT z1 z2 b30 M := ⟨(k1 : Int32).toNatClampNeg, vp_lt (inb k1 z2 (by omega) c_7 c_8), by rw [show RFc (M z1) = f28 from by rw [hM28]; rfl]; exact eb_31⟩
          have hAT := GI.at hGI hact
          have hV : VW K L M M b30 (fx M b30) (ax M b30) := VW.rf b30 hGI.2.2.2
          have hb9 : RFc (M z1) (k1 : Int32).toNatClampNeg = some b30 := by rw [show RFc (M z1) = f28 from by rw [hM28]; rfl]; exact eb_31
          have hkn : (k1 : Int32).toNatClampNeg < z2 := vp_lt (inb k1 z2 (by omega) c_7 c_8)
          have hZk := hZS _ b30 hkn hb9
          have hz0 : fx M b30 0 = SX (k1 : Int32).toNatClampNeg 0 := congrFun hZk.1 0
          have hz1 : fx M b30 1 = SX (k1 : Int32).toNatClampNeg 1 := congrFun hZk.1 1
          have hz10 : fx M b30 10 = SX (k1 : Int32).toNatClampNeg 10 := congrFun hZk.1 10
          have hz11 : fx M b30 11 = SX (k1 : Int32).toNatClampNeg 11 := congrFun hZk.1 11
          have hz12 : fx M b30 12 = SX (k1 : Int32).toNatClampNeg 12 := congrFun hZk.1 12
          have hz13 : fx M b30 13 = SX (k1 : Int32).toNatClampNeg 13 := congrFun hZk.1 13
          have hz14 : fx M b30 14 = SX (k1 : Int32).toNatClampNeg 14 := congrFun hZk.1 14
          have hz15 : fx M b30 15 = SX (k1 : Int32).toNatClampNeg 15 := congrFun hZk.1 15
          have hz16 : fx M b30 16 = SX (k1 : Int32).toNatClampNeg 16 := congrFun hZk.1 16
          obtain ⟨fs33, hM33, hn33, hl33⟩ := hW.open_12 hb_32
          obtain ⟨v34, hv34, hc34⟩ : ∃ v : Nat, fs33[3]? = some (.ref v : Value) ∧ isk K L v 35 1000 := hl33 3 (by decide)
          refine pg_getN (D := D) (ci := 12) (v := .ref v34) (C := RX12) (T := TX12) (N := 51) hx hb hg inG12 hown hK hP hb_32.1 hM33 rfl 3 (by decide) (hN.use (Cond.fieldLinkNest RX13 157 RX12 "told" "[I" RX13) 12 rfl rfl) (fun _ h9 => h9) hv34 dX13_entry_35 ?_
          refine lv_iload_n hx hb dX13_entry_38 rfl (lv_at hl 2 rfl) ?_
          obtain ⟨f35, hM35, hf35⟩ := hW.open_35 hc34
          have hi_36 : vp_in (nI j_20) 1000 := (inbN j_20 1000 (by omega) (by omega))
          refine pg_iald hx hb hK hP hc34.1 0 hM35 rfl hi_36 dX13_entry_39 ?_
          have hp_37 := hf35 _ (vp_lt hi_36)
          obtain ⟨c_38, hc_39, ec_40⟩ := hp_37
          rw [ec_40]
          have t3e : SY (k1 : Int32).toNatClampNeg 3 ((nI j_20) : Int32).toNatClampNeg = (nI c_38) := by rw [← hZk.2, ax_of hM33 (by decide) hv34 hM35]; exact ec_40
          have t3 : (SY (k1 : Int32).toNatClampNeg 3 ((nI j_20) : Int32).toNatClampNeg).toInt = ((c_38 : Nat) : Int) := by rw [t3e]; exact (nI_toInt (by omega))
          refine lv_icmp_ge (tgt := 62) hx hb dX13_entry_40 (by decide) (fun c_41 => ?_) (fun c_41 => ?_)
          · have hz := rfl (a := 0)
            refine lv_lconst (v := 0) hx hb dX13_entry_62 (by decide) ?_
            have hI_42 : (0 : Int) ≤ (k1 : Int32).toInt := inltI rfl rfl c_7
            have hI_43 : (k1 : Int32).toInt < ((z2 : Nat) : Int) := inleI (nI_toInt (by omega)) rfl c_8
            have hI_44 : (0 : Int) ≤ ((j_20 : Nat) : Int) := inltI (nI_toInt (by omega)) rfl c_11
            have hI_45 : ((j_20 : Nat) : Int) < (1000 : Int) := inleI rfl (nI_toInt (by omega)) c_15
            have hI_46 : (0 : Int) ≤ (k3 : Int32).toInt := inltI rfl rfl c_22
            have hI_47 : ((c_38 : Nat) : Int) ≤ (k3 : Int32).toInt := ileI (nI_toInt (by omega)) rfl c_41
            have hn92 : ((nI j_20) : Int32).toInt = ((j_20 : Nat) : Int) := nI_toInt (by omega)
            have hyes : okEy z2 k1 (nI j_20) := by unfold okEy okH; refine ⟨⟨?_, ?_⟩, ?_, ?_⟩ <;> first | omega | assumption
            rw [hQ]
            exact W.lret (v := 0) hx hb hr (fun t ht hW9 => ⟨⟨0, (), rfl, (by unfold anEy; rw [if_pos hyes]; unfold enS; rw [if_neg (fun w9 => by have h1 := w9.1; have h2 := w9.2; omega)]), ⟨by rw [ht]; exact hP, hD⟩⟩, hS.F ht⟩) hS.2.2 dX13_entry_63
          · have hz := rfl (a := 0)
            have n_48 : ¬ 6 ≤ k3 := ltB (b := 6) (by decide) (by omega) (Int32.not_le.mp c_41)
            refine lv_aload_n hx hb dX13_entry_43 rfl (lv_at hl 0 rfl) ?_
            refine va_get (D := D) (ci := 13) (v := .ref z1) (C := RX13) (T := TX13) (N := 20) hx hb hg inG13 hown hK hP 0 rfl rfl 1 (by decide) (hg _ wd_739) (fun _ h9 => h9) rfl dX13_entry_44 ?_
            refine lv_iload_n hx hb dX13_entry_47 rfl (lv_at hl 1 rfl) ?_
            have hi_49 : vp_in k1 8 := (inbW (a := z2) (by omega) (inb k1 z2 (by omega) c_7 c_8))
            refine pg_aldq hx hb hK hP i1.1 9 hM28 rfl hi_49 dX13_entry_48 ?_
            rw [show f28 (k1 : Int32).toNatClampNeg = some b30 from eb_31]
            obtain ⟨v50, hv50, hc50⟩ : ∃ v : Nat, fs33[5]? = some (.ref v : Value) ∧ isk K L v 84 6000 := hl33 5 (by decide)
            refine pg_getN (D := D) (ci := 12) (v := .ref v50) (C := RX12) (T := TX12) (N := 51) hx hb hg inG12 hown hK hP hb_32.1 hM33 rfl 5 (by decide) (hN.use (Cond.fieldLinkNest RX13 167 RX12 "entry" "[J" RX13) 14 rfl rfl) (fun _ h9 => h9) hv50 dX13_entry_49 ?_
            refine lv_bipush (v := 6) hx hb dX13_entry_52 (by decide) ?_
            refine lv_iload_n hx hb dX13_entry_54 rfl (lv_at hl 2 rfl) ?_
            refine lv_imul hx hb dX13_entry_55 ?_
            refine lv_topi (fun f_51 ef_51 => ?_)
            obtain rfl : f_51 = (nI (6 * j_20)) := ef_51.trans (nI_mul 6 j_20)
            refine lv_iload_n hx hb dX13_entry_56 rfl (lv_at hl 3 rfl) ?_
            obtain ⟨j_52, hj_53, rfl⟩ := i32nat 6 (by decide) c_22 n_48
            refine lv_iadd hx hb dX13_entry_57 ?_
            refine lv_topi (fun f_54 ef_54 => ?_)
            obtain rfl : f_54 = (nI ((6 * j_20) + j_52)) := ef_54.trans (nI_add (6 * j_20) j_52)
            obtain ⟨f55, hM55⟩ := hW.open_84 hc50
            refine pg_lald hx hb hK hP hc50.1 1 hM55 rfl (inbN ((6 * j_20) + j_52) 6000 (by omega) (by omega)) dX13_entry_58 ?_
            refine lv_topl (fun f_56 ef_56 => ?_)
            have hen : f_56 = Int64.ofInt (SX (k1 : Int32).toNatClampNeg (lKey 10 (6 * j_20 + j_52))) := by rw [← hZk.1, lx_of (r := 10) (i := 6 * j_20 + j_52) hM33 (by decide) (by decide) hv50 hM55, Int64.ofInt_toInt]; exact ef_56.trans (congrArg _ (nI_cl (by omega)))
            refine lv_goto (tgt := 63) hx hb dX13_entry_59 (by decide) ?_
            have hI_57 : (0 : Int) ≤ (k1 : Int32).toInt := inltI rfl rfl c_7
            have hI_58 : (k1 : Int32).toInt < ((z2 : Nat) : Int) := inleI (nI_toInt (by omega)) rfl c_8
            have hI_59 : (0 : Int) ≤ ((j_20 : Nat) : Int) := inltI (nI_toInt (by omega)) rfl c_11
            have hI_60 : ((j_20 : Nat) : Int) < (1000 : Int) := inleI rfl (nI_toInt (by omega)) c_15
            have hI_61 : (0 : Int) ≤ ((j_52 : Nat) : Int) := inltI (nI_toInt (by omega)) rfl c_22
            have hI_62 : ((j_52 : Nat) : Int) < ((c_38 : Nat) : Int) := inleI (nI_toInt (by omega)) (nI_toInt (by omega)) c_41
            have hI_63 : ((j_52 : Nat) : Int) < (6 : Int) := inleI rfl (nI_toInt (by omega)) n_48
            have hn92 : ((nI j_20) : Int32).toInt = ((j_20 : Nat) : Int) := nI_toInt (by omega)
            have hn93 : ((nI j_52) : Int32).toInt = ((j_52 : Nat) : Int) := nI_toInt (by omega)
            have hyes : okEy z2 k1 (nI j_20) := by unfold okEy okH; refine ⟨⟨?_, ?_⟩, ?_, ?_⟩ <;> first | omega | assumption
            rw [hQ]
            exact W.lret (v := f_56) hx hb hr (fun t ht hW9 => ⟨⟨f_56, (), rfl, (by unfold anEy; rw [if_pos hyes]; unfold enS; rw [if_pos (by constructor <;> omega), nI_cl (t := j_20) (by omega), nI_cl (t := j_52) (by omega)]; exact hen), ⟨by rw [ht]; exact hP, hD⟩⟩, hS.F ht⟩) hS.2.2 dX13_entry_63
  · have hz := rfl (a := 0)
    refine lv_if_eq (tgt := 62) hx hb dX13_entry_10 (by decide) (fun _ => ?_) (fun c_64 => absurd c_64 (by decide))
    refine lv_lconst (v := 0) hx hb dX13_entry_62 (by decide) ?_
    have hno : ¬ okEy z2 k1 k2 := fun q9 => by unfold okEy okH at q9; first | omega | (obtain ⟨⟨_, _⟩, _, _⟩ := q9; first | omega | contradiction)
    rw [hQ]
    exact W.lret (v := 0) hx hb hr (fun t ht hW9 => ⟨⟨0, (), rfl, (by unfold anEy; rw [if_neg hno]), ⟨by rw [ht]; exact hP, hD⟩⟩, hS.F ht⟩) hS.2.2 dX13_entry_63
