

theorem ld_add {v : Int64} {s : Int32} (h0 : 0 ≤ v.toInt) (h1 : v.toInt ≤ 1000000000) (s1 : 1 ≤ s.toInt) (s2 : s.toInt ≤ 1000000000) : (v + s.toInt64).toInt = v.toInt + s.toInt := by
  rw [Int64.toInt_add, Int32.toInt_toInt64]
  apply Int.bmod_eq_of_le <;> omega
theorem ld_sub {v : Int64} {s : Int32} (h0 : 0 ≤ v.toInt) (h1 : v.toInt ≤ 1000000000) (s1 : 1 ≤ s.toInt) (s2 : s.toInt ≤ 1000000000) : (v - s.toInt64).toInt = v.toInt - s.toInt := by
  rw [Int64.toInt_sub, Int32.toInt_toInt64]
  apply Int.bmod_eq_of_le <;> omega
theorem ld_neg {s : Int32} (s1 : 1 ≤ s.toInt) (s2 : s.toInt ≤ 1000000000) : (-s).toInt64 = -(s.toInt64) := by
  apply Int64.toInt.inj
  rw [Int32.toInt_toInt64, Int64.toInt_neg, Int32.toInt_neg, Int32.toInt_toInt64]
  rw [show (-s.toInt).bmod (2 ^ 32) = -s.toInt by apply Int.bmod_eq_of_le <;> omega]
  symm
  apply Int.bmod_eq_of_le <;> omega
theorem ld_no {v : Int64} {s : Int32} (h0 : 0 ≤ v.toInt) (h1 : v.toInt ≤ 1000000000) (s1 : 1 ≤ s.toInt) (s2 : s.toInt ≤ 1000000000) : v - s.toInt64 ≤ 1000000000 := by
  rw [Int64.le_iff_toInt_le, ld_sub h0 h1 s1 s2, show (1000000000 : Int64).toInt = 1000000000 from rfl]
  omega
/-- what a tenure has lent -/
def LV (X : Nat → Int) (t : Nat) : Int64 := Int64.ofInt (X (lKey 3 t))
def nwLd (X : Nat → Int) (t : Nat) (s b : Int32) : Int64 := if b = 0 then LV X t + s.toInt64 else LV X t + (-s).toInt64
def okLd (n : Nat) (SX : Nat → Nat → Int) (h t s b : Int32) : Prop := okH n h ∧ 0 ≤ t.toInt ∧ t.toInt < SX h.toNatClampNeg 10 ∧ 1 ≤ s.toInt ∧ s.toInt ≤ 1000000000 ∧ ¬ (b ≠ 0 ∧ ¬ s.toInt64 ≤ LV (SX h.toNatClampNeg) t.toNatClampNeg) ∧ ¬ (b = 0 ∧ ¬ LV (SX h.toNatClampNeg) t.toNatClampNeg + s.toInt64 ≤ 1000000000)
noncomputable def anLd (n : Nat) (SX : Nat → Nat → Int) (h t s b : Int32) : Int32 := @ite _ (okLd n SX h t s b) (Classical.propDecidable _) (nwLd (SX h.toNatClampNeg) t.toNatClampNeg s b).toInt32 (-1)
noncomputable def sxLd (n : Nat) (SX : Nat → Nat → Int) (h t s b : Int32) : Nat → Nat → Int := @ite _ (okLd n SX h t s b) (Classical.propDecidable _) (va_up SX h.toNatClampNeg (va_up (SX h.toNatClampNeg) (lKey 3 t.toNatClampNeg) (nwLd (SX h.toNatClampNeg) t.toNatClampNeg s b).toInt)) SX
theorem lk_lo {M : Hp} {b i t : Nat} (hs : RFc (M (rA 2 M b 8)) i = some t) (hi : i < 24) : cfx M b (lKey 3 i) = (cL 9 M t 12).toInt := by
  show xf (lKey 3 i) M b = _
  rw [xf_key (r := 3) (i := i), lf_key (by decide)]
  show vLo 12 M b i = _
  unfold vLo
  rw [if_pos hi, hs]
theorem SIM.lend {k : Nat} {T : Int} {np : Nat} {PK PT : Nat → Int32} {x : Nat → Int} {y : Nat → Nat → Int32} {X : Nat → Int} {Y : Nat → Nat → Int32} {i : Nat} {v : Int} (h : SIM k T np PK PT x y X Y) (hi : (i : Int) < X 10) (hv : 0 ≤ v ∧ v ≤ 1000000000) : SIM k T np PK PT (va_up x (lKey 3 i) v) y (va_up X (lKey 3 i) v) Y := by
  refine h.cg (fun j hj => lKdn x 3 i j v hj) (fun j hj => lKdn X 3 i j v hj) ⟨?_, ?_, ?_, ?_, ?_, ?_⟩
  · rw [lKdn X 3 i 10 v (by decide)]
    exact h.ex.tw
  · rw [lKdn X 3 i 10 v (by decide)]
    exact h.ex.iz
  · rw [lKdn X 3 i 10 v (by decide)]
    intro j hj
    by_cases q : j = i
    · rw [q, va_up_self, va_up_self]
    · rw [va_up_ne _ _ (fun z => q (lKin z)), va_up_ne _ _ (fun z => q (lKin z))]
      exact h.ex.lo j hj
  · rw [lKdn X 3 i 10 v (by decide)]
    intro j h24 hj
    rw [va_up_ne _ _ (fun z => by have := lKin z; omega)]
    exact h.ex.lz j h24 hj
  · rw [lKdn X 3 i 10 v (by decide)]
    intro j hj
    by_cases q : j = i
    · rw [q, va_up_self]
      exact hv
    · rw [va_up_ne _ _ (fun z => q (lKin z))]
      exact h.ex.lb j hj
  · intro e he m hm
    rw [va_up_ne _ _ (lKne (by decide) (by decide) (by decide))]
    exact h.ex.et e he m hm
set_option maxHeartbeats 4000000 in
set_option maxRecDepth 100000 in
theorem x_lend (l : Launch) (D : va_G) (cy : Nat → ClassId) (K : Kp) (L : List Nat) (M : Hp) (sz : Nat) (xa : Nat) (x0 : Nat) (x1 : Nat) (x2 : Nat) (x3 : Nat) (x4 : Nat) (x5 : Nat) (x6 : Nat) (x7 : Int32) (x8 : Nat) (x9 : Int32) (x10 : Int32) (k1 : Int32) (k2 : Int32) (k3 : Int32) (k4 : Int32) (Bo : Nat → Nat × Nat) (T : Int) (PK : Nat → Int32) (PT : Nat → Int32) (SX : Nat → Nat → Int) (SY : Nat → Nat → Nat → Int32) (hW : WOK cy K L M) (i0 : isk K L x0 17 8) (b1 : x1 ≤ 8) (i2 : isk K L x2 19 40) (b3 : x3 ≤ 40) (i4 : isk K L x4 7 0) (i5 : isk K L x5 5 0) (i6 : isk K L x6 60 24) (i8 : isk K L x8 73 25) (zk4 : (k4 = 0 ∨ k4 = 1)) (hC : CX Bo K L x0 x1 T x3 PK PT SX SY M) (hSV : ∀ k, k < x1 → SV (SX k) (SY k)) (hHI : ∀ k, k < x1 → HI (SX k) (SY k)) (hT : (0 ≤ T ∧ T ≤ 900000)) : Met l yX11_lend (wsM yX11_lend cX11_lend 9 (some .int)) ({ frames := 2, cells := 0, slots := 0, locals := 43 }) (va_Pc [.ref xa, .int k1, .int k2, .int k3, .int k4] (PG D cy [(xa, (b11_1 x0 (nI x1) x2 (nI x3) x4 x5 x6 x7 x8 x9 x10))] L M sz)) (va_Qi (fun (r : Int32) (M9 : Hp) => WOK cy K L M9 ∧ fr K L [9] M M9 ∧ fT 9 K L [12] M M9 ∧ (CX Bo K L x0 x1 (T + 1) x3 PK PT (sxLd x1 SX k1 k2 k3 k4) SY M9) ∧ ((r = anLd x1 SX k1 k2 k3 k4))) (fun M9 t => ∃ (w9 : Int32), PQ D [(xa, (b11_1 x0 (nI x1) x2 (nI x3) x4 x5 x6 x7 x8 w9 (-1)))] L M9 (va_A ([(xa, (b11_1 x0 (nI x1) x2 (nI x3) x4 x5 x6 x7 x8 x9 x10))] ++ va_pl L M) sz) t) (va_A ([(xa, (b11_1 x0 (nI x1) x2 (nI x3) x4 x5 x6 x7 x8 x9 x10))] ++ va_pl L M) sz)) 0 0 (va_A ([(xa, (b11_1 x0 (nI x1) x2 (nI x3) x4 x5 x6 x7 x8 x9 x10))] ++ va_pl L M) sz) := by
  refine Met.ofW (cc := cX11_lend) (maxL := 9) (ret := (some .int)) (by decide) rfl ?_
  intro p e s m args below meth c s₁ B hml hv
  obtain ⟨rfl, hsz, hP, hK, hD0, hN⟩ := hv
  have hx := B.exec
  have hb := B.bytes
  have hr := B.returns
  have hts := atoms_spec (ws := (wsM yX11_lend cX11_lend 9 (some .int))) B.pre
  have hg : ∀ w ∈ lw_good, w.before _ s = true := fun w h => hts w (List.mem_cons_of_mem _ h)
  have hown : s.vm.findClass RX11 = some m.cls := findClass_of_methodNamed B.named
  have hlocks := B.notSynchronized
  subst hsz
  have hD := hD0.self (sz := s.heap.size)
  generalize hAe : va_A ([(xa, (b11_1 x0 (nI x1) x2 (nI x3) x4 x5 x6 x7 x8 x9 x10))] ++ va_pl L M) s.heap.size = A at hD ⊢
  have hA : ∀ q : Nat, s.heap.size ≤ q → A q := fun q h => by rw [← hAe]; exact Or.inr h
  have hS : va_S A s.heap s.heap [] := va_S.rf
  have hl := lv_entry ([.ref xa, .int k1, .int k2, .int k3, .int k4]) (n := 9) (Nat.le_of_ble_eq_true rfl)
  rw [lg_entry_eq]
  generalize (lg_sl ([.ref xa, .int k1, .int k2, .int k3, .int k4]) ++ List.replicate (9 - (lg_sl ([.ref xa, .int k1, .int k2, .int k3, .int k4])).length) Slot.unset).toArray = ls at hl ⊢
  refine W.nameQ (fun Q hQ => ?_)
  refine W.nameR (fun R hR => ?_)
  have hRf : 2 ≤ R.frames := by rw [hR]; exact Nat.le_of_ble_eq_true rfl
  have hRl : 43 ≤ R.locals := by rw [hR]; exact Nat.le_of_ble_eq_true rfl
  have hRc : 0 ≤ R.cells := by rw [hR]; exact Nat.le_of_ble_eq_true rfl
  have hRs : 0 ≤ R.slots := by rw [hR]; exact Nat.le_of_ble_eq_true rfl
  have hF : fr K L [9] M M := fr.rf
  have hT9 : fT 9 K L [12] M M := fT.rf
  have hl : lv_has ls 9 [(0, .ref xa), (1, .int k1), (2, .int k2), (3, .int k3), (4, .int k4)] := hl
  have hW0 := hW
  refine lv_aload_n hx hb dX11_lend_0 rfl (lv_at hl 0 rfl) ?_
  refine lv_iload_n hx hb dX11_lend_1 rfl (lv_at hl 1 rfl) ?_
  have hPc : va_P D vwCl ([(xa, (b11_1 x0 (nI x1) x2 (nI x3) x4 x5 x6 x7 x8 x9 x10))] ++ va_pl L M) s.heap := hP
  have hDc : va_D A ([(xa, (b11_1 x0 (nI x1) x2 (nI x3) x4 x5 x6 x7 x8 x9 x10))] ++ va_pl L M) := hD
  have hFc : ∀ q, va_A ([(xa, (b11_1 x0 (nI x1) x2 (nI x3) x4 x5 x6 x7 x8 x9 x10))] ++ va_pl L M) s.heap.size q → A q := pg_free hDc hS hA
  refine va_callq (va_runV (As := [.int k1]) (rest := []) ⟨hx, hb, hml, hown, hg⟩ (e_houseAt l D cy K L M s.heap.size xa x0 x1 x2 x3 x4 x5 x6 x7 x8 x9 x10 k1 Bo T PK PT SX SY  hW i0 b1 i2 b3 i4 i5 i6 i8 hC) (cwV 1 hg (gV wd_340 wd_341 wd_342 wd_3 wd_343) rfl rfl rfl (by decide +kernel) ⟨(Nat.le_trans (Nat.le_of_ble_eq_true rfl) hRf), (Nat.le_trans (Nat.le_of_ble_eq_true rfl) hRl)⟩) ⟨PG.blind, va_recv hK hP (ci := 11) (q0 := 0) rfl rfl, fun U hU hW => ⟨rfl, PG.at hPc hK hDc hN hU hW⟩⟩ rfl rfl hl.1 rfl (lv_room (Nat.le_of_ble_eq_true rfl)) dX11_lend_2 ⟨(Nat.le_trans (Nat.le_of_ble_eq_true rfl) hRc), (Nat.le_trans (Nat.le_of_ble_eq_true rfl) hRs)⟩) hS (fun q _ h => hFc q h) hFc (fun r_2 M_3 t H_1 locs ht hvm hw hB hz1 hk1 hS => ?_)
  have hp_4 := hw
  obtain ⟨hP1, hD1⟩ := hB
  rw [ht] at hP1
  have hP : va_P D vwCl ([(xa, (b11_1 x0 (nI x1) x2 (nI x3) x4 x5 x6 x7 x8 x9 x10))] ++ va_pl L M) H_1 := hP1
  have hD : va_D A ([(xa, (b11_1 x0 (nI x1) x2 (nI x3) x4 x5 x6 x7 x8 x9 x10))] ++ va_pl L M) := hD1.mono hFc
  obtain ⟨hp_4, hqx⟩ := hp_4
  rcases r_2 with _ | b_5
  · have hz := rfl (a := 0)
    refine lv_astoreN (lv' := [(5, .null), (0, .ref xa), (1, .int k1), (2, .int k2), (3, .int k3), (4, .int k4)]) hx hb dX11_lend_5 hl (by decide) rfl (fun ls hl => ?_)
    refine lv_aloadN hx hb dX11_lend_7 (lv_at hl 0 rfl) ?_
    refine lv_ifnonnullN hx hb dX11_lend_9 ?_
    refine lv_null hx hb dX11_lend_12 ?_
    refine lv_goto (tgt := 22) hx hb dX11_lend_13 (by decide) ?_
    refine lv_astoreN (lv' := [(6, .null), (5, .null), (0, .ref xa), (1, .int k1), (2, .int k2), (3, .int k3), (4, .int k4)]) hx hb dX11_lend_22 hl (by decide) rfl (fun ls hl => ?_)
    refine lv_aloadN hx hb dX11_lend_24 (lv_at hl 0 rfl) ?_
    refine lv_ifnonnullN hx hb dX11_lend_26 ?_
    refine lv_aload_n hx hb dX11_lend_29 rfl (lv_at hl 2 rfl) ?_
    refine lv_iconst (v := 1) hx hb dX11_lend_30 (by decide) ?_
    have hPc := hP.sub (ws' := [(xa, (b11_1 x0 (nI x1) x2 (nI x3) x4 x5 x6 x7 x8 x9 x10))]) [0] rfl
    have hDc := hD.sub (ws' := [(xa, (b11_1 x0 (nI x1) x2 (nI x3) x4 x5 x6 x7 x8 x9 x10))]) [0] (by decide) rfl
    have hKc := hK.sub (tys' := []) [] rfl
    have hFc := va_free (wc := [(xa, (b11_1 x0 (nI x1) x2 (nI x3) x4 x5 x6 x7 x8 x9 x10))]) hD hS hA [0] rfl
    refine va_calli (va_runV (As := [.int 1]) (rest := []) ⟨hx, hb, hml, hown, hg⟩ (k_refuse l D H_1.size xa x0 (nI x1) x2 (nI x3) x4 x5 x6 x7 x8 x9 x10 1) (cwV 1 hg (gV wd_344 wd_345 wd_346 wd_3 wd_347) rfl rfl rfl (by decide +kernel) ⟨(Nat.le_trans (Nat.le_of_ble_eq_true rfl) hRf), (Nat.le_trans (Nat.le_of_ble_eq_true rfl) hRl)⟩) ⟨Pr.blind, va_recv hK hP (ci := 11) (q0 := 0) rfl rfl, fun U hU hW => ⟨rfl, Pr.at hPc hKc hDc hN hU hW⟩⟩ rfl rfl hl.1 rfl (lv_room (Nat.le_of_ble_eq_true rfl)) dX11_lend_31 ⟨(Nat.le_trans (Nat.le_of_ble_eq_true rfl) hRc), (Nat.le_trans (Nat.le_of_ble_eq_true rfl) hRs)⟩) hS (fun q _ h => hFc q h) hFc (fun r_7 M_8 t H_6 locs ht hvm hw hB hz1 hk1 hS => ?_)
    have hp_9 := hw
    obtain ⟨hP1, hK1, hD1⟩ := hB
    rw [ht] at hP1
    obtain ⟨hP, hD⟩ := va_joinQ (X := [(xa, (b11_1 x0 (nI x1) x2 (nI x3) x4 x5 x6 x7 x8 x9 x10))]) (cx := [(xa, (b11_1 x0 (nI x1) x2 (nI x3) x4 x5 x6 x7 x8 x9 x10))]) (wr := []) (w1 := [(xa, (b11_1 x0 (nI x1) x2 (nI x3) x4 x5 x6 x7 x8 1 (-1)))]) (pl := va_pl L M) hP hD [0] [] rfl rfl (by decide) (by decide) hk1 hFc hP1 hD1
    have hP : va_P D vwCl ([(xa, (b11_1 x0 (nI x1) x2 (nI x3) x4 x5 x6 x7 x8 1 (-1)))] ++ va_pl L M) H_6 := hP
    have hD : va_D A ([(xa, (b11_1 x0 (nI x1) x2 (nI x3) x4 x5 x6 x7 x8 1 (-1)))] ++ va_pl L M) := hD
    have hq := Eq.symm hp_9
    subst hq
    have hnh := hqx.2 rfl
    have hno : ¬ okLd x1 SX k1 k2 k3 k4 := fun q9 => by unfold okLd okH at q9; first | omega | (obtain ⟨⟨_, _⟩, _, _, _, _, _, _⟩ := q9; first | omega | contradiction)
    rw [hQ]
    exact W.iret (v := (-1)) hx hb hr (fun t ht hW9 => ⟨⟨(-1), M, rfl, ⟨hW, hF, hT9, (by unfold sxLd; rw [if_neg hno]; exact hC.mono), (by unfold anLd; rw [if_neg hno])⟩, ⟨1, by rw [ht]; exact hP, hD⟩⟩, hS.F ht⟩) hS.2.2 dX11_lend_34
  · have hb_10 := hp_4 b_5 rfl
    refine lv_astore (lv' := [(5, .ref b_5), (0, .ref xa), (1, .int k1), (2, .int k2), (3, .int k3), (4, .int k4)]) hx hb dX11_lend_5 hl (by decide) rfl (fun ls hl => ?_)
    obtain ⟨hr9, hb9⟩ := hqx.1 b_5 rfl
    have hck : ((k1 : Int32).toNatClampNeg : Int) = (k1 : Int32).toInt := clT (by omega)
    have hkn : (k1 : Int32).toNatClampNeg < x1 := by omega
    have hSM := hC.at hkn hb9
    have hSVk := hSV (k1 : Int32).toNatClampNeg hkn
    have hHIk := hHI (k1 : Int32).toNatClampNeg hkn
    have hV : VC Bo K L M M b_5 (cfx M b_5) (cax M b_5) := VC.rf b_5 hC.oc
    obtain ⟨v11_0, v11_1, v11_2, v11_3, v11_4, v11_5, v11_6, v11_7, v11_8, v11_9, v11_10, v11_11, v11_12, v11_13, v11_14, v11_15, v11_16, v11_17, v11_18, v11_19, hM11, h11_3, h11_4, h11_5, h11_6, h11_7, h11_8, h11_9, h11_10, h11_11, h11_12, h11_13, h11_16, h11_17, h11_18, h11_19⟩ := hW.open_2 hb_10
    have hA_12 : (cV 2 M b_5 0).toInt = (v11_0 : Int32).toInt := by rw [cV_of hM11 rfl]
    have hA_13 : (cV 2 M b_5 1).toInt = (v11_1 : Int32).toInt := by rw [cV_of hM11 rfl]
    have hA_14 : (cV 2 M b_5 2).toInt = (v11_2 : Int32).toInt := by rw [cV_of hM11 rfl]
    have hA_15 : (cV 2 M b_5 4).toInt = ((v11_4 : Nat) : Int) := by rw [cV_of hM11 rfl]; exact nI_toInt (by omega)
    have hA_16 : (cV 2 M b_5 5).toInt = ((v11_5 : Nat) : Int) := by rw [cV_of hM11 rfl]; exact nI_toInt (by omega)
    have hA_17 : (cV 2 M b_5 9).toInt = ((v11_9 : Nat) : Int) := by rw [cV_of hM11 rfl]; exact nI_toInt (by omega)
    have hA_18 : (cV 2 M b_5 11).toInt = ((v11_11 : Nat) : Int) := by rw [cV_of hM11 rfl]; exact nI_toInt (by omega)
    have hA_19 : (cV 2 M b_5 15).toInt = (v11_15 : Int32).toInt := by rw [cV_of hM11 rfl]
    have hq0 : (cV 2 M b_5 1).toInt = SX (k1 : Int32).toNatClampNeg 0 := hSM.x0
    have hq1 : (cV 2 M b_5 2).toInt = SX (k1 : Int32).toNatClampNeg 1 := hSM.x1
    have hq10 : (cV 2 M b_5 9).toInt = SX (k1 : Int32).toNatClampNeg 10 := hSM.x10
    have hq11 : (cV 2 M b_5 11).toInt = SX (k1 : Int32).toNatClampNeg 11 := hSM.x11
    have hq12 : (cV 2 M b_5 4).toInt = SX (k1 : Int32).toNatClampNeg 12 := hSM.x12
    have hq13 : (cV 2 M b_5 5).toInt = SX (k1 : Int32).toNatClampNeg 13 := hSM.x13
    have hq14 : (cV 1 M v11_16 3).toInt = SX (k1 : Int32).toNatClampNeg 14 := by have h9 := hSM.x14; rw [← h9]; show _ = (cV 1 M (rA 2 M b_5 16) 3).toInt; rw [rA_of (j := 16) hM11 rfl]
    have hq15 : (cV 1 M v11_17 3).toInt = SX (k1 : Int32).toNatClampNeg 15 := by have h9 := hSM.x15; rw [← h9]; show _ = (cV 1 M (rA 2 M b_5 17) 3).toInt; rw [rA_of (j := 17) hM11 rfl]
    have hq16 : (cV 10 M v11_18 2).toInt = SX (k1 : Int32).toNatClampNeg 16 := by have h9 := hSM.x16; rw [← h9]; show _ = (cV 10 M (rA 2 M b_5 18) 2).toInt; rw [rA_of (j := 18) hM11 rfl]
    have hq19 : (cV 10 M v11_18 1).toInt = cfx M b_5 19 := by show _ = (cV 10 M (rA 2 M b_5 18) 1).toInt; rw [rA_of (j := 18) hM11 rfl]
    have hun := hSM.un
    have hl16 : (ALc (M (rA 1 M v11_16 1)) : Int) = 120 := by have h9 := hC.oc.l16 hW hb_10; rw [rA_of (j := 16) hM11 rfl] at h9; omega
    have hl17 : (ALc (M (rA 1 M v11_17 1)) : Int) = 20 := by have h9 := hC.oc.l17 hW hb_10; rw [rA_of (j := 17) hM11 rfl] at h9; omega
    have hbd0 := hSVk.b0
    have hbd1 := hSVk.b1
    have hbd10 := hSVk.b10
    have hbd11 := hSVk.b11
    have hbd12 := hSVk.b12
    have hbd13 := hSVk.b13
    have hbd14 := hSVk.b14
    have hbd15 := hSVk.b15
    have hbd16 := hSVk.b16
    have hqx14 : cfx M b_5 14 = SX (k1 : Int32).toNatClampNeg 14 := hSM.x14
    have hqx15 : cfx M b_5 15 = SX (k1 : Int32).toNatClampNeg 15 := hSM.x15
    have hqx16 : cfx M b_5 16 = SX (k1 : Int32).toNatClampNeg 16 := hSM.x16
    refine lv_aload hx hb dX11_lend_7 (lv_at hl 0 rfl) ?_
    refine lv_ifnonnull (tgt := 16) hx hb dX11_lend_9 (by decide) ?_
    refine lv_aload hx hb dX11_lend_16 (lv_at hl 0 rfl) ?_
    refine lv_iload_n hx hb dX11_lend_18 rfl (lv_at hl 3 rfl) ?_
    have hPc : va_P D vwCl ([] ++ va_pl L M) H_1 := hP.part (cx := []) [] rfl
    have hDc : va_D A ([] ++ va_pl L M) := hD.part (cx := []) [] (by decide) rfl
    have hFc : ∀ q, va_A ([] ++ va_pl L M) H_1.size q → A q := pg_free hDc hS hA
    refine va_callq (va_runV (As := [.int k2]) (rest := []) ⟨hx, hb, hml, hown, hg⟩ (e_X2_tenureAt l D cy K L M H_1.size b_5 k2  hW hb_10) (cwV 1 hg (gV wd_405 wd_55 wd_56 wd_57 wd_58) rfl rfl rfl (by decide +kernel) ⟨(Nat.le_trans (Nat.le_of_ble_eq_true rfl) hRf), (Nat.le_trans (Nat.le_of_ble_eq_true rfl) hRl)⟩) ⟨PG.blind, pg_recv hK hP hb_10.1 hM11 rfl, fun U hU hW => ⟨rfl, PG.at hPc hK hDc hN hU hW⟩⟩ rfl rfl hl.1 rfl (lv_room (Nat.le_of_ble_eq_true rfl)) dX11_lend_19 ⟨(Nat.le_trans (Nat.le_of_ble_eq_true rfl) hRc), (Nat.le_trans (Nat.le_of_ble_eq_true rfl) hRs)⟩) hS (fun q _ h => hFc q h) hFc (fun r_21 M_22 t H_20 locs ht hvm hw hB hz1 hk1 hS => ?_)
    have hp_23 := hw
    obtain ⟨hP1, hD1⟩ := hB
    rw [ht] at hP1
    obtain ⟨hP, hD⟩ := va_joinP (X := [(xa, (b11_1 x0 (nI x1) x2 (nI x3) x4 x5 x6 x7 x8 x9 x10))]) (cx := []) (wr := [(xa, (b11_1 x0 (nI x1) x2 (nI x3) x4 x5 x6 x7 x8 x9 x10))]) (rx := []) (pl := va_pl L M) (pl1 := va_pl L M) hP hD [] [0] rfl rfl (by decide) (by decide) hk1 hFc hP1 hD1
    have hP : va_P D vwCl ([(xa, (b11_1 x0 (nI x1) x2 (nI x3) x4 x5 x6 x7 x8 x9 x10))] ++ va_pl L M) H_20 := hP
    have hD : va_D A ([(xa, (b11_1 x0 (nI x1) x2 (nI x3) x4 x5 x6 x7 x8 x9 x10))] ++ va_pl L M) := hD
    obtain ⟨hp_23, hqx⟩ := hp_23
    rcases r_21 with _ | b_24
    · have hz := rfl (a := 0)
      have hnt : ¬ (0 ≤ (k2 : Int32).toInt ∧ (k2 : Int32).toInt < SX (k1 : Int32).toNatClampNeg 10) := fun w9 => by
        have hct : ((k2 : Int32).toNatClampNeg : Int) = (k2 : Int32).toInt := clT w9.1
        rcases hqx.2 rfl with q9 | q9
        · exact q9 (by omega)
        · have h9 := (hSM.tn (k2 : Int32).toNatClampNeg (by omega)).mpr (by omega)
          rw [tn0 q9 (by omega)] at h9
          exact absurd h9 (by decide)
      refine lv_astoreN (lv' := [(6, .null), (5, .ref b_5), (0, .ref xa), (1, .int k1), (2, .int k2), (3, .int k3), (4, .int k4)]) hx hb dX11_lend_22 hl (by decide) rfl (fun ls hl => ?_)
      refine lv_aloadN hx hb dX11_lend_24 (lv_at hl 0 rfl) ?_
      refine lv_ifnonnullN hx hb dX11_lend_26 ?_
      refine lv_aload_n hx hb dX11_lend_29 rfl (lv_at hl 2 rfl) ?_
      refine lv_iconst (v := 1) hx hb dX11_lend_30 (by decide) ?_
      have hPc := hP.sub (ws' := [(xa, (b11_1 x0 (nI x1) x2 (nI x3) x4 x5 x6 x7 x8 x9 x10))]) [0] rfl
      have hDc := hD.sub (ws' := [(xa, (b11_1 x0 (nI x1) x2 (nI x3) x4 x5 x6 x7 x8 x9 x10))]) [0] (by decide) rfl
      have hKc := hK.sub (tys' := []) [] rfl
      have hFc := va_free (wc := [(xa, (b11_1 x0 (nI x1) x2 (nI x3) x4 x5 x6 x7 x8 x9 x10))]) hD hS hA [0] rfl
      refine va_calli (va_runV (As := [.int 1]) (rest := []) ⟨hx, hb, hml, hown, hg⟩ (k_refuse l D H_20.size xa x0 (nI x1) x2 (nI x3) x4 x5 x6 x7 x8 x9 x10 1) (cwV 1 hg (gV wd_344 wd_345 wd_346 wd_3 wd_347) rfl rfl rfl (by decide +kernel) ⟨(Nat.le_trans (Nat.le_of_ble_eq_true rfl) hRf), (Nat.le_trans (Nat.le_of_ble_eq_true rfl) hRl)⟩) ⟨Pr.blind, va_recv hK hP (ci := 11) (q0 := 0) rfl rfl, fun U hU hW => ⟨rfl, Pr.at hPc hKc hDc hN hU hW⟩⟩ rfl rfl hl.1 rfl (lv_room (Nat.le_of_ble_eq_true rfl)) dX11_lend_31 ⟨(Nat.le_trans (Nat.le_of_ble_eq_true rfl) hRc), (Nat.le_trans (Nat.le_of_ble_eq_true rfl) hRs)⟩) hS (fun q _ h => hFc q h) hFc (fun r_26 M_27 t H_25 locs ht hvm hw hB hz1 hk1 hS => ?_)
      have hp_28 := hw
      obtain ⟨hP1, hK1, hD1⟩ := hB
      rw [ht] at hP1
      obtain ⟨hP, hD⟩ := va_joinQ (X := [(xa, (b11_1 x0 (nI x1) x2 (nI x3) x4 x5 x6 x7 x8 x9 x10))]) (cx := [(xa, (b11_1 x0 (nI x1) x2 (nI x3) x4 x5 x6 x7 x8 x9 x10))]) (wr := []) (w1 := [(xa, (b11_1 x0 (nI x1) x2 (nI x3) x4 x5 x6 x7 x8 1 (-1)))]) (pl := va_pl L M) hP hD [0] [] rfl rfl (by decide) (by decide) hk1 hFc hP1 hD1
      have hP : va_P D vwCl ([(xa, (b11_1 x0 (nI x1) x2 (nI x3) x4 x5 x6 x7 x8 1 (-1)))] ++ va_pl L M) H_25 := hP
      have hD : va_D A ([(xa, (b11_1 x0 (nI x1) x2 (nI x3) x4 x5 x6 x7 x8 1 (-1)))] ++ va_pl L M) := hD
      have hq := Eq.symm hp_28
      subst hq
      have hno : ¬ okLd x1 SX k1 k2 k3 k4 := fun q9 => by unfold okLd okH at q9; first | omega | (obtain ⟨⟨_, _⟩, _, _, _, _, _, _⟩ := q9; first | omega | contradiction)
      rw [hQ]
      exact W.iret (v := (-1)) hx hb hr (fun t ht hW9 => ⟨⟨(-1), M, rfl, ⟨hW, hF, hT9, (by unfold sxLd; rw [if_neg hno]; exact hC.mono), (by unfold anLd; rw [if_neg hno])⟩, ⟨1, by rw [ht]; exact hP, hD⟩⟩, hS.F ht⟩) hS.2.2 dX11_lend_34
    · have hb_29 := hp_23 b_24 rfl
      obtain ⟨htc, hst⟩ := hqx.1 _ rfl
      have hct : ((k2 : Int32).toNatClampNeg : Int) = (k2 : Int32).toInt := clT (by omega)
      have htn : (k2 : Int32).toNatClampNeg < 24 := by omega
      have hlt := lk_te hst htn
      have hte := hSM.te (k2 : Int32).toNatClampNeg (by omega)
      have ht21 : (SY (k1 : Int32).toNatClampNeg 21 (k2 : Int32).toNatClampNeg).toInt = (cV 9 M b_24 3).toInt := by rw [← hte.2.2.1, hlt.2.2.1]
      have ht22 : (SY (k1 : Int32).toNatClampNeg 22 (k2 : Int32).toNatClampNeg).toInt = (cV 9 M b_24 5).toInt := by rw [← hte.2.2.2.1, hlt.2.2.2.1]
      have htm : cV 9 M b_24 0 = k2 := by rw [hC.oc.nm b_5 hb_10 _ b_24 htn hst]; exact (i32_of (by omega) (by omega)).symm
      obtain ⟨v30_0, v30_1, v30_2, v30_3, v30_4, v30_5, v30_6, v30_7, v30_8, v30_9, v30_10, v30_11, v30_12, v30_13, v30_14, v30_15, hM30, h30_0, h30_1, h30_4, h30_8⟩ := hW.open_9 hb_29
      have hA_31 : (cV 9 M b_24 0).toInt = ((v30_0 : Nat) : Int) := by rw [cV_of hM30 rfl]; exact nI_toInt (by omega)
      have hA_32 : (cV 9 M b_24 2).toInt = (v30_2 : Int32).toInt := by rw [cV_of hM30 rfl]
      have hA_33 : (cV 9 M b_24 3).toInt = (v30_3 : Int32).toInt := by rw [cV_of hM30 rfl]
      have hA_34 : (cV 9 M b_24 4).toInt = (v30_4 : Int32).toInt := by rw [cV_of hM30 rfl]
      have hA_35 : (cV 9 M b_24 5).toInt = (v30_5 : Int32).toInt := by rw [cV_of hM30 rfl]
      have hA_36 : (cV 9 M b_24 6).toInt = (v30_6 : Int32).toInt := by rw [cV_of hM30 rfl]
      have hA_37 : (cV 9 M b_24 7).toInt = (v30_7 : Int32).toInt := by rw [cV_of hM30 rfl]
      have hvI : (v30_12 : Int64).toInt = SX k1.toNatClampNeg (lKey 3 (k2 : Int32).toNatClampNeg) := by rw [← cL_of (j := 12) hM30 rfl, ← lk_lo hst htn]; exact hSM.ex.lo (k2 : Int32).toNatClampNeg (by omega)
      have hv12 : v30_12 = LV (SX k1.toNatClampNeg) (k2 : Int32).toNatClampNeg := by unfold LV; rw [← hvI, Int64.ofInt_toInt]
      have hlb := hSM.ex.lb (k2 : Int32).toNatClampNeg (by omega)
      rw [← hvI] at hlb
      refine lv_astore (lv' := [(6, .ref b_24), (5, .ref b_5), (0, .ref xa), (1, .int k1), (2, .int k2), (3, .int k3), (4, .int k4)]) hx hb dX11_lend_22 hl (by decide) rfl (fun ls hl => ?_)
      refine lv_aload hx hb dX11_lend_24 (lv_at hl 0 rfl) ?_
      refine lv_ifnonnull (tgt := 35) hx hb dX11_lend_26 (by decide) ?_
      refine lv_iload_n hx hb dX11_lend_35 rfl (lv_at hl 5 rfl) ?_
      have hPc : va_P D vwCl ([] ++ va_pl L M) H_20 := hP.part (cx := []) [] rfl
      have hDc : va_D A ([] ++ va_pl L M) := hD.part (cx := []) [] (by decide) rfl
      have hFc : ∀ q, va_A ([] ++ va_pl L M) H_20.size q → A q := pg_free hDc hS hA
      refine va_calli (va_runS (As := [.int k3]) (rest := []) ⟨hx, hb, hml, hown, hg⟩ (e_X11_isSum l D cy K L M H_20.size k3  hW ) (va_cwS 1 hg (gS wd_384 wd_385 wd_3 wd_386) rfl rfl rfl (by decide +kernel) ⟨(Nat.le_trans (Nat.le_of_ble_eq_true rfl) hRf), (Nat.le_trans (Nat.le_of_ble_eq_true rfl) hRl)⟩) ⟨PG.blind, fun U hU hW => ⟨rfl, PG.at hPc hK hDc hN hU hW⟩⟩ rfl rfl hl.1 rfl (lv_room (Nat.le_of_ble_eq_true rfl)) dX11_lend_36 ⟨(Nat.le_trans (Nat.le_of_ble_eq_true rfl) hRc), (Nat.le_trans (Nat.le_of_ble_eq_true rfl) hRs)⟩) hS (fun q _ h => hFc q h) hFc (fun r_39 M_40 t H_38 locs ht hvm hw hB hz1 hk1 hS => ?_)
      have hp_41 := hw
      obtain ⟨hP1, hD1⟩ := hB
      rw [ht] at hP1
      obtain ⟨hP, hD⟩ := va_joinP (X := [(xa, (b11_1 x0 (nI x1) x2 (nI x3) x4 x5 x6 x7 x8 x9 x10))]) (cx := []) (wr := [(xa, (b11_1 x0 (nI x1) x2 (nI x3) x4 x5 x6 x7 x8 x9 x10))]) (rx := []) (pl := va_pl L M) (pl1 := va_pl L M) hP hD [] [0] rfl rfl (by decide) (by decide) hk1 hFc hP1 hD1
      have hP : va_P D vwCl ([(xa, (b11_1 x0 (nI x1) x2 (nI x3) x4 x5 x6 x7 x8 x9 x10))] ++ va_pl L M) H_38 := hP
      have hD : va_D A ([(xa, (b11_1 x0 (nI x1) x2 (nI x3) x4 x5 x6 x7 x8 x9 x10))] ++ va_pl L M) := hD
      rcases hp_41 with ⟨rfl, c_42⟩ | ⟨rfl, c_43⟩
      · have hz := rfl (a := 0)
        refine lv_if_eq (tgt := 58) hx hb dX11_lend_39 (by decide) (fun c_44 => absurd c_44 (by decide)) (fun _ => ?_)
        refine lv_iload hx hb dX11_lend_42 (lv_at hl 6 rfl) ?_
        refine lv_if_eq (tgt := 64) hx hb dX11_lend_44 (by decide) (fun c_45 => ?_) (fun c_45 => ?_)
        · have hz := rfl (a := 0)
          refine lv_iload hx hb dX11_lend_64 (lv_at hl 6 rfl) ?_
          refine lv_if_eq (tgt := 80) hx hb dX11_lend_66 (by decide) (fun c_46 => ?_) (fun c_46 => absurd c_45 c_46)
          refine lv_aload hx hb dX11_lend_80 (lv_at hl 0 rfl) ?_
          refine pg_get (D := D) (ci := 9) (v := .long v30_12) (C := RX9) (T := TX9) (N := 16) hx hb hg inG9 hown hK hP hb_29.1 hM30 rfl 12 (by decide) (hg _ wd_418) (fun _ h9 => h9) rfl dX11_lend_82 ?_
          refine lv_iload_n hx hb dX11_lend_85 rfl (lv_at hl 5 rfl) ?_
          refine lv_i2l hx hb dX11_lend_86 rfl ?_
          refine lv_topl (fun f_47 ef_47 => ?_)
          refine lv_ladd hx hb dX11_lend_87 ?_
          refine lv_topl (fun f_48 ef_48 => ?_)
          refine lv_lstore (lv' := [(7, .long f_48), (6, .ref b_24), (5, .ref b_5), (0, .ref xa), (1, .int k1), (2, .int k2), (3, .int k3), (4, .int k4)]) hx hb dX11_lend_88 hl (by decide) rfl (fun ls hl => ?_)
          refine lv_lload hx hb dX11_lend_90 (lv_at hl 0 rfl) ?_
          refine lv_ldc2 (v := 1000000000) hx hb hown (hg _ wd_419) dX11_lend_92 ?_
          refine W.lcmp hx hb dX11_lend_95 ?_
          refine lv_if_le (tgt := 106) hx hb dX11_lend_96 (by decide) (fun c_49 => ?_) (fun c_49 => ?_)
          · have hz := rfl (a := 0)
            have d_50 : f_48 ≤ 1000000000 := lc_let c_49
            refine lv_aload hx hb dX11_lend_106 (lv_at hl 1 rfl) ?_
            refine lv_lload hx hb dX11_lend_108 (lv_at hl 0 rfl) ?_
            refine pg_put (D := D) (ci := 9) (v := .long f_48) (ty := .long) (C := RX9) (T := TX9) (N := 16) hx hb hg inG9 tyX9 tyX9_ok nmX9 hown hK hP hD hS hb_29.1 hM30 rfl 12 (by decide) (hg _ wd_418) (fun _ h9 => h9) rfl (by decide +kernel) rfl rfl (Nat.le_of_ble_eq_true rfl) dX11_lend_110 (fun H_51 locs hP hD hS => ?_)
            obtain ⟨M_52, eM_52⟩ : ∃ M1 : Hp, M1 = va_up M b_24 ((b9_9 (nI v30_0) v30_1 v30_2 v30_3 v30_4 v30_5 v30_6 v30_7 v30_8 v30_9 v30_10 v30_11 f_48 v30_13 v30_14 v30_15)) := ⟨_, rfl⟩
            have sM_52 : M_52 = sF M b_24 12 (.long f_48) := eM_52.trans (sF_of (j := 12) (v := .long f_48) hM30 rfl)
            have hV : VC Bo K L M M_52 b_5 (va_up (cfx M b_5) (lKey 3 (k2 : Int32).toNatClampNeg) (f_48 : Int64).toInt) (cax M b_5) := by rw [sM_52]; exact VC.s9_12 hV hW hb_10 htn hst hM30 (Nat.le_of_ble_eq_true rfl)
            have hs_53 : RFc (M_52 (rA 2 M_52 b_5 8)) (k2 : Int32).toNatClampNeg = some b_24 := by rw [sM_52, rA_c (cVt_sF hM30 2 _ 8 (Or.inl (by decide))), RFc_sF]; exact hst
            have hP : va_P D vwCl ([(xa, (b11_1 x0 (nI x1) x2 (nI x3) x4 x5 x6 x7 x8 x9 x10))] ++ va_pl L M_52) H_51 := by rw [eM_52]; exact hP
            have hD : va_D A ([(xa, (b11_1 x0 (nI x1) x2 (nI x3) x4 x5 x6 x7 x8 x9 x10))] ++ va_pl L M_52) := by rw [eM_52]; exact hD
            have hW : WOK cy K L M_52 := by rw [eM_52]; exact hW.up_9 hb_29 ⟨v30_0, v30_1, v30_2, v30_3, v30_4, v30_5, v30_6, v30_7, v30_8, v30_9, v30_10, v30_11, f_48, v30_13, v30_14, v30_15, rfl, h30_0, h30_1, h30_4, h30_8⟩
            have hF : fr K L [9] M M_52 := by rw [eM_52]; exact hF.up hb_29 (by decide)
            have hT9 : fT 9 K L [12] M M_52 := by rw [eM_52]; exact hT9.up (i := 12) hM30 rfl (by decide)
            have hM_54 : M_52 b_24 = (b9_9 (nI v30_0) v30_1 v30_2 v30_3 v30_4 v30_5 v30_6 v30_7 v30_8 v30_9 v30_10 v30_11 f_48 v30_13 v30_14 v30_15) := by rw [eM_52]; exact va_up_self _ _ _
            have hM_55 : M_52 b_5 = (b2_2 v11_0 v11_1 v11_2 v11_3 (nI v11_4) (nI v11_5) v11_6 v11_7 v11_8 (nI v11_9) v11_10 (nI v11_11) v11_12 v11_13 v11_14 v11_15 v11_16 v11_17 v11_18 v11_19) := by rw [eM_52, va_up_ne _ _ (hb_10.neT hb_29 (by decide))]; exact hM11
            refine lv_aload_n hx hb dX11_lend_113 rfl (lv_at hl 3 rfl) ?_
            refine lv_lload hx hb dX11_lend_114 (lv_at hl 0 rfl) ?_
            refine lv_l2i hx hb dX11_lend_116 rfl ?_
            refine lv_topi (fun f_56 ef_56 => ?_)
            have hPc := hP.sub (ws' := [(xa, (b11_1 x0 (nI x1) x2 (nI x3) x4 x5 x6 x7 x8 x9 x10))]) [0] rfl
            have hDc := hD.sub (ws' := [(xa, (b11_1 x0 (nI x1) x2 (nI x3) x4 x5 x6 x7 x8 x9 x10))]) [0] (by decide) rfl
            have hKc := hK.sub (tys' := []) [] rfl
            have hFc := va_free (wc := [(xa, (b11_1 x0 (nI x1) x2 (nI x3) x4 x5 x6 x7 x8 x9 x10))]) hD hS hA [0] rfl
            refine va_calli (va_runV (As := [.int f_56]) (rest := []) ⟨hx, hb, hml, hown, hg⟩ (k_accept l D H_51.size xa x0 (nI x1) x2 (nI x3) x4 x5 x6 x7 x8 x9 x10 f_56) (cwV 1 hg (gV wd_356 wd_357 wd_358 wd_3 wd_359) rfl rfl rfl (by decide +kernel) ⟨(Nat.le_trans (Nat.le_of_ble_eq_true rfl) hRf), (Nat.le_trans (Nat.le_of_ble_eq_true rfl) hRl)⟩) ⟨Pr.blind, va_recv hK hP (ci := 11) (q0 := 0) rfl rfl, fun U hU hW => ⟨rfl, Pr.at hPc hKc hDc hN hU hW⟩⟩ rfl rfl hl.1 rfl (lv_room (Nat.le_of_ble_eq_true rfl)) dX11_lend_117 ⟨(Nat.le_trans (Nat.le_of_ble_eq_true rfl) hRc), (Nat.le_trans (Nat.le_of_ble_eq_true rfl) hRs)⟩) hS (fun q _ h => hFc q h) hFc (fun r_58 M_59 t H_57 locs ht hvm hw hB hz1 hk1 hS => ?_)
            have hp_60 := hw
            obtain ⟨hP1, hK1, hD1⟩ := hB
            rw [ht] at hP1
            obtain ⟨hP, hD⟩ := va_joinQ (X := [(xa, (b11_1 x0 (nI x1) x2 (nI x3) x4 x5 x6 x7 x8 x9 x10))]) (cx := [(xa, (b11_1 x0 (nI x1) x2 (nI x3) x4 x5 x6 x7 x8 x9 x10))]) (wr := []) (w1 := [(xa, (b11_1 x0 (nI x1) x2 (nI x3) x4 x5 x6 x7 x8 0 (-1)))]) (pl := va_pl L M_52) hP hD [0] [] rfl rfl (by decide) (by decide) hk1 hFc hP1 hD1
            have hP : va_P D vwCl ([(xa, (b11_1 x0 (nI x1) x2 (nI x3) x4 x5 x6 x7 x8 0 (-1)))] ++ va_pl L M_52) H_57 := hP
            have hD : va_D A ([(xa, (b11_1 x0 (nI x1) x2 (nI x3) x4 x5 x6 x7 x8 0 (-1)))] ++ va_pl L M_52) := hD
            have hq := Eq.symm hp_60
            subst hq
            have hI_61 : (k4 : Int32).toInt = (0 : Int) := ieqI rfl rfl c_45
            have hI_62 : (k4 : Int32).toInt = (0 : Int) := ieqI rfl rfl c_46
            have hcA : ¬ (k4 ≠ 0 ∧ ¬ k3.toInt64 ≤ LV (SX k1.toNatClampNeg) (k2 : Int32).toNatClampNeg) := fun w => w.1 c_46
            have hcB : ¬ (k4 = 0 ∧ ¬ LV (SX k1.toNatClampNeg) (k2 : Int32).toNatClampNeg + k3.toInt64 ≤ 1000000000) := fun w => w.2 (by rw [← hv12, ← ef_47, ← ef_48]; exact d_50)
            have hyes : okLd x1 SX k1 k2 k3 k4 := by unfold okLd okH; refine ⟨⟨?_, ?_⟩, ?_, ?_, ?_, ?_, ?_, ?_⟩ <;> first | omega | assumption
            have hd9 := Int64.le_iff_toInt_le.mp d_50
            rw [show (1000000000 : Int64).toInt = 1000000000 from rfl] at hd9
            have hnw : f_48 = nwLd (SX k1.toNatClampNeg) (k2 : Int32).toNatClampNeg k3 k4 := by unfold nwLd; rw [if_pos c_46, ef_48, hv12, ef_47]
            have hni : (f_48 : Int64).toInt = (v30_12 : Int64).toInt + k3.toInt := by rw [ef_48, ef_47]; exact ld_add hlb.1 hlb.2 (by omega) (by omega)
            have hnb : 0 ≤ (f_48 : Int64).toInt ∧ (f_48 : Int64).toInt ≤ 1000000000 := by omega
            rw [hnw] at hnb
            rw [hQ]
            exact W.iret (v := f_56) hx hb hr (fun t ht hW9 => ⟨⟨f_56, M_52, rfl, ⟨hW, hF, hT9, (by unfold sxLd; rw [if_pos hyes]; rw [hnw] at hV; have hZ := hC.fin hW0 i0 b1 hkn hb9 hV ext.rf (by rw [hF.at i0 (by decide)]) (fun q iq => ⟨iq, cR_c (fr.cv hF (by decide) q iq 3 rfl)⟩) ((hSM.lend (i := (k2 : Int32).toNatClampNeg) (by omega) hnb).up1); rw [va_upI] at hZ; exact hZ), (by unfold anLd; rw [if_pos hyes, ← hnw]; exact ef_56)⟩, ⟨0, by rw [ht]; exact hP, hD⟩⟩, hS.F ht⟩) hS.2.2 dX11_lend_120
          · have hz := rfl (a := 0)
            have d_50 : ¬ f_48 ≤ 1000000000 := lc_lef c_49
            refine lv_aload_n hx hb dX11_lend_99 rfl (lv_at hl 3 rfl) ?_
            refine lv_bipush (v := 9) hx hb dX11_lend_100 (by decide) ?_
            have hPc := hP.sub (ws' := [(xa, (b11_1 x0 (nI x1) x2 (nI x3) x4 x5 x6 x7 x8 x9 x10))]) [0] rfl
            have hDc := hD.sub (ws' := [(xa, (b11_1 x0 (nI x1) x2 (nI x3) x4 x5 x6 x7 x8 x9 x10))]) [0] (by decide) rfl
            have hKc := hK.sub (tys' := []) [] rfl
            have hFc := va_free (wc := [(xa, (b11_1 x0 (nI x1) x2 (nI x3) x4 x5 x6 x7 x8 x9 x10))]) hD hS hA [0] rfl
            refine va_calli (va_runV (As := [.int 9]) (rest := []) ⟨hx, hb, hml, hown, hg⟩ (k_refuse l D H_38.size xa x0 (nI x1) x2 (nI x3) x4 x5 x6 x7 x8 x9 x10 9) (cwV 1 hg (gV wd_344 wd_345 wd_346 wd_3 wd_347) rfl rfl rfl (by decide +kernel) ⟨(Nat.le_trans (Nat.le_of_ble_eq_true rfl) hRf), (Nat.le_trans (Nat.le_of_ble_eq_true rfl) hRl)⟩) ⟨Pr.blind, va_recv hK hP (ci := 11) (q0 := 0) rfl rfl, fun U hU hW => ⟨rfl, Pr.at hPc hKc hDc hN hU hW⟩⟩ rfl rfl hl.1 rfl (lv_room (Nat.le_of_ble_eq_true rfl)) dX11_lend_102 ⟨(Nat.le_trans (Nat.le_of_ble_eq_true rfl) hRc), (Nat.le_trans (Nat.le_of_ble_eq_true rfl) hRs)⟩) hS (fun q _ h => hFc q h) hFc (fun r_64 M_65 t H_63 locs ht hvm hw hB hz1 hk1 hS => ?_)
            have hp_66 := hw
            obtain ⟨hP1, hK1, hD1⟩ := hB
            rw [ht] at hP1
            obtain ⟨hP, hD⟩ := va_joinQ (X := [(xa, (b11_1 x0 (nI x1) x2 (nI x3) x4 x5 x6 x7 x8 x9 x10))]) (cx := [(xa, (b11_1 x0 (nI x1) x2 (nI x3) x4 x5 x6 x7 x8 x9 x10))]) (wr := []) (w1 := [(xa, (b11_1 x0 (nI x1) x2 (nI x3) x4 x5 x6 x7 x8 9 (-1)))]) (pl := va_pl L M) hP hD [0] [] rfl rfl (by decide) (by decide) hk1 hFc hP1 hD1
            have hP : va_P D vwCl ([(xa, (b11_1 x0 (nI x1) x2 (nI x3) x4 x5 x6 x7 x8 9 (-1)))] ++ va_pl L M) H_63 := hP
            have hD : va_D A ([(xa, (b11_1 x0 (nI x1) x2 (nI x3) x4 x5 x6 x7 x8 9 (-1)))] ++ va_pl L M) := hD
            have hq := Eq.symm hp_66
            subst hq
            have hI_67 : (k4 : Int32).toInt = (0 : Int) := ieqI rfl rfl c_45
            have hI_68 : (k4 : Int32).toInt = (0 : Int) := ieqI rfl rfl c_46
            have hcA : ¬ (k4 ≠ 0 ∧ ¬ k3.toInt64 ≤ LV (SX k1.toNatClampNeg) (k2 : Int32).toNatClampNeg) := fun w => w.1 c_46
            have hcy : k4 = 0 ∧ ¬ LV (SX k1.toNatClampNeg) (k2 : Int32).toNatClampNeg + k3.toInt64 ≤ 1000000000 := ⟨c_46, by rw [← hv12, ← ef_47, ← ef_48]; exact d_50⟩
            have hno : ¬ okLd x1 SX k1 k2 k3 k4 := fun q9 => by unfold okLd okH at q9; first | omega | (obtain ⟨⟨_, _⟩, _, _, _, _, _, _⟩ := q9; first | omega | contradiction)
            rw [hQ]
            exact W.iret (v := (-1)) hx hb hr (fun t ht hW9 => ⟨⟨(-1), M, rfl, ⟨hW, hF, hT9, (by unfold sxLd; rw [if_neg hno]; exact hC.mono), (by unfold anLd; rw [if_neg hno])⟩, ⟨9, by rw [ht]; exact hP, hD⟩⟩, hS.F ht⟩) hS.2.2 dX11_lend_105
        · have hz := rfl (a := 0)
          refine lv_iload_n hx hb dX11_lend_47 rfl (lv_at hl 5 rfl) ?_
          refine lv_i2l hx hb dX11_lend_48 rfl ?_
          refine lv_topl (fun f_69 ef_69 => ?_)
          refine lv_aload hx hb dX11_lend_49 (lv_at hl 0 rfl) ?_
          refine pg_get (D := D) (ci := 9) (v := .long v30_12) (C := RX9) (T := TX9) (N := 16) hx hb hg inG9 hown hK hP hb_29.1 hM30 rfl 12 (by decide) (hg _ wd_418) (fun _ h9 => h9) rfl dX11_lend_51 ?_
          refine W.lcmp hx hb dX11_lend_54 ?_
          refine lv_if_le (tgt := 64) hx hb dX11_lend_55 (by decide) (fun c_70 => ?_) (fun c_70 => ?_)
          · have hz := rfl (a := 0)
            have d_71 : f_69 ≤ v30_12 := lc_let c_70
            refine lv_iload hx hb dX11_lend_64 (lv_at hl 6 rfl) ?_
            refine lv_if_eq (tgt := 80) hx hb dX11_lend_66 (by decide) (fun c_72 => absurd c_72 c_45) (fun c_72 => ?_)
            refine lv_aload hx hb dX11_lend_69 (lv_at hl 0 rfl) ?_
            refine pg_get (D := D) (ci := 9) (v := .long v30_12) (C := RX9) (T := TX9) (N := 16) hx hb hg inG9 hown hK hP hb_29.1 hM30 rfl 12 (by decide) (hg _ wd_418) (fun _ h9 => h9) rfl dX11_lend_71 ?_
            refine lv_iload_n hx hb dX11_lend_74 rfl (lv_at hl 5 rfl) ?_
            refine lv_i2l hx hb dX11_lend_75 rfl ?_
            refine lv_topl (fun f_73 ef_73 => ?_)
            refine lv_lsub hx hb dX11_lend_76 ?_
            refine lv_topl (fun f_74 ef_74 => ?_)
            refine lv_goto (tgt := 88) hx hb dX11_lend_77 (by decide) ?_
            refine lv_lstore (lv' := [(7, .long f_74), (6, .ref b_24), (5, .ref b_5), (0, .ref xa), (1, .int k1), (2, .int k2), (3, .int k3), (4, .int k4)]) hx hb dX11_lend_88 hl (by decide) rfl (fun ls hl => ?_)
            refine lv_lload hx hb dX11_lend_90 (lv_at hl 0 rfl) ?_
            refine lv_ldc2 (v := 1000000000) hx hb hown (hg _ wd_419) dX11_lend_92 ?_
            refine W.lcmp hx hb dX11_lend_95 ?_
            refine lv_if_le (tgt := 106) hx hb dX11_lend_96 (by decide) (fun c_75 => ?_) (fun c_75 => ?_)
            · have hz := rfl (a := 0)
              have d_76 : f_74 ≤ 1000000000 := lc_let c_75
              refine lv_aload hx hb dX11_lend_106 (lv_at hl 1 rfl) ?_
              refine lv_lload hx hb dX11_lend_108 (lv_at hl 0 rfl) ?_
              refine pg_put (D := D) (ci := 9) (v := .long f_74) (ty := .long) (C := RX9) (T := TX9) (N := 16) hx hb hg inG9 tyX9 tyX9_ok nmX9 hown hK hP hD hS hb_29.1 hM30 rfl 12 (by decide) (hg _ wd_418) (fun _ h9 => h9) rfl (by decide +kernel) rfl rfl (Nat.le_of_ble_eq_true rfl) dX11_lend_110 (fun H_77 locs hP hD hS => ?_)
              obtain ⟨M_78, eM_78⟩ : ∃ M1 : Hp, M1 = va_up M b_24 ((b9_9 (nI v30_0) v30_1 v30_2 v30_3 v30_4 v30_5 v30_6 v30_7 v30_8 v30_9 v30_10 v30_11 f_74 v30_13 v30_14 v30_15)) := ⟨_, rfl⟩
              have sM_78 : M_78 = sF M b_24 12 (.long f_74) := eM_78.trans (sF_of (j := 12) (v := .long f_74) hM30 rfl)
              have hV : VC Bo K L M M_78 b_5 (va_up (cfx M b_5) (lKey 3 (k2 : Int32).toNatClampNeg) (f_74 : Int64).toInt) (cax M b_5) := by rw [sM_78]; exact VC.s9_12 hV hW hb_10 htn hst hM30 (Nat.le_of_ble_eq_true rfl)
              have hs_79 : RFc (M_78 (rA 2 M_78 b_5 8)) (k2 : Int32).toNatClampNeg = some b_24 := by rw [sM_78, rA_c (cVt_sF hM30 2 _ 8 (Or.inl (by decide))), RFc_sF]; exact hst
              have hP : va_P D vwCl ([(xa, (b11_1 x0 (nI x1) x2 (nI x3) x4 x5 x6 x7 x8 x9 x10))] ++ va_pl L M_78) H_77 := by rw [eM_78]; exact hP
              have hD : va_D A ([(xa, (b11_1 x0 (nI x1) x2 (nI x3) x4 x5 x6 x7 x8 x9 x10))] ++ va_pl L M_78) := by rw [eM_78]; exact hD
              have hW : WOK cy K L M_78 := by rw [eM_78]; exact hW.up_9 hb_29 ⟨v30_0, v30_1, v30_2, v30_3, v30_4, v30_5, v30_6, v30_7, v30_8, v30_9, v30_10, v30_11, f_74, v30_13, v30_14, v30_15, rfl, h30_0, h30_1, h30_4, h30_8⟩
              have hF : fr K L [9] M M_78 := by rw [eM_78]; exact hF.up hb_29 (by decide)
              have hT9 : fT 9 K L [12] M M_78 := by rw [eM_78]; exact hT9.up (i := 12) hM30 rfl (by decide)
              have hM_80 : M_78 b_24 = (b9_9 (nI v30_0) v30_1 v30_2 v30_3 v30_4 v30_5 v30_6 v30_7 v30_8 v30_9 v30_10 v30_11 f_74 v30_13 v30_14 v30_15) := by rw [eM_78]; exact va_up_self _ _ _
              have hM_81 : M_78 b_5 = (b2_2 v11_0 v11_1 v11_2 v11_3 (nI v11_4) (nI v11_5) v11_6 v11_7 v11_8 (nI v11_9) v11_10 (nI v11_11) v11_12 v11_13 v11_14 v11_15 v11_16 v11_17 v11_18 v11_19) := by rw [eM_78, va_up_ne _ _ (hb_10.neT hb_29 (by decide))]; exact hM11
              refine lv_aload_n hx hb dX11_lend_113 rfl (lv_at hl 3 rfl) ?_
              refine lv_lload hx hb dX11_lend_114 (lv_at hl 0 rfl) ?_
              refine lv_l2i hx hb dX11_lend_116 rfl ?_
              refine lv_topi (fun f_82 ef_82 => ?_)
              have hPc := hP.sub (ws' := [(xa, (b11_1 x0 (nI x1) x2 (nI x3) x4 x5 x6 x7 x8 x9 x10))]) [0] rfl
              have hDc := hD.sub (ws' := [(xa, (b11_1 x0 (nI x1) x2 (nI x3) x4 x5 x6 x7 x8 x9 x10))]) [0] (by decide) rfl
              have hKc := hK.sub (tys' := []) [] rfl
              have hFc := va_free (wc := [(xa, (b11_1 x0 (nI x1) x2 (nI x3) x4 x5 x6 x7 x8 x9 x10))]) hD hS hA [0] rfl
              refine va_calli (va_runV (As := [.int f_82]) (rest := []) ⟨hx, hb, hml, hown, hg⟩ (k_accept l D H_77.size xa x0 (nI x1) x2 (nI x3) x4 x5 x6 x7 x8 x9 x10 f_82) (cwV 1 hg (gV wd_356 wd_357 wd_358 wd_3 wd_359) rfl rfl rfl (by decide +kernel) ⟨(Nat.le_trans (Nat.le_of_ble_eq_true rfl) hRf), (Nat.le_trans (Nat.le_of_ble_eq_true rfl) hRl)⟩) ⟨Pr.blind, va_recv hK hP (ci := 11) (q0 := 0) rfl rfl, fun U hU hW => ⟨rfl, Pr.at hPc hKc hDc hN hU hW⟩⟩ rfl rfl hl.1 rfl (lv_room (Nat.le_of_ble_eq_true rfl)) dX11_lend_117 ⟨(Nat.le_trans (Nat.le_of_ble_eq_true rfl) hRc), (Nat.le_trans (Nat.le_of_ble_eq_true rfl) hRs)⟩) hS (fun q _ h => hFc q h) hFc (fun r_84 M_85 t H_83 locs ht hvm hw hB hz1 hk1 hS => ?_)
              have hp_86 := hw
              obtain ⟨hP1, hK1, hD1⟩ := hB
              rw [ht] at hP1
              obtain ⟨hP, hD⟩ := va_joinQ (X := [(xa, (b11_1 x0 (nI x1) x2 (nI x3) x4 x5 x6 x7 x8 x9 x10))]) (cx := [(xa, (b11_1 x0 (nI x1) x2 (nI x3) x4 x5 x6 x7 x8 x9 x10))]) (wr := []) (w1 := [(xa, (b11_1 x0 (nI x1) x2 (nI x3) x4 x5 x6 x7 x8 0 (-1)))]) (pl := va_pl L M_78) hP hD [0] [] rfl rfl (by decide) (by decide) hk1 hFc hP1 hD1
              have hP : va_P D vwCl ([(xa, (b11_1 x0 (nI x1) x2 (nI x3) x4 x5 x6 x7 x8 0 (-1)))] ++ va_pl L M_78) H_83 := hP
              have hD : va_D A ([(xa, (b11_1 x0 (nI x1) x2 (nI x3) x4 x5 x6 x7 x8 0 (-1)))] ++ va_pl L M_78) := hD
              have hq := Eq.symm hp_86
              subst hq
              have hI_87 : (k4 : Int32).toInt ≠ (0 : Int) := ineI rfl rfl c_45
              have hI_88 : (k4 : Int32).toInt ≠ (0 : Int) := ineI rfl rfl c_72
              have hcB : ¬ (k4 = 0 ∧ ¬ LV (SX k1.toNatClampNeg) (k2 : Int32).toNatClampNeg + k3.toInt64 ≤ 1000000000) := fun w => c_72 w.1
              have hcA : ¬ (k4 ≠ 0 ∧ ¬ k3.toInt64 ≤ LV (SX k1.toNatClampNeg) (k2 : Int32).toNatClampNeg) := fun w => w.2 (by rw [← hv12, ← ef_69]; exact d_71)
              have hyes : okLd x1 SX k1 k2 k3 k4 := by unfold okLd okH; refine ⟨⟨?_, ?_⟩, ?_, ?_, ?_, ?_, ?_, ?_⟩ <;> first | omega | assumption
              have hd9 := Int64.le_iff_toInt_le.mp d_76
              rw [show (1000000000 : Int64).toInt = 1000000000 from rfl] at hd9
              have hnw : f_74 = nwLd (SX k1.toNatClampNeg) (k2 : Int32).toNatClampNeg k3 k4 := by unfold nwLd; rw [if_neg c_72, ef_74, hv12, ef_73, ld_neg (by omega) (by omega), Int64.sub_eq_add_neg]
              have hni : (f_74 : Int64).toInt = (v30_12 : Int64).toInt - k3.toInt := by rw [ef_74, ef_73]; exact ld_sub hlb.1 hlb.2 (by omega) (by omega)
              have hle9 := Int64.le_iff_toInt_le.mp d_71
              rw [ef_69, Int32.toInt_toInt64] at hle9
              have hnb : 0 ≤ (f_74 : Int64).toInt ∧ (f_74 : Int64).toInt ≤ 1000000000 := by omega
              rw [hnw] at hnb
              rw [hQ]
              exact W.iret (v := f_82) hx hb hr (fun t ht hW9 => ⟨⟨f_82, M_78, rfl, ⟨hW, hF, hT9, (by unfold sxLd; rw [if_pos hyes]; rw [hnw] at hV; have hZ := hC.fin hW0 i0 b1 hkn hb9 hV ext.rf (by rw [hF.at i0 (by decide)]) (fun q iq => ⟨iq, cR_c (fr.cv hF (by decide) q iq 3 rfl)⟩) ((hSM.lend (i := (k2 : Int32).toNatClampNeg) (by omega) hnb).up1); rw [va_upI] at hZ; exact hZ), (by unfold anLd; rw [if_pos hyes, ← hnw]; exact ef_82)⟩, ⟨0, by rw [ht]; exact hP, hD⟩⟩, hS.F ht⟩) hS.2.2 dX11_lend_120
            · have hz := rfl (a := 0)
              have d_76 : ¬ f_74 ≤ 1000000000 := lc_lef c_75
              have hI_89 : (k4 : Int32).toInt ≠ (0 : Int) := ineI rfl rfl c_45
              have hI_90 : (k4 : Int32).toInt ≠ (0 : Int) := ineI rfl rfl c_72
              exact absurd (by rw [ef_74, ef_73]; exact ld_no hlb.1 hlb.2 (by omega) (by omega)) d_76
          · have hz := rfl (a := 0)
            have d_71 : ¬ f_69 ≤ v30_12 := lc_lef c_70
            refine lv_aload_n hx hb dX11_lend_58 rfl (lv_at hl 2 rfl) ?_
            refine lv_iconst (v := 2) hx hb dX11_lend_59 (by decide) ?_
            have hPc := hP.sub (ws' := [(xa, (b11_1 x0 (nI x1) x2 (nI x3) x4 x5 x6 x7 x8 x9 x10))]) [0] rfl
            have hDc := hD.sub (ws' := [(xa, (b11_1 x0 (nI x1) x2 (nI x3) x4 x5 x6 x7 x8 x9 x10))]) [0] (by decide) rfl
            have hKc := hK.sub (tys' := []) [] rfl
            have hFc := va_free (wc := [(xa, (b11_1 x0 (nI x1) x2 (nI x3) x4 x5 x6 x7 x8 x9 x10))]) hD hS hA [0] rfl
            refine va_calli (va_runV (As := [.int 2]) (rest := []) ⟨hx, hb, hml, hown, hg⟩ (k_refuse l D H_38.size xa x0 (nI x1) x2 (nI x3) x4 x5 x6 x7 x8 x9 x10 2) (cwV 1 hg (gV wd_344 wd_345 wd_346 wd_3 wd_347) rfl rfl rfl (by decide +kernel) ⟨(Nat.le_trans (Nat.le_of_ble_eq_true rfl) hRf), (Nat.le_trans (Nat.le_of_ble_eq_true rfl) hRl)⟩) ⟨Pr.blind, va_recv hK hP (ci := 11) (q0 := 0) rfl rfl, fun U hU hW => ⟨rfl, Pr.at hPc hKc hDc hN hU hW⟩⟩ rfl rfl hl.1 rfl (lv_room (Nat.le_of_ble_eq_true rfl)) dX11_lend_60 ⟨(Nat.le_trans (Nat.le_of_ble_eq_true rfl) hRc), (Nat.le_trans (Nat.le_of_ble_eq_true rfl) hRs)⟩) hS (fun q _ h => hFc q h) hFc (fun r_92 M_93 t H_91 locs ht hvm hw hB hz1 hk1 hS => ?_)
            have hp_94 := hw
            obtain ⟨hP1, hK1, hD1⟩ := hB
            rw [ht] at hP1
            obtain ⟨hP, hD⟩ := va_joinQ (X := [(xa, (b11_1 x0 (nI x1) x2 (nI x3) x4 x5 x6 x7 x8 x9 x10))]) (cx := [(xa, (b11_1 x0 (nI x1) x2 (nI x3) x4 x5 x6 x7 x8 x9 x10))]) (wr := []) (w1 := [(xa, (b11_1 x0 (nI x1) x2 (nI x3) x4 x5 x6 x7 x8 2 (-1)))]) (pl := va_pl L M) hP hD [0] [] rfl rfl (by decide) (by decide) hk1 hFc hP1 hD1
            have hP : va_P D vwCl ([(xa, (b11_1 x0 (nI x1) x2 (nI x3) x4 x5 x6 x7 x8 2 (-1)))] ++ va_pl L M) H_91 := hP
            have hD : va_D A ([(xa, (b11_1 x0 (nI x1) x2 (nI x3) x4 x5 x6 x7 x8 2 (-1)))] ++ va_pl L M) := hD
            have hq := Eq.symm hp_94
            subst hq
            have hI_95 : (k4 : Int32).toInt ≠ (0 : Int) := ineI rfl rfl c_45
            have hcB : ¬ (k4 = 0 ∧ ¬ LV (SX k1.toNatClampNeg) (k2 : Int32).toNatClampNeg + k3.toInt64 ≤ 1000000000) := fun w => c_45 w.1
            have hcx : k4 ≠ 0 ∧ ¬ k3.toInt64 ≤ LV (SX k1.toNatClampNeg) (k2 : Int32).toNatClampNeg := ⟨c_45, by rw [← hv12, ← ef_69]; exact d_71⟩
            have hno : ¬ okLd x1 SX k1 k2 k3 k4 := fun q9 => by unfold okLd okH at q9; first | omega | (obtain ⟨⟨_, _⟩, _, _, _, _, _, _⟩ := q9; first | omega | contradiction)
            rw [hQ]
            exact W.iret (v := (-1)) hx hb hr (fun t ht hW9 => ⟨⟨(-1), M, rfl, ⟨hW, hF, hT9, (by unfold sxLd; rw [if_neg hno]; exact hC.mono), (by unfold anLd; rw [if_neg hno])⟩, ⟨2, by rw [ht]; exact hP, hD⟩⟩, hS.F ht⟩) hS.2.2 dX11_lend_63
      · have hz := rfl (a := 0)
        refine lv_if_eq (tgt := 58) hx hb dX11_lend_39 (by decide) (fun _ => ?_) (fun c_96 => absurd c_96 (by decide))
        refine lv_aload_n hx hb dX11_lend_58 rfl (lv_at hl 2 rfl) ?_
        refine lv_iconst (v := 2) hx hb dX11_lend_59 (by decide) ?_
        have hPc := hP.sub (ws' := [(xa, (b11_1 x0 (nI x1) x2 (nI x3) x4 x5 x6 x7 x8 x9 x10))]) [0] rfl
        have hDc := hD.sub (ws' := [(xa, (b11_1 x0 (nI x1) x2 (nI x3) x4 x5 x6 x7 x8 x9 x10))]) [0] (by decide) rfl
        have hKc := hK.sub (tys' := []) [] rfl
        have hFc := va_free (wc := [(xa, (b11_1 x0 (nI x1) x2 (nI x3) x4 x5 x6 x7 x8 x9 x10))]) hD hS hA [0] rfl
        refine va_calli (va_runV (As := [.int 2]) (rest := []) ⟨hx, hb, hml, hown, hg⟩ (k_refuse l D H_38.size xa x0 (nI x1) x2 (nI x3) x4 x5 x6 x7 x8 x9 x10 2) (cwV 1 hg (gV wd_344 wd_345 wd_346 wd_3 wd_347) rfl rfl rfl (by decide +kernel) ⟨(Nat.le_trans (Nat.le_of_ble_eq_true rfl) hRf), (Nat.le_trans (Nat.le_of_ble_eq_true rfl) hRl)⟩) ⟨Pr.blind, va_recv hK hP (ci := 11) (q0 := 0) rfl rfl, fun U hU hW => ⟨rfl, Pr.at hPc hKc hDc hN hU hW⟩⟩ rfl rfl hl.1 rfl (lv_room (Nat.le_of_ble_eq_true rfl)) dX11_lend_60 ⟨(Nat.le_trans (Nat.le_of_ble_eq_true rfl) hRc), (Nat.le_trans (Nat.le_of_ble_eq_true rfl) hRs)⟩) hS (fun q _ h => hFc q h) hFc (fun r_98 M_99 t H_97 locs ht hvm hw hB hz1 hk1 hS => ?_)
        have hp_100 := hw
        obtain ⟨hP1, hK1, hD1⟩ := hB
        rw [ht] at hP1
        obtain ⟨hP, hD⟩ := va_joinQ (X := [(xa, (b11_1 x0 (nI x1) x2 (nI x3) x4 x5 x6 x7 x8 x9 x10))]) (cx := [(xa, (b11_1 x0 (nI x1) x2 (nI x3) x4 x5 x6 x7 x8 x9 x10))]) (wr := []) (w1 := [(xa, (b11_1 x0 (nI x1) x2 (nI x3) x4 x5 x6 x7 x8 2 (-1)))]) (pl := va_pl L M) hP hD [0] [] rfl rfl (by decide) (by decide) hk1 hFc hP1 hD1
        have hP : va_P D vwCl ([(xa, (b11_1 x0 (nI x1) x2 (nI x3) x4 x5 x6 x7 x8 2 (-1)))] ++ va_pl L M) H_97 := hP
        have hD : va_D A ([(xa, (b11_1 x0 (nI x1) x2 (nI x3) x4 x5 x6 x7 x8 2 (-1)))] ++ va_pl L M) := hD
        have hq := Eq.symm hp_100
        subst hq
        have hno : ¬ okLd x1 SX k1 k2 k3 k4 := fun q9 => by unfold okLd okH at q9; first | omega | (obtain ⟨⟨_, _⟩, _, _, _, _, _, _⟩ := q9; first | omega | contradiction)
        rw [hQ]
        exact W.iret (v := (-1)) hx hb hr (fun t ht hW9 => ⟨⟨(-1), M, rfl, ⟨hW, hF, hT9, (by unfold sxLd; rw [if_neg hno]; exact hC.mono), (by unfold anLd; rw [if_neg hno])⟩, ⟨2, by rw [ht]; exact hP, hD⟩⟩, hS.F ht⟩) hS.2.2 dX11_lend_63
set_option maxHeartbeats 4000000 in
set_option maxRecDepth 100000 in
theorem z_lend (l : Launch) (D : va_G) (cy : Nat → ClassId) (K : Kp) (L : List Nat) (M : Hp) (sz : Nat) (za : Nat) (z0 : Int32) (z1 : Nat) (z2 : Nat) (z3 : Nat) (z4 : Int32) (z5 : Int32) (z6 : Nat) (z7 : Nat) (z8 : Nat) (z9 : Nat) (z10 : Nat) (z11 : Nat) (z12 : Nat) (z13 : Nat) (z14 : Nat) (z15 : Nat) (z16 : Nat) (z17 : Nat) (z18 : Int32) (z19 : Nat) (k1 : Int32) (k2 : Int32) (k3 : Int32) (k4 : Int32) (SX : Nat → Nat → Int) (SY : Nat → Nat → Nat → Int32) (hW : WOM cy K L M) (i1 : isk K L z1 23 8) (b2 : z2 ≤ 8) (b3 : z3 ≤ 40) (i6 : isk K L z6 47 40) (i7 : isk K L z7 48 40) (i8 : isk K L z8 49 8) (i9 : isk K L z9 50 8) (b10 : z10 ≤ 8) (i11 : isk K L z11 32 24) (i12 : isk K L z12 14 24) (i13 : isk K L z13 97 24) (i14 : isk K L z14 98 24) (i15 : isk K L z15 99 24) (b16 : z16 ≤ 24) (i17 : isk K L z17 14 24) (i19 : isk K L z19 15 25) (zk4 : (k4 = 0 ∨ k4 = 1)) (hGI : GI K L z1 z2 M) (hZS : ZSx z1 z2 SX SY M) : Met l yX13_lend (wsM yX13_lend cX13_lend 6 (some .int)) ({ frames := 2, cells := 0, slots := 0, locals := 43 }) (va_Pc [.ref za, .int k1, .int k2, .int k3, .int k4] (PG D cy [(za, (b13_0 z0 z1 (nI z2) (nI z3) z4 z5 z6 z7 z8 z9 (nI z10) z11 z12 z13 z14 z15 (nI z16) z17 z18 z19))] L M sz)) (va_Qi (fun (r : Int32) (M9 : Hp) => WOM cy K L M9 ∧ fr K L [85] M M9 ∧ fG K L [] M M9 ∧ (GI K L z1 z2 M9 ∧ ZSx z1 z2 (sxLd z2 SX k1 k2 k3 k4) SY M9) ∧ ((r = anLd z2 SX k1 k2 k3 k4))) (fun M9 t => ∃ (w4 : Int32), PQ D [(za, (b13_0 0 z1 (nI z2) (nI z3) w4 (-1) z6 z7 z8 z9 (nI z10) z11 z12 z13 z14 z15 (nI z16) z17 z18 z19))] L M9 (va_A ([(za, (b13_0 z0 z1 (nI z2) (nI z3) z4 z5 z6 z7 z8 z9 (nI z10) z11 z12 z13 z14 z15 (nI z16) z17 z18 z19))] ++ va_pl L M) sz) t) (va_A ([(za, (b13_0 z0 z1 (nI z2) (nI z3) z4 z5 z6 z7 z8 z9 (nI z10) z11 z12 z13 z14 z15 (nI z16) z17 z18 z19))] ++ va_pl L M) sz)) 0 0 (va_A ([(za, (b13_0 z0 z1 (nI z2) (nI z3) z4 z5 z6 z7 z8 z9 (nI z10) z11 z12 z13 z14 z15 (nI z16) z17 z18 z19))] ++ va_pl L M) sz) := by
  refine Met.ofW (cc := cX13_lend) (maxL := 6) (ret := (some .int)) (by decide) rfl ?_
  intro p e s m args below meth c s₁ B hml hv
  obtain ⟨rfl, hsz, hP, hK, hD0, hN⟩ := hv
  have hx := B.exec
  have hb := B.bytes
  have hr := B.returns
  have hts := atoms_spec (ws := (wsM yX13_lend cX13_lend 6 (some .int))) B.pre
  have hg : ∀ w ∈ lw_good, w.before _ s = true := fun w h => hts w (List.mem_cons_of_mem _ h)
  have hown : s.vm.findClass RX13 = some m.cls := findClass_of_methodNamed B.named
  have hlocks := B.notSynchronized
  subst hsz
  have hD := hD0.self (sz := s.heap.size)
  generalize hAe : va_A ([(za, (b13_0 z0 z1 (nI z2) (nI z3) z4 z5 z6 z7 z8 z9 (nI z10) z11 z12 z13 z14 z15 (nI z16) z17 z18 z19))] ++ va_pl L M) s.heap.size = A at hD ⊢
  have hA : ∀ q : Nat, s.heap.size ≤ q → A q := fun q h => by rw [← hAe]; exact Or.inr h
  have hS : va_S A s.heap s.heap [] := va_S.rf
  have hl := lv_entry ([.ref za, .int k1, .int k2, .int k3, .int k4]) (n := 6) (Nat.le_of_ble_eq_true rfl)
  rw [lg_entry_eq]
  generalize (lg_sl ([.ref za, .int k1, .int k2, .int k3, .int k4]) ++ List.replicate (6 - (lg_sl ([.ref za, .int k1, .int k2, .int k3, .int k4])).length) Slot.unset).toArray = ls at hl ⊢
  refine W.nameQ (fun Q hQ => ?_)
  refine W.nameR (fun R hR => ?_)
  have hRf : 2 ≤ R.frames := by rw [hR]; exact Nat.le_of_ble_eq_true rfl
  have hRl : 43 ≤ R.locals := by rw [hR]; exact Nat.le_of_ble_eq_true rfl
  have hRc : 0 ≤ R.cells := by rw [hR]; exact Nat.le_of_ble_eq_true rfl
  have hRs : 0 ≤ R.slots := by rw [hR]; exact Nat.le_of_ble_eq_true rfl
  have hF : fr K L [85] M M := fr.rf
  have hG : fG K L [] M M := fG.rf
  have hl : lv_has ls 6 [(0, .ref za), (1, .int k1), (2, .int k2), (3, .int k3), (4, .int k4)] := hl
  have hW0 := hW
  refine lv_aload_n hx hb dX13_lend_0 rfl (lv_at hl 0 rfl) ?_
  refine lv_iconst (v := 0) hx hb dX13_lend_1 (by decide) ?_
  refine va_put (D := D) (ci := 13) (v := .int 0) (ty := .int) (C := RX13) (T := TX13) (N := 20) hx hb hg inG13 tyX13 tyX13_ok nmX13 hown hK hP hD hS 0 rfl rfl 0 (by decide) (hg _ wd_720) (fun _ h9 => h9) rfl (by decide +kernel) rfl rfl (Nat.le_of_ble_eq_true rfl) dX13_lend_2 (fun H_1 locs hP hD hS => ?_)
  have hP : va_P D vwCl ([(za, (b13_0 0 z1 (nI z2) (nI z3) z4 z5 z6 z7 z8 z9 (nI z10) z11 z12 z13 z14 z15 (nI z16) z17 z18 z19))] ++ va_pl L M) H_1 := hP
  have hD : va_D A ([(za, (b13_0 0 z1 (nI z2) (nI z3) z4 z5 z6 z7 z8 z9 (nI z10) z11 z12 z13 z14 z15 (nI z16) z17 z18 z19))] ++ va_pl L M) := hD
  refine lv_aload_n hx hb dX13_lend_5 rfl (lv_at hl 0 rfl) ?_
  refine lv_iload_n hx hb dX13_lend_6 rfl (lv_at hl 1 rfl) ?_
  refine lv_iload_n hx hb dX13_lend_7 rfl (lv_at hl 2 rfl) ?_
  have hPc : va_P D vwCl ([(za, (b13_0 0 z1 (nI z2) (nI z3) z4 z5 z6 z7 z8 z9 (nI z10) z11 z12 z13 z14 z15 (nI z16) z17 z18 z19))] ++ va_pl L M) H_1 := hP
  have hDc : va_D A ([(za, (b13_0 0 z1 (nI z2) (nI z3) z4 z5 z6 z7 z8 z9 (nI z10) z11 z12 z13 z14 z15 (nI z16) z17 z18 z19))] ++ va_pl L M) := hD
  have hFc : ∀ q, va_A ([(za, (b13_0 0 z1 (nI z2) (nI z3) z4 z5 z6 z7 z8 z9 (nI z10) z11 z12 z13 z14 z15 (nI z16) z17 z18 z19))] ++ va_pl L M) H_1.size q → A q := pg_free hDc hS hA
  refine va_calli (va_runV (As := [.int k1, .int k2]) (rest := []) ⟨hx, hb, hml, hown, hg⟩ (f_isTenure l D cy K L M H_1.size za 0 z1 z2 z3 z4 z5 z6 z7 z8 z9 z10 z11 z12 z13 z14 z15 z16 z17 z18 z19 k1 k2 SX SY  hW i1 b2 b3 i6 i7 i8 i9 b10 i11 i12 i13 i14 i15 b16 i17 i19 hZS) (cwV 2 hg (gV wd_740 wd_741 wd_742 wd_717 wd_743) rfl rfl rfl (by decide +kernel) ⟨(Nat.le_trans (Nat.le_of_ble_eq_true rfl) hRf), (Nat.le_trans (Nat.le_of_ble_eq_true rfl) hRl)⟩) ⟨PG.blind, va_recv hK hP (ci := 13) (q0 := 0) rfl rfl, fun U hU hW => ⟨rfl, PG.at hPc hK hDc hN hU hW⟩⟩ rfl rfl hl.1 rfl (lv_room (Nat.le_of_ble_eq_true rfl)) dX13_lend_8 ⟨(Nat.le_trans (Nat.le_of_ble_eq_true rfl) hRc), (Nat.le_trans (Nat.le_of_ble_eq_true rfl) hRs)⟩) hS (fun q _ h => hFc q h) hFc (fun r_3 M_4 t H_2 locs ht hvm hw hB hz1 hk1 hS => ?_)
  have hp_5 := hw
  obtain ⟨hP1, hD1⟩ := hB
  rw [ht] at hP1
  have hP : va_P D vwCl ([(za, (b13_0 0 z1 (nI z2) (nI z3) z4 z5 z6 z7 z8 z9 (nI z10) z11 z12 z13 z14 z15 (nI z16) z17 z18 z19))] ++ va_pl L M) H_2 := hP1
  have hD : va_D A ([(za, (b13_0 0 z1 (nI z2) (nI z3) z4 z5 z6 z7 z8 z9 (nI z10) z11 z12 z13 z14 z15 (nI z16) z17 z18 z19))] ++ va_pl L M) := hD1.mono hFc
  rcases hp_5 with ⟨rfl, c_6, c_7, c_8, c_9, c_10⟩ | ⟨rfl, c_11⟩
  · have hz := rfl (a := 0)
    refine lv_if_ne (tgt := 20) hx hb dX13_lend_11 (by decide) (fun _ => ?_) (fun c_12 => absurd c_12 (by decide))
    refine lv_aload_n hx hb dX13_lend_20 rfl (lv_at hl 0 rfl) ?_
    refine va_get (D := D) (ci := 13) (v := .ref z1) (C := RX13) (T := TX13) (N := 20) hx hb hg inG13 hown hK hP 0 rfl rfl 1 (by decide) (hg _ wd_739) (fun _ h9 => h9) rfl dX13_lend_21 ?_
    refine lv_iload_n hx hb dX13_lend_24 rfl (lv_at hl 1 rfl) ?_
    obtain ⟨f13, hM13, hf13⟩ := hW.open_23 i1
    have hi_14 : vp_in k1 8 := (inbW (a := z2) (by omega) (inb k1 z2 (by omega) c_7 c_8))
    refine pg_aldq hx hb hK hP i1.1 9 hM13 rfl hi_14 dX13_lend_25 ?_
    obtain ⟨b15, eb_16, hb_17⟩ := hf13 _ (vp_lt hi_14)
    rw [eb_16]
    have hact : ACT z1 z2 b15 M := ⟨(k1 : Int32).toNatClampNeg, vp_lt (inb k1 z2 (by omega) c_7 c_8), by rw [show RFc (M z1) = f13 from by rw [hM13]; rfl]; exact eb_16⟩
    have hAT := GI.at hGI hact
    have hV : VW K L M M b15 (fx M b15) (ax M b15) := VW.rf b15 hGI.2.2.2
    refine lv_astore (lv' := [(5, .ref b15), (0, .ref za), (1, .int k1), (2, .int k2), (3, .int k3), (4, .int k4)]) hx hb dX13_lend_26 hl (by decide) rfl (fun ls hl => ?_)
    have hb9 : RFc (M z1) (k1 : Int32).toNatClampNeg = some b15 := by rw [show RFc (M z1) = f13 from by rw [hM13]; rfl]; exact eb_16
    have hkn : (k1 : Int32).toNatClampNeg < z2 := vp_lt (inb k1 z2 (by omega) c_7 c_8)
    have hZk := hZS _ b15 hkn hb9
    have hz0 : fx M b15 0 = SX (k1 : Int32).toNatClampNeg 0 := congrFun hZk.1 0
    have hz1 : fx M b15 1 = SX (k1 : Int32).toNatClampNeg 1 := congrFun hZk.1 1
    have hz10 : fx M b15 10 = SX (k1 : Int32).toNatClampNeg 10 := congrFun hZk.1 10
    have hz11 : fx M b15 11 = SX (k1 : Int32).toNatClampNeg 11 := congrFun hZk.1 11
    have hz12 : fx M b15 12 = SX (k1 : Int32).toNatClampNeg 12 := congrFun hZk.1 12
    have hz13 : fx M b15 13 = SX (k1 : Int32).toNatClampNeg 13 := congrFun hZk.1 13
    have hz14 : fx M b15 14 = SX (k1 : Int32).toNatClampNeg 14 := congrFun hZk.1 14
    have hz15 : fx M b15 15 = SX (k1 : Int32).toNatClampNeg 15 := congrFun hZk.1 15
    have hz16 : fx M b15 16 = SX (k1 : Int32).toNatClampNeg 16 := congrFun hZk.1 16
    obtain ⟨fs18, hM18, hn18, hl18⟩ := hW.open_12 hb_17
    obtain ⟨v19, hv19, hc19⟩ : ∃ v : Nat, fs18[10]? = some (.int (nI v) : Value) ∧ v ≤ 24 := hl18 10 (by decide)
    have hx10 : (fx M b15 10) = ((v19 : Nat) : Int) := (congrFun hV.2.1 10).symm.trans ((fx_of hM18 rfl hv19).trans (nI_toInt (by omega)))
    refine lv_iload_n hx hb dX13_lend_28 rfl (lv_at hl 4 rfl) ?_
    have hPc : va_P D vwCl ([] ++ va_pl L M) H_2 := hP.part (cx := []) [] rfl
    have hDc : va_D A ([] ++ va_pl L M) := hD.part (cx := []) [] (by decide) rfl
    have hFc : ∀ q, va_A ([] ++ va_pl L M) H_2.size q → A q := pg_free hDc hS hA
    refine va_calli (va_runS (As := [.int k3]) (rest := []) ⟨hx, hb, hml, hown, hg⟩ (f_isSum l D cy K L M H_2.size k3  hW ) (va_cwS 1 hg (gS wd_774 wd_775 wd_717 wd_776) rfl rfl rfl (by decide +kernel) ⟨(Nat.le_trans (Nat.le_of_ble_eq_true rfl) hRf), (Nat.le_trans (Nat.le_of_ble_eq_true rfl) hRl)⟩) ⟨PG.blind, fun U hU hW => ⟨rfl, PG.at hPc hK hDc hN hU hW⟩⟩ rfl rfl hl.1 rfl (lv_room (Nat.le_of_ble_eq_true rfl)) dX13_lend_29 ⟨(Nat.le_trans (Nat.le_of_ble_eq_true rfl) hRc), (Nat.le_trans (Nat.le_of_ble_eq_true rfl) hRs)⟩) hS (fun q _ h => hFc q h) hFc (fun r_21 M_22 t H_20 locs ht hvm hw hB hz1 hk1 hS => ?_)
    have hp_23 := hw
    obtain ⟨hP1, hD1⟩ := hB
    rw [ht] at hP1
    obtain ⟨hP, hD⟩ := va_joinP (X := [(za, (b13_0 0 z1 (nI z2) (nI z3) z4 z5 z6 z7 z8 z9 (nI z10) z11 z12 z13 z14 z15 (nI z16) z17 z18 z19))]) (cx := []) (wr := [(za, (b13_0 0 z1 (nI z2) (nI z3) z4 z5 z6 z7 z8 z9 (nI z10) z11 z12 z13 z14 z15 (nI z16) z17 z18 z19))]) (rx := []) (pl := va_pl L M) (pl1 := va_pl L M) hP hD [] [0] rfl rfl (by decide) (by decide) hk1 hFc hP1 hD1
    have hP : va_P D vwCl ([(za, (b13_0 0 z1 (nI z2) (nI z3) z4 z5 z6 z7 z8 z9 (nI z10) z11 z12 z13 z14 z15 (nI z16) z17 z18 z19))] ++ va_pl L M) H_20 := hP
    have hD : va_D A ([(za, (b13_0 0 z1 (nI z2) (nI z3) z4 z5 z6 z7 z8 z9 (nI z10) z11 z12 z13 z14 z15 (nI z16) z17 z18 z19))] ++ va_pl L M) := hD
    rcases hp_23 with ⟨rfl, c_24⟩ | ⟨rfl, c_25⟩
    · have hz := rfl (a := 0)
      refine lv_if_eq (tgt := 53) hx hb dX13_lend_32 (by decide) (fun c_26 => absurd c_26 (by decide)) (fun _ => ?_)
      refine lv_iload hx hb dX13_lend_35 (lv_at hl 5 rfl) ?_
      refine lv_if_eq (tgt := 59) hx hb dX13_lend_37 (by decide) (fun c_27 => ?_) (fun c_27 => ?_)
      · have hz := rfl (a := 0)
        refine lv_iload hx hb dX13_lend_59 (lv_at hl 5 rfl) ?_
        refine lv_if_ne (tgt := 88) hx hb dX13_lend_61 (by decide) (fun c_28 => absurd c_27 c_28) (fun c_28 => ?_)
        refine lv_aload hx hb dX13_lend_64 (lv_at hl 0 rfl) ?_
        obtain ⟨v29, hv29, hc29⟩ : ∃ v : Nat, fs18[30]? = some (.ref v : Value) ∧ isk K L v 85 24 := hl18 30 (by decide)
        refine pg_getN (D := D) (ci := 12) (v := .ref v29) (C := RX12) (T := TX12) (N := 51) hx hb hg inG12 hown hK hP hb_17.1 hM18 rfl 30 (by decide) (hN.use (Cond.fieldLinkNest RX13 205 RX12 "lent" "[J" RX13) 39 rfl rfl) (fun _ h9 => h9) hv29 dX13_lend_66 ?_
        refine lv_iload_n hx hb dX13_lend_69 rfl (lv_at hl 3 rfl) ?_
        obtain ⟨f30, hM30⟩ := hW.open_85 hc29
        refine pg_lald hx hb hK hP hc29.1 1 hM30 rfl (inb k2 24 (by omega) c_9 c_10) dX13_lend_70 ?_
        refine lv_topl (fun f_31 ef_31 => ?_)
        have hlB : f_31 = LV (SX (k1 : Int32).toNatClampNeg) (k2 : Int32).toNatClampNeg := by unfold LV; rw [← hZk.1, lx_of (r := 3) (i := (k2 : Int32).toNatClampNeg) hM18 (by decide) (by decide) hv29 hM30, Int64.ofInt_toInt]; exact ef_31
        refine lv_iload_n hx hb dX13_lend_71 rfl (lv_at hl 4 rfl) ?_
        refine lv_i2l hx hb dX13_lend_72 rfl ?_
        refine lv_topl (fun f_32 ef_32 => ?_)
        refine lv_ladd hx hb dX13_lend_73 ?_
        refine lv_topl (fun f_33 ef_33 => ?_)
        refine lv_ldc2 (v := 1000000000) hx hb hown (hg _ wd_777) dX13_lend_74 ?_
        refine W.lcmp hx hb dX13_lend_77 ?_
        refine lv_if_le (tgt := 88) hx hb dX13_lend_78 (by decide) (fun c_34 => ?_) (fun c_34 => ?_)
        · have hz := rfl (a := 0)
          have d_35 : f_33 ≤ 1000000000 := lc_let c_34
          refine lv_aload hx hb dX13_lend_88 (lv_at hl 0 rfl) ?_
          refine pg_getN (D := D) (ci := 12) (v := .ref v29) (C := RX12) (T := TX12) (N := 51) hx hb hg inG12 hown hK hP hb_17.1 hM18 rfl 30 (by decide) (hN.use (Cond.fieldLinkNest RX13 205 RX12 "lent" "[J" RX13) 39 rfl rfl) (fun _ h9 => h9) hv29 dX13_lend_90 ?_
          refine lv_iload_n hx hb dX13_lend_93 rfl (lv_at hl 3 rfl) ?_
          refine lv_dup2_11 hx hb dX13_lend_94 rfl rfl ?_
          refine pg_lald hx hb hK hP hc29.1 1 hM30 rfl (inb k2 24 (by omega) c_9 c_10) dX13_lend_95 ?_
          refine lv_topl (fun f_36 ef_36 => ?_)
          have hlC : f_36 = LV (SX (k1 : Int32).toNatClampNeg) (k2 : Int32).toNatClampNeg := by unfold LV; rw [← hZk.1, lx_of (r := 3) (i := (k2 : Int32).toNatClampNeg) hM18 (by decide) (by decide) hv29 hM30, Int64.ofInt_toInt]; exact ef_36
          refine lv_iload hx hb dX13_lend_96 (lv_at hl 5 rfl) ?_
          refine lv_if_eq (tgt := 107) hx hb dX13_lend_98 (by decide) (fun c_37 => ?_) (fun c_37 => absurd c_27 c_37)
          refine lv_iload_n hx hb dX13_lend_107 rfl (lv_at hl 4 rfl) ?_
          refine lv_i2l hx hb dX13_lend_108 rfl ?_
          refine lv_topl (fun f_38 ef_38 => ?_)
          refine lv_ladd hx hb dX13_lend_109 ?_
          refine lv_topl (fun f_39 ef_39 => ?_)
          have hnw : f_39 = nwLd (SX (k1 : Int32).toNatClampNeg) (k2 : Int32).toNatClampNeg k3 k4 := by unfold nwLd; rw [if_pos c_37, ef_39, hlC, ef_38]
          refine pg_last hx hb hK hP hD hS hc29.1 1 hM30 rfl (inb k2 24 (by omega) c_9 c_10) dX13_lend_110 (fun H_40 locs hP hD hS => ?_)
          obtain ⟨M_41, eM_41⟩ : ∃ M1 : Hp, M1 = va_up M v29 (.inl (cy 15, 24, .inr (.inl (vp_updL f30 (k2 : Int32).toNatClampNeg f_39)))) := ⟨_, rfl⟩
          have hV : VW K L M M_41 b15 (va_up (fx M b15) (lKey 3 (k2 : Int32).toNatClampNeg) (f_39 : Int64).toInt) (ax M b15) := by rw [eM_41]; exact hV.lst (r := 3) (j := 30) hW hb_17 hM18 (by decide) rfl (by decide) hv29 hc29 hM30
          have hP : va_P D vwCl ([(za, (b13_0 0 z1 (nI z2) (nI z3) z4 z5 z6 z7 z8 z9 (nI z10) z11 z12 z13 z14 z15 (nI z16) z17 z18 z19))] ++ va_pl L M_41) H_40 := by rw [eM_41]; exact hP
          have hD : va_D A ([(za, (b13_0 0 z1 (nI z2) (nI z3) z4 z5 z6 z7 z8 z9 (nI z10) z11 z12 z13 z14 z15 (nI z16) z17 z18 z19))] ++ va_pl L M_41) := by rw [eM_41]; exact hD
          have hW : WOM cy K L M_41 := by rw [eM_41]; exact hW.up_85 hc29 ⟨_, rfl⟩
          have hF : fr K L [85] M M_41 := by rw [eM_41]; exact hF.up hc29 (by decide)
          have hG : fG K L [] M M_41 := by rw [eM_41]; exact hG.arr hc29 (by decide)
          have hM_42 : M_41 v29 = .inl (cy 15, 24, .inr (.inl (vp_updL f30 (k2 : Int32).toNatClampNeg f_39))) := by rw [eM_41]; exact va_up_self _ _ _
          have hM_43 : M_41 z1 = .inl (cy 23, 8, .inr (.inr (.inr (.inr (f13))))) := by rw [eM_41, va_up_ne _ _ (i1.neT hc29 (by decide))]; exact hM13
          have hM_44 : M_41 b15 = .inr (12, fs18) := by rw [eM_41, va_up_ne _ _ (hb_17.neT hc29 (by decide))]; exact hM18
          obtain ⟨f_45, ef_45⟩ : ∃ f : Nat → Int64, f = vp_updL f30 (k2 : Int32).toNatClampNeg f_39 := ⟨_, rfl⟩
          rw [← ef_45] at hM_42
          refine lv_aload_n hx hb dX13_lend_111 rfl (lv_at hl 1 rfl) ?_
          refine lv_aload hx hb dX13_lend_112 (lv_at hl 0 rfl) ?_
          refine pg_getN (D := D) (ci := 12) (v := .ref v29) (C := RX12) (T := TX12) (N := 51) hx hb hg inG12 hown hK hP hb_17.1 hM_44 rfl 30 (by decide) (hN.use (Cond.fieldLinkNest RX13 205 RX12 "lent" "[J" RX13) 39 rfl rfl) (fun _ h9 => h9) hv29 dX13_lend_114 ?_
          refine lv_iload_n hx hb dX13_lend_117 rfl (lv_at hl 3 rfl) ?_
          refine pg_lald hx hb hK hP hc29.1 1 hM_42 rfl (inb k2 24 (by omega) c_9 c_10) dX13_lend_118 ?_
          refine lv_topl (fun f_46 ef_46 => ?_)
          have hv9 : f_46 = f_39 := by rw [ef_46, ef_45]; exact vp_updL_self _ _ _
          refine lv_l2i hx hb dX13_lend_119 rfl ?_
          refine lv_topi (fun f_47 ef_47 => ?_)
          have hPc := hP.sub (ws' := [(za, (b13_0 0 z1 (nI z2) (nI z3) z4 z5 z6 z7 z8 z9 (nI z10) z11 z12 z13 z14 z15 (nI z16) z17 z18 z19))]) [0] rfl
          have hDc := hD.sub (ws' := [(za, (b13_0 0 z1 (nI z2) (nI z3) z4 z5 z6 z7 z8 z9 (nI z10) z11 z12 z13 z14 z15 (nI z16) z17 z18 z19))]) [0] (by decide) rfl
          have hKc := hK.sub (tys' := []) [] rfl
          have hFc := va_free (wc := [(za, (b13_0 0 z1 (nI z2) (nI z3) z4 z5 z6 z7 z8 z9 (nI z10) z11 z12 z13 z14 z15 (nI z16) z17 z18 z19))]) hD hS hA [0] rfl
          refine va_calli (va_runV (As := [.int f_47]) (rest := []) ⟨hx, hb, hml, hown, hg⟩ (m_done l D H_40.size za 0 z1 (nI z2) (nI z3) z4 z5 z6 z7 z8 z9 (nI z10) z11 z12 z13 z14 z15 (nI z16) z17 z18 z19 f_47) (cwV 1 hg (gV wd_730 wd_731 wd_732 wd_717 wd_733) rfl rfl rfl (by decide +kernel) ⟨(Nat.le_trans (Nat.le_of_ble_eq_true rfl) hRf), (Nat.le_trans (Nat.le_of_ble_eq_true rfl) hRl)⟩) ⟨Pr.blind, va_recv hK hP (ci := 13) (q0 := 0) rfl rfl, fun U hU hW => ⟨rfl, Pr.at hPc hKc hDc hN hU hW⟩⟩ rfl rfl hl.1 rfl (lv_room (Nat.le_of_ble_eq_true rfl)) dX13_lend_120 ⟨(Nat.le_trans (Nat.le_of_ble_eq_true rfl) hRc), (Nat.le_trans (Nat.le_of_ble_eq_true rfl) hRs)⟩) hS (fun q _ h => hFc q h) hFc (fun r_49 M_50 t H_48 locs ht hvm hw hB hz1 hk1 hS => ?_)
          have hp_51 := hw
          obtain ⟨hP1, hK1, hD1⟩ := hB
          rw [ht] at hP1
          obtain ⟨hP, hD⟩ := va_joinQ (X := [(za, (b13_0 0 z1 (nI z2) (nI z3) z4 z5 z6 z7 z8 z9 (nI z10) z11 z12 z13 z14 z15 (nI z16) z17 z18 z19))]) (cx := [(za, (b13_0 0 z1 (nI z2) (nI z3) z4 z5 z6 z7 z8 z9 (nI z10) z11 z12 z13 z14 z15 (nI z16) z17 z18 z19))]) (wr := []) (w1 := [(za, (b13_0 0 z1 (nI z2) (nI z3) 0 (-1) z6 z7 z8 z9 (nI z10) z11 z12 z13 z14 z15 (nI z16) z17 z18 z19))]) (pl := va_pl L M_41) hP hD [0] [] rfl rfl (by decide) (by decide) hk1 hFc hP1 hD1
          have hP : va_P D vwCl ([(za, (b13_0 0 z1 (nI z2) (nI z3) 0 (-1) z6 z7 z8 z9 (nI z10) z11 z12 z13 z14 z15 (nI z16) z17 z18 z19))] ++ va_pl L M_41) H_48 := hP
          have hD : va_D A ([(za, (b13_0 0 z1 (nI z2) (nI z3) 0 (-1) z6 z7 z8 z9 (nI z10) z11 z12 z13 z14 z15 (nI z16) z17 z18 z19))] ++ va_pl L M_41) := hD
          have hq := Eq.symm hp_51
          subst hq
          have hI_52 : (0 : Int) ≤ (k1 : Int32).toInt := inltI rfl rfl c_7
          have hI_53 : (k1 : Int32).toInt < ((z2 : Nat) : Int) := inleI (nI_toInt (by omega)) rfl c_8
          have hI_54 : (0 : Int) ≤ (k2 : Int32).toInt := inltI rfl rfl c_9
          have hI_55 : (k2 : Int32).toInt < (24 : Int) := inleI rfl rfl c_10
          have hI_56 : (k4 : Int32).toInt = (0 : Int) := ieqI rfl rfl c_27
          have hI_57 : (k4 : Int32).toInt = (0 : Int) := ieqI rfl rfl c_28
          have hI_58 : (k4 : Int32).toInt = (0 : Int) := ieqI rfl rfl c_37
          have hcA : ¬ (k4 ≠ 0 ∧ ¬ k3.toInt64 ≤ LV (SX (k1 : Int32).toNatClampNeg) (k2 : Int32).toNatClampNeg) := fun w => w.1 c_37
          have hcB : ¬ (k4 = 0 ∧ ¬ LV (SX (k1 : Int32).toNatClampNeg) (k2 : Int32).toNatClampNeg + k3.toInt64 ≤ 1000000000) := fun w => w.2 (by rw [← hlB, ← ef_32, ← ef_33]; exact d_35)
          have hyes : okLd z2 SX k1 k2 k3 k4 := by unfold okLd okH; refine ⟨⟨?_, ?_⟩, ?_, ?_, ?_, ?_, ?_, ?_⟩ <;> first | omega | assumption
          have hA9 : HA (ax M b15 2) (ax M b15 3) := hAT.1
          have hB9 : HB (fx M b15 16) (fx M b15 14) (ax M b15 3) (ax M b15 43) := hAT.2.1
          have hC9 : HC (fx M b15 10) (ax M b15 22) (ax M b15 23) := hAT.2.2.1
          have hD9 : HD (fx M b15 0) (fx M b15 11) (fx M b15 15) (ax M b15 34) (ax M b15 41) := hAT.2.2.2.1
          have hE9 : HE (fx M b15 0) (fx M b15 1) (fx M b15 12) (fx M b15 13) (ax M b15 37) := hAT.2.2.2.2
          have hH8 : HI (fx M b15) (ax M b15) := ⟨hA9, hB9, hC9, hD9, hE9⟩
          have hH9 : HI (va_up (fx M b15) (lKey 3 (k2 : Int32).toNatClampNeg) (f_39 : Int64).toInt) (ax M b15) := HI.lk hH8 3 (k2 : Int32).toNatClampNeg _
          have hGI9 : GI K L z1 z2 M_41 := GI.fin hW0 i1 b2 hGI hact hV (hF.at i1 (by decide)) hH9
          rw [hQ]
          exact W.iret (v := f_47) hx hb hr (fun t ht hW9 => ⟨⟨f_47, M_41, rfl, ⟨hW, hF, hG, ⟨hGI9, (by unfold sxLd; rw [if_pos hyes]; rw [hnw] at hV; have hQ9 := ZSx.fin hW0 i1 b2 hZS hGI.1 hkn hb9 hV (hF.at i1 (by decide)) (by rw [hZk.1]) hZk.2; rw [va_upJ] at hQ9; exact hQ9)⟩, (by unfold anLd; rw [if_pos hyes, ← hnw, ← hv9]; exact ef_47)⟩, ⟨0, by rw [ht]; exact hP, hD⟩⟩, hS.F ht⟩) hS.2.2 dX13_lend_123
        · have hz := rfl (a := 0)
          have d_35 : ¬ f_33 ≤ 1000000000 := lc_lef c_34
          refine lv_aload_n hx hb dX13_lend_81 rfl (lv_at hl 1 rfl) ?_
          refine lv_bipush (v := 9) hx hb dX13_lend_82 (by decide) ?_
          have hPc := hP.sub (ws' := [(za, (b13_0 0 z1 (nI z2) (nI z3) z4 z5 z6 z7 z8 z9 (nI z10) z11 z12 z13 z14 z15 (nI z16) z17 z18 z19))]) [0] rfl
          have hDc := hD.sub (ws' := [(za, (b13_0 0 z1 (nI z2) (nI z3) z4 z5 z6 z7 z8 z9 (nI z10) z11 z12 z13 z14 z15 (nI z16) z17 z18 z19))]) [0] (by decide) rfl
          have hKc := hK.sub (tys' := []) [] rfl
          have hFc := va_free (wc := [(za, (b13_0 0 z1 (nI z2) (nI z3) z4 z5 z6 z7 z8 z9 (nI z10) z11 z12 z13 z14 z15 (nI z16) z17 z18 z19))]) hD hS hA [0] rfl
          refine va_calli (va_runV (As := [.int 9]) (rest := []) ⟨hx, hb, hml, hown, hg⟩ (m_refused l D H_20.size za 0 z1 (nI z2) (nI z3) z4 z5 z6 z7 z8 z9 (nI z10) z11 z12 z13 z14 z15 (nI z16) z17 z18 z19 9) (cwV 1 hg (gV wd_725 wd_726 wd_727 wd_717 wd_728) rfl rfl rfl (by decide +kernel) ⟨(Nat.le_trans (Nat.le_of_ble_eq_true rfl) hRf), (Nat.le_trans (Nat.le_of_ble_eq_true rfl) hRl)⟩) ⟨Pr.blind, va_recv hK hP (ci := 13) (q0 := 0) rfl rfl, fun U hU hW => ⟨rfl, Pr.at hPc hKc hDc hN hU hW⟩⟩ rfl rfl hl.1 rfl (lv_room (Nat.le_of_ble_eq_true rfl)) dX13_lend_84 ⟨(Nat.le_trans (Nat.le_of_ble_eq_true rfl) hRc), (Nat.le_trans (Nat.le_of_ble_eq_true rfl) hRs)⟩) hS (fun q _ h => hFc q h) hFc (fun r_60 M_61 t H_59 locs ht hvm hw hB hz1 hk1 hS => ?_)
          have hp_62 := hw
          obtain ⟨hP1, hK1, hD1⟩ := hB
          rw [ht] at hP1
          obtain ⟨hP, hD⟩ := va_joinQ (X := [(za, (b13_0 0 z1 (nI z2) (nI z3) z4 z5 z6 z7 z8 z9 (nI z10) z11 z12 z13 z14 z15 (nI z16) z17 z18 z19))]) (cx := [(za, (b13_0 0 z1 (nI z2) (nI z3) z4 z5 z6 z7 z8 z9 (nI z10) z11 z12 z13 z14 z15 (nI z16) z17 z18 z19))]) (wr := []) (w1 := [(za, (b13_0 0 z1 (nI z2) (nI z3) 9 (-1) z6 z7 z8 z9 (nI z10) z11 z12 z13 z14 z15 (nI z16) z17 z18 z19))]) (pl := va_pl L M) hP hD [0] [] rfl rfl (by decide) (by decide) hk1 hFc hP1 hD1
          have hP : va_P D vwCl ([(za, (b13_0 0 z1 (nI z2) (nI z3) 9 (-1) z6 z7 z8 z9 (nI z10) z11 z12 z13 z14 z15 (nI z16) z17 z18 z19))] ++ va_pl L M) H_59 := hP
          have hD : va_D A ([(za, (b13_0 0 z1 (nI z2) (nI z3) 9 (-1) z6 z7 z8 z9 (nI z10) z11 z12 z13 z14 z15 (nI z16) z17 z18 z19))] ++ va_pl L M) := hD
          have hq := Eq.symm hp_62
          subst hq
          have hI_63 : (0 : Int) ≤ (k1 : Int32).toInt := inltI rfl rfl c_7
          have hI_64 : (k1 : Int32).toInt < ((z2 : Nat) : Int) := inleI (nI_toInt (by omega)) rfl c_8
          have hI_65 : (0 : Int) ≤ (k2 : Int32).toInt := inltI rfl rfl c_9
          have hI_66 : (k2 : Int32).toInt < (24 : Int) := inleI rfl rfl c_10
          have hI_67 : (k4 : Int32).toInt = (0 : Int) := ieqI rfl rfl c_27
          have hI_68 : (k4 : Int32).toInt = (0 : Int) := ieqI rfl rfl c_28
          have hcA : ¬ (k4 ≠ 0 ∧ ¬ k3.toInt64 ≤ LV (SX (k1 : Int32).toNatClampNeg) (k2 : Int32).toNatClampNeg) := fun w => w.1 c_28
          have hcy : k4 = 0 ∧ ¬ LV (SX (k1 : Int32).toNatClampNeg) (k2 : Int32).toNatClampNeg + k3.toInt64 ≤ 1000000000 := ⟨c_28, by rw [← hlB, ← ef_32, ← ef_33]; exact d_35⟩
          have hno : ¬ okLd z2 SX k1 k2 k3 k4 := fun q9 => by unfold okLd okH at q9; first | omega | (obtain ⟨⟨_, _⟩, _, _, _, _, _, _⟩ := q9; first | omega | contradiction)
          rw [hQ]
          exact W.iret (v := (-1)) hx hb hr (fun t ht hW9 => ⟨⟨(-1), M, rfl, ⟨hW, hF, hG, ⟨hGI, (by unfold sxLd; rw [if_neg hno]; exact hZS)⟩, (by unfold anLd; rw [if_neg hno])⟩, ⟨9, by rw [ht]; exact hP, hD⟩⟩, hS.F ht⟩) hS.2.2 dX13_lend_87
      · have hz := rfl (a := 0)
        refine lv_iload_n hx hb dX13_lend_40 rfl (lv_at hl 4 rfl) ?_
        refine lv_i2l hx hb dX13_lend_41 rfl ?_
        refine lv_topl (fun f_69 ef_69 => ?_)
        refine lv_aload hx hb dX13_lend_42 (lv_at hl 0 rfl) ?_
        obtain ⟨v70, hv70, hc70⟩ : ∃ v : Nat, fs18[30]? = some (.ref v : Value) ∧ isk K L v 85 24 := hl18 30 (by decide)
        refine pg_getN (D := D) (ci := 12) (v := .ref v70) (C := RX12) (T := TX12) (N := 51) hx hb hg inG12 hown hK hP hb_17.1 hM18 rfl 30 (by decide) (hN.use (Cond.fieldLinkNest RX13 205 RX12 "lent" "[J" RX13) 39 rfl rfl) (fun _ h9 => h9) hv70 dX13_lend_44 ?_
        refine lv_iload_n hx hb dX13_lend_47 rfl (lv_at hl 3 rfl) ?_
        obtain ⟨f71, hM71⟩ := hW.open_85 hc70
        refine pg_lald hx hb hK hP hc70.1 1 hM71 rfl (inb k2 24 (by omega) c_9 c_10) dX13_lend_48 ?_
        refine lv_topl (fun f_72 ef_72 => ?_)
        have hlA : f_72 = LV (SX (k1 : Int32).toNatClampNeg) (k2 : Int32).toNatClampNeg := by unfold LV; rw [← hZk.1, lx_of (r := 3) (i := (k2 : Int32).toNatClampNeg) hM18 (by decide) (by decide) hv70 hM71, Int64.ofInt_toInt]; exact ef_72
        refine W.lcmp hx hb dX13_lend_49 ?_
        refine lv_if_le (tgt := 59) hx hb dX13_lend_50 (by decide) (fun c_73 => ?_) (fun c_73 => ?_)
        · have hz := rfl (a := 0)
          have d_74 : f_69 ≤ f_72 := lc_let c_73
          refine lv_iload hx hb dX13_lend_59 (lv_at hl 5 rfl) ?_
          refine lv_if_ne (tgt := 88) hx hb dX13_lend_61 (by decide) (fun c_75 => ?_) (fun c_75 => absurd c_75 c_27)
          refine lv_aload hx hb dX13_lend_88 (lv_at hl 0 rfl) ?_
          refine pg_getN (D := D) (ci := 12) (v := .ref v70) (C := RX12) (T := TX12) (N := 51) hx hb hg inG12 hown hK hP hb_17.1 hM18 rfl 30 (by decide) (hN.use (Cond.fieldLinkNest RX13 205 RX12 "lent" "[J" RX13) 39 rfl rfl) (fun _ h9 => h9) hv70 dX13_lend_90 ?_
          refine lv_iload_n hx hb dX13_lend_93 rfl (lv_at hl 3 rfl) ?_
          refine lv_dup2_11 hx hb dX13_lend_94 rfl rfl ?_
          refine pg_lald hx hb hK hP hc70.1 1 hM71 rfl (inb k2 24 (by omega) c_9 c_10) dX13_lend_95 ?_
          refine lv_topl (fun f_76 ef_76 => ?_)
          have hlC : f_76 = LV (SX (k1 : Int32).toNatClampNeg) (k2 : Int32).toNatClampNeg := by unfold LV; rw [← hZk.1, lx_of (r := 3) (i := (k2 : Int32).toNatClampNeg) hM18 (by decide) (by decide) hv70 hM71, Int64.ofInt_toInt]; exact ef_76
          refine lv_iload hx hb dX13_lend_96 (lv_at hl 5 rfl) ?_
          refine lv_if_eq (tgt := 107) hx hb dX13_lend_98 (by decide) (fun c_77 => absurd c_77 c_27) (fun c_77 => ?_)
          refine lv_iload_n hx hb dX13_lend_101 rfl (lv_at hl 4 rfl) ?_
          refine lv_ineg hx hb dX13_lend_102 ?_
          refine lv_topi (fun f_78 ef_78 => ?_)
          refine lv_i2l hx hb dX13_lend_103 rfl ?_
          refine lv_topl (fun f_79 ef_79 => ?_)
          refine lv_goto (tgt := 109) hx hb dX13_lend_104 (by decide) ?_
          refine lv_ladd hx hb dX13_lend_109 ?_
          refine lv_topl (fun f_80 ef_80 => ?_)
          have hnw : f_80 = nwLd (SX (k1 : Int32).toNatClampNeg) (k2 : Int32).toNatClampNeg k3 k4 := by unfold nwLd; rw [if_neg c_77, ef_80, hlC, ef_79, ef_78]
          refine pg_last hx hb hK hP hD hS hc70.1 1 hM71 rfl (inb k2 24 (by omega) c_9 c_10) dX13_lend_110 (fun H_81 locs hP hD hS => ?_)
          obtain ⟨M_82, eM_82⟩ : ∃ M1 : Hp, M1 = va_up M v70 (.inl (cy 15, 24, .inr (.inl (vp_updL f71 (k2 : Int32).toNatClampNeg f_80)))) := ⟨_, rfl⟩
          have hV : VW K L M M_82 b15 (va_up (fx M b15) (lKey 3 (k2 : Int32).toNatClampNeg) (f_80 : Int64).toInt) (ax M b15) := by rw [eM_82]; exact hV.lst (r := 3) (j := 30) hW hb_17 hM18 (by decide) rfl (by decide) hv70 hc70 hM71
          have hP : va_P D vwCl ([(za, (b13_0 0 z1 (nI z2) (nI z3) z4 z5 z6 z7 z8 z9 (nI z10) z11 z12 z13 z14 z15 (nI z16) z17 z18 z19))] ++ va_pl L M_82) H_81 := by rw [eM_82]; exact hP
          have hD : va_D A ([(za, (b13_0 0 z1 (nI z2) (nI z3) z4 z5 z6 z7 z8 z9 (nI z10) z11 z12 z13 z14 z15 (nI z16) z17 z18 z19))] ++ va_pl L M_82) := by rw [eM_82]; exact hD
          have hW : WOM cy K L M_82 := by rw [eM_82]; exact hW.up_85 hc70 ⟨_, rfl⟩
          have hF : fr K L [85] M M_82 := by rw [eM_82]; exact hF.up hc70 (by decide)
          have hG : fG K L [] M M_82 := by rw [eM_82]; exact hG.arr hc70 (by decide)
          have hM_83 : M_82 v70 = .inl (cy 15, 24, .inr (.inl (vp_updL f71 (k2 : Int32).toNatClampNeg f_80))) := by rw [eM_82]; exact va_up_self _ _ _
          have hM_84 : M_82 z1 = .inl (cy 23, 8, .inr (.inr (.inr (.inr (f13))))) := by rw [eM_82, va_up_ne _ _ (i1.neT hc70 (by decide))]; exact hM13
          have hM_85 : M_82 b15 = .inr (12, fs18) := by rw [eM_82, va_up_ne _ _ (hb_17.neT hc70 (by decide))]; exact hM18
          obtain ⟨f_86, ef_86⟩ : ∃ f : Nat → Int64, f = vp_updL f71 (k2 : Int32).toNatClampNeg f_80 := ⟨_, rfl⟩
          rw [← ef_86] at hM_83
          refine lv_aload_n hx hb dX13_lend_111 rfl (lv_at hl 1 rfl) ?_
          refine lv_aload hx hb dX13_lend_112 (lv_at hl 0 rfl) ?_
          refine pg_getN (D := D) (ci := 12) (v := .ref v70) (C := RX12) (T := TX12) (N := 51) hx hb hg inG12 hown hK hP hb_17.1 hM_85 rfl 30 (by decide) (hN.use (Cond.fieldLinkNest RX13 205 RX12 "lent" "[J" RX13) 39 rfl rfl) (fun _ h9 => h9) hv70 dX13_lend_114 ?_
          refine lv_iload_n hx hb dX13_lend_117 rfl (lv_at hl 3 rfl) ?_
          refine pg_lald hx hb hK hP hc70.1 1 hM_83 rfl (inb k2 24 (by omega) c_9 c_10) dX13_lend_118 ?_
          refine lv_topl (fun f_87 ef_87 => ?_)
          have hv9 : f_87 = f_80 := by rw [ef_87, ef_86]; exact vp_updL_self _ _ _
          refine lv_l2i hx hb dX13_lend_119 rfl ?_
          refine lv_topi (fun f_88 ef_88 => ?_)
          have hPc := hP.sub (ws' := [(za, (b13_0 0 z1 (nI z2) (nI z3) z4 z5 z6 z7 z8 z9 (nI z10) z11 z12 z13 z14 z15 (nI z16) z17 z18 z19))]) [0] rfl
          have hDc := hD.sub (ws' := [(za, (b13_0 0 z1 (nI z2) (nI z3) z4 z5 z6 z7 z8 z9 (nI z10) z11 z12 z13 z14 z15 (nI z16) z17 z18 z19))]) [0] (by decide) rfl
          have hKc := hK.sub (tys' := []) [] rfl
          have hFc := va_free (wc := [(za, (b13_0 0 z1 (nI z2) (nI z3) z4 z5 z6 z7 z8 z9 (nI z10) z11 z12 z13 z14 z15 (nI z16) z17 z18 z19))]) hD hS hA [0] rfl
          refine va_calli (va_runV (As := [.int f_88]) (rest := []) ⟨hx, hb, hml, hown, hg⟩ (m_done l D H_81.size za 0 z1 (nI z2) (nI z3) z4 z5 z6 z7 z8 z9 (nI z10) z11 z12 z13 z14 z15 (nI z16) z17 z18 z19 f_88) (cwV 1 hg (gV wd_730 wd_731 wd_732 wd_717 wd_733) rfl rfl rfl (by decide +kernel) ⟨(Nat.le_trans (Nat.le_of_ble_eq_true rfl) hRf), (Nat.le_trans (Nat.le_of_ble_eq_true rfl) hRl)⟩) ⟨Pr.blind, va_recv hK hP (ci := 13) (q0 := 0) rfl rfl, fun U hU hW => ⟨rfl, Pr.at hPc hKc hDc hN hU hW⟩⟩ rfl rfl hl.1 rfl (lv_room (Nat.le_of_ble_eq_true rfl)) dX13_lend_120 ⟨(Nat.le_trans (Nat.le_of_ble_eq_true rfl) hRc), (Nat.le_trans (Nat.le_of_ble_eq_true rfl) hRs)⟩) hS (fun q _ h => hFc q h) hFc (fun r_90 M_91 t H_89 locs ht hvm hw hB hz1 hk1 hS => ?_)
          have hp_92 := hw
          obtain ⟨hP1, hK1, hD1⟩ := hB
          rw [ht] at hP1
          obtain ⟨hP, hD⟩ := va_joinQ (X := [(za, (b13_0 0 z1 (nI z2) (nI z3) z4 z5 z6 z7 z8 z9 (nI z10) z11 z12 z13 z14 z15 (nI z16) z17 z18 z19))]) (cx := [(za, (b13_0 0 z1 (nI z2) (nI z3) z4 z5 z6 z7 z8 z9 (nI z10) z11 z12 z13 z14 z15 (nI z16) z17 z18 z19))]) (wr := []) (w1 := [(za, (b13_0 0 z1 (nI z2) (nI z3) 0 (-1) z6 z7 z8 z9 (nI z10) z11 z12 z13 z14 z15 (nI z16) z17 z18 z19))]) (pl := va_pl L M_82) hP hD [0] [] rfl rfl (by decide) (by decide) hk1 hFc hP1 hD1
          have hP : va_P D vwCl ([(za, (b13_0 0 z1 (nI z2) (nI z3) 0 (-1) z6 z7 z8 z9 (nI z10) z11 z12 z13 z14 z15 (nI z16) z17 z18 z19))] ++ va_pl L M_82) H_89 := hP
          have hD : va_D A ([(za, (b13_0 0 z1 (nI z2) (nI z3) 0 (-1) z6 z7 z8 z9 (nI z10) z11 z12 z13 z14 z15 (nI z16) z17 z18 z19))] ++ va_pl L M_82) := hD
          have hq := Eq.symm hp_92
          subst hq
          have hI_93 : (0 : Int) ≤ (k1 : Int32).toInt := inltI rfl rfl c_7
          have hI_94 : (k1 : Int32).toInt < ((z2 : Nat) : Int) := inleI (nI_toInt (by omega)) rfl c_8
          have hI_95 : (0 : Int) ≤ (k2 : Int32).toInt := inltI rfl rfl c_9
          have hI_96 : (k2 : Int32).toInt < (24 : Int) := inleI rfl rfl c_10
          have hI_97 : (k4 : Int32).toInt ≠ (0 : Int) := ineI rfl rfl c_27
          have hI_98 : (k4 : Int32).toInt ≠ (0 : Int) := ineI rfl rfl c_75
          have hI_99 : (k4 : Int32).toInt ≠ (0 : Int) := ineI rfl rfl c_77
          have hcB : ¬ (k4 = 0 ∧ ¬ LV (SX (k1 : Int32).toNatClampNeg) (k2 : Int32).toNatClampNeg + k3.toInt64 ≤ 1000000000) := fun w => c_77 w.1
          have hcA : ¬ (k4 ≠ 0 ∧ ¬ k3.toInt64 ≤ LV (SX (k1 : Int32).toNatClampNeg) (k2 : Int32).toNatClampNeg) := fun w => w.2 (by rw [← hlA, ← ef_69]; exact d_74)
          have hyes : okLd z2 SX k1 k2 k3 k4 := by unfold okLd okH; refine ⟨⟨?_, ?_⟩, ?_, ?_, ?_, ?_, ?_, ?_⟩ <;> first | omega | assumption
          have hA9 : HA (ax M b15 2) (ax M b15 3) := hAT.1
          have hB9 : HB (fx M b15 16) (fx M b15 14) (ax M b15 3) (ax M b15 43) := hAT.2.1
          have hC9 : HC (fx M b15 10) (ax M b15 22) (ax M b15 23) := hAT.2.2.1
          have hD9 : HD (fx M b15 0) (fx M b15 11) (fx M b15 15) (ax M b15 34) (ax M b15 41) := hAT.2.2.2.1
          have hE9 : HE (fx M b15 0) (fx M b15 1) (fx M b15 12) (fx M b15 13) (ax M b15 37) := hAT.2.2.2.2
          have hH8 : HI (fx M b15) (ax M b15) := ⟨hA9, hB9, hC9, hD9, hE9⟩
          have hH9 : HI (va_up (fx M b15) (lKey 3 (k2 : Int32).toNatClampNeg) (f_80 : Int64).toInt) (ax M b15) := HI.lk hH8 3 (k2 : Int32).toNatClampNeg _
          have hGI9 : GI K L z1 z2 M_82 := GI.fin hW0 i1 b2 hGI hact hV (hF.at i1 (by decide)) hH9
          rw [hQ]
          exact W.iret (v := f_88) hx hb hr (fun t ht hW9 => ⟨⟨f_88, M_82, rfl, ⟨hW, hF, hG, ⟨hGI9, (by unfold sxLd; rw [if_pos hyes]; rw [hnw] at hV; have hQ9 := ZSx.fin hW0 i1 b2 hZS hGI.1 hkn hb9 hV (hF.at i1 (by decide)) (by rw [hZk.1]) hZk.2; rw [va_upJ] at hQ9; exact hQ9)⟩, (by unfold anLd; rw [if_pos hyes, ← hnw, ← hv9]; exact ef_88)⟩, ⟨0, by rw [ht]; exact hP, hD⟩⟩, hS.F ht⟩) hS.2.2 dX13_lend_123
        · have hz := rfl (a := 0)
          have d_74 : ¬ f_69 ≤ f_72 := lc_lef c_73
          refine lv_aload_n hx hb dX13_lend_53 rfl (lv_at hl 1 rfl) ?_
          refine lv_iconst (v := 2) hx hb dX13_lend_54 (by decide) ?_
          have hPc := hP.sub (ws' := [(za, (b13_0 0 z1 (nI z2) (nI z3) z4 z5 z6 z7 z8 z9 (nI z10) z11 z12 z13 z14 z15 (nI z16) z17 z18 z19))]) [0] rfl
          have hDc := hD.sub (ws' := [(za, (b13_0 0 z1 (nI z2) (nI z3) z4 z5 z6 z7 z8 z9 (nI z10) z11 z12 z13 z14 z15 (nI z16) z17 z18 z19))]) [0] (by decide) rfl
          have hKc := hK.sub (tys' := []) [] rfl
          have hFc := va_free (wc := [(za, (b13_0 0 z1 (nI z2) (nI z3) z4 z5 z6 z7 z8 z9 (nI z10) z11 z12 z13 z14 z15 (nI z16) z17 z18 z19))]) hD hS hA [0] rfl
          refine va_calli (va_runV (As := [.int 2]) (rest := []) ⟨hx, hb, hml, hown, hg⟩ (m_refused l D H_20.size za 0 z1 (nI z2) (nI z3) z4 z5 z6 z7 z8 z9 (nI z10) z11 z12 z13 z14 z15 (nI z16) z17 z18 z19 2) (cwV 1 hg (gV wd_725 wd_726 wd_727 wd_717 wd_728) rfl rfl rfl (by decide +kernel) ⟨(Nat.le_trans (Nat.le_of_ble_eq_true rfl) hRf), (Nat.le_trans (Nat.le_of_ble_eq_true rfl) hRl)⟩) ⟨Pr.blind, va_recv hK hP (ci := 13) (q0 := 0) rfl rfl, fun U hU hW => ⟨rfl, Pr.at hPc hKc hDc hN hU hW⟩⟩ rfl rfl hl.1 rfl (lv_room (Nat.le_of_ble_eq_true rfl)) dX13_lend_55 ⟨(Nat.le_trans (Nat.le_of_ble_eq_true rfl) hRc), (Nat.le_trans (Nat.le_of_ble_eq_true rfl) hRs)⟩) hS (fun q _ h => hFc q h) hFc (fun r_101 M_102 t H_100 locs ht hvm hw hB hz1 hk1 hS => ?_)
          have hp_103 := hw
          obtain ⟨hP1, hK1, hD1⟩ := hB
          rw [ht] at hP1
          obtain ⟨hP, hD⟩ := va_joinQ (X := [(za, (b13_0 0 z1 (nI z2) (nI z3) z4 z5 z6 z7 z8 z9 (nI z10) z11 z12 z13 z14 z15 (nI z16) z17 z18 z19))]) (cx := [(za, (b13_0 0 z1 (nI z2) (nI z3) z4 z5 z6 z7 z8 z9 (nI z10) z11 z12 z13 z14 z15 (nI z16) z17 z18 z19))]) (wr := []) (w1 := [(za, (b13_0 0 z1 (nI z2) (nI z3) 2 (-1) z6 z7 z8 z9 (nI z10) z11 z12 z13 z14 z15 (nI z16) z17 z18 z19))]) (pl := va_pl L M) hP hD [0] [] rfl rfl (by decide) (by decide) hk1 hFc hP1 hD1
          have hP : va_P D vwCl ([(za, (b13_0 0 z1 (nI z2) (nI z3) 2 (-1) z6 z7 z8 z9 (nI z10) z11 z12 z13 z14 z15 (nI z16) z17 z18 z19))] ++ va_pl L M) H_100 := hP
          have hD : va_D A ([(za, (b13_0 0 z1 (nI z2) (nI z3) 2 (-1) z6 z7 z8 z9 (nI z10) z11 z12 z13 z14 z15 (nI z16) z17 z18 z19))] ++ va_pl L M) := hD
          have hq := Eq.symm hp_103
          subst hq
          have hI_104 : (0 : Int) ≤ (k1 : Int32).toInt := inltI rfl rfl c_7
          have hI_105 : (k1 : Int32).toInt < ((z2 : Nat) : Int) := inleI (nI_toInt (by omega)) rfl c_8
          have hI_106 : (0 : Int) ≤ (k2 : Int32).toInt := inltI rfl rfl c_9
          have hI_107 : (k2 : Int32).toInt < (24 : Int) := inleI rfl rfl c_10
          have hI_108 : (k4 : Int32).toInt ≠ (0 : Int) := ineI rfl rfl c_27
          have hcB : ¬ (k4 = 0 ∧ ¬ LV (SX (k1 : Int32).toNatClampNeg) (k2 : Int32).toNatClampNeg + k3.toInt64 ≤ 1000000000) := fun w => c_27 w.1
          have hcx : k4 ≠ 0 ∧ ¬ k3.toInt64 ≤ LV (SX (k1 : Int32).toNatClampNeg) (k2 : Int32).toNatClampNeg := ⟨c_27, by rw [← hlA, ← ef_69]; exact d_74⟩
          have hno : ¬ okLd z2 SX k1 k2 k3 k4 := fun q9 => by unfold okLd okH at q9; first | omega | (obtain ⟨⟨_, _⟩, _, _, _, _, _, _⟩ := q9; first | omega | contradiction)
          rw [hQ]
          exact W.iret (v := (-1)) hx hb hr (fun t ht hW9 => ⟨⟨(-1), M, rfl, ⟨hW, hF, hG, ⟨hGI, (by unfold sxLd; rw [if_neg hno]; exact hZS)⟩, (by unfold anLd; rw [if_neg hno])⟩, ⟨2, by rw [ht]; exact hP, hD⟩⟩, hS.F ht⟩) hS.2.2 dX13_lend_58
    · have hz := rfl (a := 0)
      refine lv_if_eq (tgt := 53) hx hb dX13_lend_32 (by decide) (fun _ => ?_) (fun c_109 => absurd c_109 (by decide))
      refine lv_aload_n hx hb dX13_lend_53 rfl (lv_at hl 1 rfl) ?_
      refine lv_iconst (v := 2) hx hb dX13_lend_54 (by decide) ?_
      have hPc := hP.sub (ws' := [(za, (b13_0 0 z1 (nI z2) (nI z3) z4 z5 z6 z7 z8 z9 (nI z10) z11 z12 z13 z14 z15 (nI z16) z17 z18 z19))]) [0] rfl
      have hDc := hD.sub (ws' := [(za, (b13_0 0 z1 (nI z2) (nI z3) z4 z5 z6 z7 z8 z9 (nI z10) z11 z12 z13 z14 z15 (nI z16) z17 z18 z19))]) [0] (by decide) rfl
      have hKc := hK.sub (tys' := []) [] rfl
      have hFc := va_free (wc := [(za, (b13_0 0 z1 (nI z2) (nI z3) z4 z5 z6 z7 z8 z9 (nI z10) z11 z12 z13 z14 z15 (nI z16) z17 z18 z19))]) hD hS hA [0] rfl
      refine va_calli (va_runV (As := [.int 2]) (rest := []) ⟨hx, hb, hml, hown, hg⟩ (m_refused l D H_20.size za 0 z1 (nI z2) (nI z3) z4 z5 z6 z7 z8 z9 (nI z10) z11 z12 z13 z14 z15 (nI z16) z17 z18 z19 2) (cwV 1 hg (gV wd_725 wd_726 wd_727 wd_717 wd_728) rfl rfl rfl (by decide +kernel) ⟨(Nat.le_trans (Nat.le_of_ble_eq_true rfl) hRf), (Nat.le_trans (Nat.le_of_ble_eq_true rfl) hRl)⟩) ⟨Pr.blind, va_recv hK hP (ci := 13) (q0 := 0) rfl rfl, fun U hU hW => ⟨rfl, Pr.at hPc hKc hDc hN hU hW⟩⟩ rfl rfl hl.1 rfl (lv_room (Nat.le_of_ble_eq_true rfl)) dX13_lend_55 ⟨(Nat.le_trans (Nat.le_of_ble_eq_true rfl) hRc), (Nat.le_trans (Nat.le_of_ble_eq_true rfl) hRs)⟩) hS (fun q _ h => hFc q h) hFc (fun r_111 M_112 t H_110 locs ht hvm hw hB hz1 hk1 hS => ?_)
      have hp_113 := hw
      obtain ⟨hP1, hK1, hD1⟩ := hB
      rw [ht] at hP1
      obtain ⟨hP, hD⟩ := va_joinQ (X := [(za, (b13_0 0 z1 (nI z2) (nI z3) z4 z5 z6 z7 z8 z9 (nI z10) z11 z12 z13 z14 z15 (nI z16) z17 z18 z19))]) (cx := [(za, (b13_0 0 z1 (nI z2) (nI z3) z4 z5 z6 z7 z8 z9 (nI z10) z11 z12 z13 z14 z15 (nI z16) z17 z18 z19))]) (wr := []) (w1 := [(za, (b13_0 0 z1 (nI z2) (nI z3) 2 (-1) z6 z7 z8 z9 (nI z10) z11 z12 z13 z14 z15 (nI z16) z17 z18 z19))]) (pl := va_pl L M) hP hD [0] [] rfl rfl (by decide) (by decide) hk1 hFc hP1 hD1
      have hP : va_P D vwCl ([(za, (b13_0 0 z1 (nI z2) (nI z3) 2 (-1) z6 z7 z8 z9 (nI z10) z11 z12 z13 z14 z15 (nI z16) z17 z18 z19))] ++ va_pl L M) H_110 := hP
      have hD : va_D A ([(za, (b13_0 0 z1 (nI z2) (nI z3) 2 (-1) z6 z7 z8 z9 (nI z10) z11 z12 z13 z14 z15 (nI z16) z17 z18 z19))] ++ va_pl L M) := hD
      have hq := Eq.symm hp_113
      subst hq
      have hI_114 : (0 : Int) ≤ (k1 : Int32).toInt := inltI rfl rfl c_7
      have hI_115 : (k1 : Int32).toInt < ((z2 : Nat) : Int) := inleI (nI_toInt (by omega)) rfl c_8
      have hI_116 : (0 : Int) ≤ (k2 : Int32).toInt := inltI rfl rfl c_9
      have hI_117 : (k2 : Int32).toInt < (24 : Int) := inleI rfl rfl c_10
      have hno : ¬ okLd z2 SX k1 k2 k3 k4 := fun q9 => by unfold okLd okH at q9; first | omega | (obtain ⟨⟨_, _⟩, _, _, _, _, _, _⟩ := q9; first | omega | contradiction)
      rw [hQ]
      exact W.iret (v := (-1)) hx hb hr (fun t ht hW9 => ⟨⟨(-1), M, rfl, ⟨hW, hF, hG, ⟨hGI, (by unfold sxLd; rw [if_neg hno]; exact hZS)⟩, (by unfold anLd; rw [if_neg hno])⟩, ⟨2, by rw [ht]; exact hP, hD⟩⟩, hS.F ht⟩) hS.2.2 dX13_lend_58
  · have hz := rfl (a := 0)
    refine lv_if_ne (tgt := 20) hx hb dX13_lend_11 (by decide) (fun c_118 => absurd c_118 (by decide)) (fun _ => ?_)
    refine lv_aload_n hx hb dX13_lend_14 rfl (lv_at hl 0 rfl) ?_
    refine lv_iconst (v := 1) hx hb dX13_lend_15 (by decide) ?_
    have hPc := hP.sub (ws' := [(za, (b13_0 0 z1 (nI z2) (nI z3) z4 z5 z6 z7 z8 z9 (nI z10) z11 z12 z13 z14 z15 (nI z16) z17 z18 z19))]) [0] rfl
    have hDc := hD.sub (ws' := [(za, (b13_0 0 z1 (nI z2) (nI z3) z4 z5 z6 z7 z8 z9 (nI z10) z11 z12 z13 z14 z15 (nI z16) z17 z18 z19))]) [0] (by decide) rfl
    have hKc := hK.sub (tys' := []) [] rfl
    have hFc := va_free (wc := [(za, (b13_0 0 z1 (nI z2) (nI z3) z4 z5 z6 z7 z8 z9 (nI z10) z11 z12 z13 z14 z15 (nI z16) z17 z18 z19))]) hD hS hA [0] rfl
    refine va_calli (va_runV (As := [.int 1]) (rest := []) ⟨hx, hb, hml, hown, hg⟩ (m_refused l D H_2.size za 0 z1 (nI z2) (nI z3) z4 z5 z6 z7 z8 z9 (nI z10) z11 z12 z13 z14 z15 (nI z16) z17 z18 z19 1) (cwV 1 hg (gV wd_725 wd_726 wd_727 wd_717 wd_728) rfl rfl rfl (by decide +kernel) ⟨(Nat.le_trans (Nat.le_of_ble_eq_true rfl) hRf), (Nat.le_trans (Nat.le_of_ble_eq_true rfl) hRl)⟩) ⟨Pr.blind, va_recv hK hP (ci := 13) (q0 := 0) rfl rfl, fun U hU hW => ⟨rfl, Pr.at hPc hKc hDc hN hU hW⟩⟩ rfl rfl hl.1 rfl (lv_room (Nat.le_of_ble_eq_true rfl)) dX13_lend_16 ⟨(Nat.le_trans (Nat.le_of_ble_eq_true rfl) hRc), (Nat.le_trans (Nat.le_of_ble_eq_true rfl) hRs)⟩) hS (fun q _ h => hFc q h) hFc (fun r_120 M_121 t H_119 locs ht hvm hw hB hz1 hk1 hS => ?_)
    have hp_122 := hw
    obtain ⟨hP1, hK1, hD1⟩ := hB
    rw [ht] at hP1
    obtain ⟨hP, hD⟩ := va_joinQ (X := [(za, (b13_0 0 z1 (nI z2) (nI z3) z4 z5 z6 z7 z8 z9 (nI z10) z11 z12 z13 z14 z15 (nI z16) z17 z18 z19))]) (cx := [(za, (b13_0 0 z1 (nI z2) (nI z3) z4 z5 z6 z7 z8 z9 (nI z10) z11 z12 z13 z14 z15 (nI z16) z17 z18 z19))]) (wr := []) (w1 := [(za, (b13_0 0 z1 (nI z2) (nI z3) 1 (-1) z6 z7 z8 z9 (nI z10) z11 z12 z13 z14 z15 (nI z16) z17 z18 z19))]) (pl := va_pl L M) hP hD [0] [] rfl rfl (by decide) (by decide) hk1 hFc hP1 hD1
    have hP : va_P D vwCl ([(za, (b13_0 0 z1 (nI z2) (nI z3) 1 (-1) z6 z7 z8 z9 (nI z10) z11 z12 z13 z14 z15 (nI z16) z17 z18 z19))] ++ va_pl L M) H_119 := hP
    have hD : va_D A ([(za, (b13_0 0 z1 (nI z2) (nI z3) 1 (-1) z6 z7 z8 z9 (nI z10) z11 z12 z13 z14 z15 (nI z16) z17 z18 z19))] ++ va_pl L M) := hD
    have hq := Eq.symm hp_122
    subst hq
    have hno : ¬ okLd z2 SX k1 k2 k3 k4 := fun q9 => by unfold okLd okH at q9; first | omega | (obtain ⟨⟨_, _⟩, _, _, _, _, _, _⟩ := q9; first | omega | contradiction)
    rw [hQ]
    exact W.iret (v := (-1)) hx hb hr (fun t ht hW9 => ⟨⟨(-1), M, rfl, ⟨hW, hF, hG, ⟨hGI, (by unfold sxLd; rw [if_neg hno]; exact hZS)⟩, (by unfold anLd; rw [if_neg hno])⟩, ⟨1, by rw [ht]; exact hP, hD⟩⟩, hS.F ht⟩) hS.2.2 dX13_lend_19
