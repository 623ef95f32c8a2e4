def okLf (n : Nat) (SX : Nat → Nat → Int) (h d s c : Int32) : Prop := okH n h ∧ 0 ≤ s.toInt ∧ s.toInt ≤ 2 ∧ 0 ≤ c.toInt ∧ c.toInt ≤ 6 ∧ SX h.toNatClampNeg 1 < d.toInt ∧ d.toInt < 1000
noncomputable def anLf (n : Nat) (SX : Nat → Nat → Int) (h d s c : Int32) : Int32 := (@ite _ (okLf n SX h d s c) (Classical.propDecidable _) (c) (-1))
noncomputable def sxLf (n : Nat) (SX : Nat → Nat → Int) (h d s c : Int32) : Nat → Nat → Int := (@ite _ (okLf n SX h d s c) (Classical.propDecidable _) (va_up SX h.toNatClampNeg (va_up (SX h.toNatClampNeg) 16 0)) (SX))
noncomputable def syLf (n : Nat) (SX : Nat → Nat → Int) (SY : Nat → Nat → Nat → Int32) (h d s c : Int32) : Nat → Nat → Nat → Int32 := (@ite _ (okLf n SX h d s c) (Classical.propDecidable _) (va_up SY h.toNatClampNeg (va_up (va_up (va_up (SY h.toNatClampNeg) 2 (upd (SY h.toNatClampNeg 2) d.toNatClampNeg c)) 3 (upd (SY h.toNatClampNeg 3) d.toNatClampNeg 0)) 4 (upd (SY h.toNatClampNeg 4) d.toNatClampNeg s))) (SY))
set_option maxHeartbeats 4000000 in
set_option maxRecDepth 100000 in
theorem x_leaf (l : Launch) (D : va_G) (cy : Nat → ClassId) (K0 : Kp) (L0 : List Nat) (M0 : Hp) (sz : Nat) (xa : Nat) (x0 : Nat) (x1 : Nat) (x2 : Nat) (x3 : Nat) (x4 : Nat) (x5 : Nat) (x6 : Nat) (x7 : Int32) (x8 : Nat) (x9 : Int32) (x10 : Int32) (k1 : Int32) (k2 : Int32) (k3 : Int32) (k4 : Int32) (Bo : Nat → Nat × Nat) (T : Int) (PK : Nat → Int32) (PT : Nat → Int32) (SX : Nat → Nat → Int) (SY : Nat → Nat → Nat → Int32) (hW : WOK cy K0 L0 M0) (i0 : isk K0 L0 x0 17 8) (b1 : x1 ≤ 8) (i2 : isk K0 L0 x2 19 40) (b3 : x3 ≤ 40) (i4 : isk K0 L0 x4 7 0) (i5 : isk K0 L0 x5 5 0) (i6 : isk K0 L0 x6 60 24) (i8 : isk K0 L0 x8 73 25) (hC : CX Bo K0 L0 x0 x1 T x3 PK PT SX SY M0) (hSV : ∀ k, k < x1 → SV (SX k) (SY k)) (hHI : ∀ k, k < x1 → HI (SX k) (SY k)) (hT : (0 ≤ T ∧ T ≤ 900000)) : Met l yX11_leaf (wsM yX11_leaf cX11_leaf 6 (some .int)) ({ frames := 2, cells := 2, slots := 9, locals := 43 }) (va_Pc [.ref xa, .int k1, .int k2, .int k3, .int k4] (PG D cy [(xa, (b11_1 x0 (nI x1) x2 (nI x3) x4 x5 x6 x7 x8 x9 x10))] L0 M0 sz)) (va_Qi (fun (r : Int32) (u : Kp × List Nat × Hp) => ext K0 L0 u.1 u.2.1 ∧ WOK cy u.1 u.2.1 u.2.2 ∧ fr K0 L0 [10, 18] M0 u.2.2 ∧ fT 10 K0 L0 [1, 2] M0 u.2.2 ∧ ((r = anLf x1 SX k1 k2 k3 k4))) (fun u t => ∃ (w9 : Int32), (∃ B9, CX B9 u.1 u.2.1 x0 x1 (T + 1) x3 PK PT (sxLf x1 SX k1 k2 k3 k4) (syLf x1 SX SY k1 k2 k3 k4) u.2.2) ∧ PQ D [(xa, (b11_1 x0 (nI x1) x2 (nI x3) x4 x5 x6 x7 x8 w9 (-1)))] u.2.1 u.2.2 (va_A ([(xa, (b11_1 x0 (nI x1) x2 (nI x3) x4 x5 x6 x7 x8 x9 x10))] ++ va_pl L0 M0) sz) t) (va_A ([(xa, (b11_1 x0 (nI x1) x2 (nI x3) x4 x5 x6 x7 x8 x9 x10))] ++ va_pl L0 M0) sz)) 2 9 (va_A ([(xa, (b11_1 x0 (nI x1) x2 (nI x3) x4 x5 x6 x7 x8 x9 x10))] ++ va_pl L0 M0) sz) := by
  refine Met.ofW (cc := cX11_leaf) (maxL := 6) (ret := (some .int)) (by decide) rfl ?_
  intro p e s m args below meth c s₁ B hml hv
  obtain ⟨rfl, hsz, hP, hK, hD0, hN⟩ := hv
  have hx := B.exec
  have hb := B.bytes
  have hr := B.returns
  have hts := atoms_spec (ws := (wsM yX11_leaf cX11_leaf 6 (some .int))) B.pre
  have hg : ∀ w ∈ lw_good, w.before _ s = true := fun w h => hts w (List.mem_cons_of_mem _ h)
  have hown : s.vm.findClass RX11 = some m.cls := findClass_of_methodNamed B.named
  have hlocks := B.notSynchronized
  subst hsz
  have hD := hD0.self (sz := s.heap.size)
  generalize hAe : va_A ([(xa, (b11_1 x0 (nI x1) x2 (nI x3) x4 x5 x6 x7 x8 x9 x10))] ++ va_pl L0 M0) s.heap.size = A at hD ⊢
  have hA : ∀ q : Nat, s.heap.size ≤ q → A q := fun q h => by rw [← hAe]; exact Or.inr h
  have hS : va_S A s.heap s.heap [] := va_S.rf
  have hl := lv_entry ([.ref xa, .int k1, .int k2, .int k3, .int k4]) (n := 6) (Nat.le_of_ble_eq_true rfl)
  rw [lg_entry_eq]
  generalize (lg_sl ([.ref xa, .int k1, .int k2, .int k3, .int k4]) ++ List.replicate (6 - (lg_sl ([.ref xa, .int k1, .int k2, .int k3, .int k4])).length) Slot.unset).toArray = ls at hl ⊢
  refine W.nameQ (fun Q hQ => ?_)
  refine W.nameR (fun R hR => ?_)
  have hRf : 2 ≤ R.frames := by rw [hR]; exact Nat.le_of_ble_eq_true rfl
  have hRl : 43 ≤ R.locals := by rw [hR]; exact Nat.le_of_ble_eq_true rfl
  have hRc : 2 ≤ R.cells := by rw [hR]; exact Nat.le_of_ble_eq_true rfl
  have hRs : 9 ≤ R.slots := by rw [hR]; exact Nat.le_of_ble_eq_true rfl
  have hW00 := hW
  have i000 := i0
  have i200 := i2
  have i400 := i4
  have i500 := i5
  have i600 := i6
  have i800 := i8
  have hC00 := hC
  obtain ⟨K, L, M, hX0, hF, hT10, hW, hP, hD, i0, i2, i4, i5, i6, i8, hC, hMe, hKe, hLe⟩ : ∃ (K : Kp) (L : List Nat) (M : Hp), ext K0 L0 K L ∧ fr K0 L0 [10, 18] M0 M ∧ fT 10 K0 L0 [1, 2] M0 M ∧ WOK cy K L M ∧ va_P D vwCl ([(xa, (b11_1 x0 (nI x1) x2 (nI x3) x4 x5 x6 x7 x8 x9 x10))] ++ va_pl L M) s.heap ∧ va_D A ([(xa, (b11_1 x0 (nI x1) x2 (nI x3) x4 x5 x6 x7 x8 x9 x10))] ++ va_pl L M) ∧ isk K L x0 17 8 ∧ isk K L x2 19 40 ∧ isk K L x4 7 0 ∧ isk K L x5 5 0 ∧ isk K L x6 60 24 ∧ isk K L x8 73 25 ∧ CX Bo K L x0 x1 T x3 PK PT SX SY M ∧ M = M0 ∧ K = K0 ∧ L = L0 := ⟨K0, L0, M0, ext.rf, fr.rf, fT.rf, hW, hP, hD, i0, i2, i4, i5, i6, i8, hC, rfl, rfl, rfl⟩
  have hl : lv_has ls 6 [(0, .ref xa), (1, .int k1), (2, .int k2), (3, .int k3), (4, .int k4)] := hl
  have hp4 : ∀ q, isk K L q 4 0 → isk K0 L0 q 4 0 := by rw [hKe, hLe]; exact fun q iq => iq
  refine lv_aload_n hx hb dX11_leaf_0 rfl (lv_at hl 0 rfl) ?_
  refine lv_iload_n hx hb dX11_leaf_1 rfl (lv_at hl 1 rfl) ?_
  have hPc : va_P D vwCl ([(xa, (b11_1 x0 (nI x1) x2 (nI x3) x4 x5 x6 x7 x8 x9 x10))] ++ va_pl L M) s.heap := hP
  have hDc : va_D A ([(xa, (b11_1 x0 (nI x1) x2 (nI x3) x4 x5 x6 x7 x8 x9 x10))] ++ va_pl L M) := hD
  have hFc : ∀ q, va_A ([(xa, (b11_1 x0 (nI x1) x2 (nI x3) x4 x5 x6 x7 x8 x9 x10))] ++ va_pl L M) s.heap.size q → A q := pg_free hDc hS hA
  refine va_callq (va_runV (As := [.int k1]) (rest := []) ⟨hx, hb, hml, hown, hg⟩ (e_houseAt l D cy K L M s.heap.size xa x0 x1 x2 x3 x4 x5 x6 x7 x8 x9 x10 k1 Bo T PK PT SX SY  hW i0 b1 i2 b3 i4 i5 i6 i8 hC) (cwV 1 hg (gV wd_340 wd_341 wd_342 wd_3 wd_343) rfl rfl rfl (by decide +kernel) ⟨(Nat.le_trans (Nat.le_of_ble_eq_true rfl) hRf), (Nat.le_trans (Nat.le_of_ble_eq_true rfl) hRl)⟩) ⟨PG.blind, va_recv hK hP (ci := 11) (q0 := 0) rfl rfl, fun U hU hW => ⟨rfl, PG.at hPc hK hDc hN hU hW⟩⟩ rfl rfl hl.1 rfl (lv_room (Nat.le_of_ble_eq_true rfl)) dX11_leaf_2 ⟨(Nat.le_trans (Nat.le_of_ble_eq_true rfl) hRc), (Nat.le_trans (Nat.le_of_ble_eq_true rfl) hRs)⟩) hS (fun q _ h => hFc q h) hFc (fun r_2 M_3 t H_1 locs ht hvm hw hB hz1 hk1 hS => ?_)
  have hp_4 := hw
  obtain ⟨hP1, hD1⟩ := hB
  rw [ht] at hP1
  have hP : va_P D vwCl ([(xa, (b11_1 x0 (nI x1) x2 (nI x3) x4 x5 x6 x7 x8 x9 x10))] ++ va_pl L M) H_1 := hP1
  have hD : va_D A ([(xa, (b11_1 x0 (nI x1) x2 (nI x3) x4 x5 x6 x7 x8 x9 x10))] ++ va_pl L M) := hD1.mono hFc
  obtain ⟨hp_4, hqx⟩ := hp_4
  rcases r_2 with _ | b_5
  · have hz := rfl (a := 0)
    refine lv_astoreN (lv' := [(5, .null), (0, .ref xa), (1, .int k1), (2, .int k2), (3, .int k3), (4, .int k4)]) hx hb dX11_leaf_5 hl (by decide) rfl (fun ls hl => ?_)
    refine lv_aloadN hx hb dX11_leaf_7 (lv_at hl 0 rfl) ?_
    refine lv_ifnonnullN hx hb dX11_leaf_9 ?_
    refine lv_aload_n hx hb dX11_leaf_12 rfl (lv_at hl 1 rfl) ?_
    refine lv_iconst (v := 1) hx hb dX11_leaf_13 (by decide) ?_
    have hPc := hP.sub (ws' := [(xa, (b11_1 x0 (nI x1) x2 (nI x3) x4 x5 x6 x7 x8 x9 x10))]) [0] rfl
    have hDc := hD.sub (ws' := [(xa, (b11_1 x0 (nI x1) x2 (nI x3) x4 x5 x6 x7 x8 x9 x10))]) [0] (by decide) rfl
    have hKc := hK.sub (tys' := []) [] rfl
    have hFc := va_free (wc := [(xa, (b11_1 x0 (nI x1) x2 (nI x3) x4 x5 x6 x7 x8 x9 x10))]) hD hS hA [0] rfl
    refine va_calli (va_runV (As := [.int 1]) (rest := []) ⟨hx, hb, hml, hown, hg⟩ (k_refuse l D H_1.size xa x0 (nI x1) x2 (nI x3) x4 x5 x6 x7 x8 x9 x10 1) (cwV 1 hg (gV wd_344 wd_345 wd_346 wd_3 wd_347) rfl rfl rfl (by decide +kernel) ⟨(Nat.le_trans (Nat.le_of_ble_eq_true rfl) hRf), (Nat.le_trans (Nat.le_of_ble_eq_true rfl) hRl)⟩) ⟨Pr.blind, va_recv hK hP (ci := 11) (q0 := 0) rfl rfl, fun U hU hW => ⟨rfl, Pr.at hPc hKc hDc hN hU hW⟩⟩ rfl rfl hl.1 rfl (lv_room (Nat.le_of_ble_eq_true rfl)) dX11_leaf_14 ⟨(Nat.le_trans (Nat.le_of_ble_eq_true rfl) hRc), (Nat.le_trans (Nat.le_of_ble_eq_true rfl) hRs)⟩) hS (fun q _ h => hFc q h) hFc (fun r_7 M_8 t H_6 locs ht hvm hw hB hz1 hk1 hS => ?_)
    have hp_9 := hw
    obtain ⟨hP1, hK1, hD1⟩ := hB
    rw [ht] at hP1
    obtain ⟨hP, hD⟩ := va_joinQ (X := [(xa, (b11_1 x0 (nI x1) x2 (nI x3) x4 x5 x6 x7 x8 x9 x10))]) (cx := [(xa, (b11_1 x0 (nI x1) x2 (nI x3) x4 x5 x6 x7 x8 x9 x10))]) (wr := []) (w1 := [(xa, (b11_1 x0 (nI x1) x2 (nI x3) x4 x5 x6 x7 x8 1 (-1)))]) (pl := va_pl L M) hP hD [0] [] rfl rfl (by decide) (by decide) hk1 hFc hP1 hD1
    have hP : va_P D vwCl ([(xa, (b11_1 x0 (nI x1) x2 (nI x3) x4 x5 x6 x7 x8 1 (-1)))] ++ va_pl L M) H_6 := hP
    have hD : va_D A ([(xa, (b11_1 x0 (nI x1) x2 (nI x3) x4 x5 x6 x7 x8 1 (-1)))] ++ va_pl L M) := hD
    have hq := Eq.symm hp_9
    subst hq
    refine W.widen (k := 2) (n := 9) (Nat.le_of_ble_eq_true rfl) (Nat.le_of_ble_eq_true rfl) ?_
    have hnh := hqx.2 rfl
    have hno : ¬ okLf x1 SX k1 k2 k3 k4 := fun q9 => by unfold okLf okH at q9; first | omega | (obtain ⟨⟨_, _⟩, _, _, _, _, _, _⟩ := q9; first | omega | contradiction)
    rw [hQ]
    exact W.iret (v := (-1)) hx hb hr (fun t ht hW9 => ⟨⟨(-1), (K, L, M), rfl, ⟨hX0, hW, hF, hT10, (by unfold anLf; rw [if_neg hno])⟩, ⟨1, (⟨_, by unfold sxLf syLf; rw [if_neg hno, if_neg hno]; exact hC.mono⟩), by rw [ht]; exact hP, hD⟩⟩, hS.F ht⟩) hS.2.2 dX11_leaf_17
  · have hb_10 := hp_4 b_5 rfl
    refine lv_astore (lv' := [(5, .ref b_5), (0, .ref xa), (1, .int k1), (2, .int k2), (3, .int k3), (4, .int k4)]) hx hb dX11_leaf_5 hl (by decide) rfl (fun ls hl => ?_)
    obtain ⟨hr9, hb9⟩ := hqx.1 b_5 rfl
    have hck : ((k1 : Int32).toNatClampNeg : Int) = (k1 : Int32).toInt := clT (by omega)
    have hkn : (k1 : Int32).toNatClampNeg < x1 := by omega
    have hSM := hC.at hkn hb9
    have hSVk := hSV (k1 : Int32).toNatClampNeg hkn
    have hHIk := hHI (k1 : Int32).toNatClampNeg hkn
    have hV : VC Bo K L M0 M b_5 (cfx M b_5) (cax M b_5) := by rw [← hMe]; exact VC.rf b_5 hC.oc
    have hb90 : RFc (M0 x0) (k1 : Int32).toNatClampNeg = some b_5 := by rw [← hMe]; exact hb9
    obtain ⟨v11_0, v11_1, v11_2, v11_3, v11_4, v11_5, v11_6, v11_7, v11_8, v11_9, v11_10, v11_11, v11_12, v11_13, v11_14, v11_15, v11_16, v11_17, v11_18, v11_19, hM11, h11_3, h11_4, h11_5, h11_6, h11_7, h11_8, h11_9, h11_10, h11_11, h11_12, h11_13, h11_16, h11_17, h11_18, h11_19⟩ := hW.open_2 hb_10
    have hA_12 : (cV 2 M b_5 0).toInt = (v11_0 : Int32).toInt := by rw [cV_of hM11 rfl]
    have hA_13 : (cV 2 M b_5 1).toInt = (v11_1 : Int32).toInt := by rw [cV_of hM11 rfl]
    have hA_14 : (cV 2 M b_5 2).toInt = (v11_2 : Int32).toInt := by rw [cV_of hM11 rfl]
    have hA_15 : (cV 2 M b_5 4).toInt = ((v11_4 : Nat) : Int) := by rw [cV_of hM11 rfl]; exact nI_toInt (by omega)
    have hA_16 : (cV 2 M b_5 5).toInt = ((v11_5 : Nat) : Int) := by rw [cV_of hM11 rfl]; exact nI_toInt (by omega)
    have hA_17 : (cV 2 M b_5 9).toInt = ((v11_9 : Nat) : Int) := by rw [cV_of hM11 rfl]; exact nI_toInt (by omega)
    have hA_18 : (cV 2 M b_5 11).toInt = ((v11_11 : Nat) : Int) := by rw [cV_of hM11 rfl]; exact nI_toInt (by omega)
    have hA_19 : (cV 2 M b_5 15).toInt = (v11_15 : Int32).toInt := by rw [cV_of hM11 rfl]
    have hq0 : (cV 2 M b_5 1).toInt = SX (k1 : Int32).toNatClampNeg 0 := hSM.x0
    have hq1 : (cV 2 M b_5 2).toInt = SX (k1 : Int32).toNatClampNeg 1 := hSM.x1
    have hq10 : (cV 2 M b_5 9).toInt = SX (k1 : Int32).toNatClampNeg 10 := hSM.x10
    have hq11 : (cV 2 M b_5 11).toInt = SX (k1 : Int32).toNatClampNeg 11 := hSM.x11
    have hq12 : (cV 2 M b_5 4).toInt = SX (k1 : Int32).toNatClampNeg 12 := hSM.x12
    have hq13 : (cV 2 M b_5 5).toInt = SX (k1 : Int32).toNatClampNeg 13 := hSM.x13
    have hq14 : (cV 1 M v11_16 3).toInt = SX (k1 : Int32).toNatClampNeg 14 := by have h9 := hSM.x14; rw [← h9]; show _ = (cV 1 M (rA 2 M b_5 16) 3).toInt; rw [rA_of (j := 16) hM11 rfl]
    have hq15 : (cV 1 M v11_17 3).toInt = SX (k1 : Int32).toNatClampNeg 15 := by have h9 := hSM.x15; rw [← h9]; show _ = (cV 1 M (rA 2 M b_5 17) 3).toInt; rw [rA_of (j := 17) hM11 rfl]
    have hq16 : (cV 10 M v11_18 2).toInt = SX (k1 : Int32).toNatClampNeg 16 := by have h9 := hSM.x16; rw [← h9]; show _ = (cV 10 M (rA 2 M b_5 18) 2).toInt; rw [rA_of (j := 18) hM11 rfl]
    have hq19 : (cV 10 M v11_18 1).toInt = cfx M b_5 19 := by show _ = (cV 10 M (rA 2 M b_5 18) 1).toInt; rw [rA_of (j := 18) hM11 rfl]
    have hun := hSM.un
    have hl16 : (ALc (M (rA 1 M v11_16 1)) : Int) = 120 := by have h9 := hC.oc.l16 hW hb_10; rw [rA_of (j := 16) hM11 rfl] at h9; omega
    have hl17 : (ALc (M (rA 1 M v11_17 1)) : Int) = 20 := by have h9 := hC.oc.l17 hW hb_10; rw [rA_of (j := 17) hM11 rfl] at h9; omega
    have hbd0 := hSVk.b0
    have hbd1 := hSVk.b1
    have hbd10 := hSVk.b10
    have hbd11 := hSVk.b11
    have hbd12 := hSVk.b12
    have hbd13 := hSVk.b13
    have hbd14 := hSVk.b14
    have hbd15 := hSVk.b15
    have hbd16 := hSVk.b16
    have hqx14 : cfx M b_5 14 = SX (k1 : Int32).toNatClampNeg 14 := hSM.x14
    have hqx15 : cfx M b_5 15 = SX (k1 : Int32).toNatClampNeg 15 := hSM.x15
    have hqx16 : cfx M b_5 16 = SX (k1 : Int32).toNatClampNeg 16 := hSM.x16
    refine lv_aload hx hb dX11_leaf_7 (lv_at hl 0 rfl) ?_
    refine lv_ifnonnull (tgt := 18) hx hb dX11_leaf_9 (by decide) ?_
    refine lv_iload_n hx hb dX11_leaf_18 rfl (lv_at hl 4 rfl) ?_
    refine lv_if_lt (tgt := 39) hx hb dX11_leaf_19 (by decide) (fun c_20 => ?_) (fun c_20 => ?_)
    · have hz := rfl (a := 0)
      refine lv_aload_n hx hb dX11_leaf_39 rfl (lv_at hl 1 rfl) ?_
      refine lv_iconst (v := 2) hx hb dX11_leaf_40 (by decide) ?_
      have hPc := hP.sub (ws' := [(xa, (b11_1 x0 (nI x1) x2 (nI x3) x4 x5 x6 x7 x8 x9 x10))]) [0] rfl
      have hDc := hD.sub (ws' := [(xa, (b11_1 x0 (nI x1) x2 (nI x3) x4 x5 x6 x7 x8 x9 x10))]) [0] (by decide) rfl
      have hKc := hK.sub (tys' := []) [] rfl
      have hFc := va_free (wc := [(xa, (b11_1 x0 (nI x1) x2 (nI x3) x4 x5 x6 x7 x8 x9 x10))]) hD hS hA [0] rfl
      refine va_calli (va_runV (As := [.int 2]) (rest := []) ⟨hx, hb, hml, hown, hg⟩ (k_refuse l D H_1.size xa x0 (nI x1) x2 (nI x3) x4 x5 x6 x7 x8 x9 x10 2) (cwV 1 hg (gV wd_344 wd_345 wd_346 wd_3 wd_347) rfl rfl rfl (by decide +kernel) ⟨(Nat.le_trans (Nat.le_of_ble_eq_true rfl) hRf), (Nat.le_trans (Nat.le_of_ble_eq_true rfl) hRl)⟩) ⟨Pr.blind, va_recv hK hP (ci := 11) (q0 := 0) rfl rfl, fun U hU hW => ⟨rfl, Pr.at hPc hKc hDc hN hU hW⟩⟩ rfl rfl hl.1 rfl (lv_room (Nat.le_of_ble_eq_true rfl)) dX11_leaf_41 ⟨(Nat.le_trans (Nat.le_of_ble_eq_true rfl) hRc), (Nat.le_trans (Nat.le_of_ble_eq_true rfl) hRs)⟩) hS (fun q _ h => hFc q h) hFc (fun r_22 M_23 t H_21 locs ht hvm hw hB hz1 hk1 hS => ?_)
      have hp_24 := hw
      obtain ⟨hP1, hK1, hD1⟩ := hB
      rw [ht] at hP1
      obtain ⟨hP, hD⟩ := va_joinQ (X := [(xa, (b11_1 x0 (nI x1) x2 (nI x3) x4 x5 x6 x7 x8 x9 x10))]) (cx := [(xa, (b11_1 x0 (nI x1) x2 (nI x3) x4 x5 x6 x7 x8 x9 x10))]) (wr := []) (w1 := [(xa, (b11_1 x0 (nI x1) x2 (nI x3) x4 x5 x6 x7 x8 2 (-1)))]) (pl := va_pl L M) hP hD [0] [] rfl rfl (by decide) (by decide) hk1 hFc hP1 hD1
      have hP : va_P D vwCl ([(xa, (b11_1 x0 (nI x1) x2 (nI x3) x4 x5 x6 x7 x8 2 (-1)))] ++ va_pl L M) H_21 := hP
      have hD : va_D A ([(xa, (b11_1 x0 (nI x1) x2 (nI x3) x4 x5 x6 x7 x8 2 (-1)))] ++ va_pl L M) := hD
      have hq := Eq.symm hp_24
      subst hq
      refine W.widen (k := 2) (n := 9) (Nat.le_of_ble_eq_true rfl) (Nat.le_of_ble_eq_true rfl) ?_
      have hI_25 : (k3 : Int32).toInt < (0 : Int) := iltI rfl rfl c_20
      have hno : ¬ okLf x1 SX k1 k2 k3 k4 := fun q9 => by unfold okLf okH at q9; first | omega | (obtain ⟨⟨_, _⟩, _, _, _, _, _, _⟩ := q9; first | omega | contradiction)
      rw [hQ]
      exact W.iret (v := (-1)) hx hb hr (fun t ht hW9 => ⟨⟨(-1), (K, L, M), rfl, ⟨hX0, hW, hF, hT10, (by unfold anLf; rw [if_neg hno])⟩, ⟨2, (⟨_, by unfold sxLf syLf; rw [if_neg hno, if_neg hno]; exact hC.mono⟩), by rw [ht]; exact hP, hD⟩⟩, hS.F ht⟩) hS.2.2 dX11_leaf_44
    · have hz := rfl (a := 0)
      refine lv_iload_n hx hb dX11_leaf_22 rfl (lv_at hl 4 rfl) ?_
      refine lv_iconst (v := 3) hx hb dX11_leaf_23 (by decide) ?_
      refine lv_icmp_ge (tgt := 39) hx hb dX11_leaf_24 (by decide) (fun c_26 => ?_) (fun c_26 => ?_)
      · have hz := rfl (a := 0)
        refine lv_aload_n hx hb dX11_leaf_39 rfl (lv_at hl 1 rfl) ?_
        refine lv_iconst (v := 2) hx hb dX11_leaf_40 (by decide) ?_
        have hPc := hP.sub (ws' := [(xa, (b11_1 x0 (nI x1) x2 (nI x3) x4 x5 x6 x7 x8 x9 x10))]) [0] rfl
        have hDc := hD.sub (ws' := [(xa, (b11_1 x0 (nI x1) x2 (nI x3) x4 x5 x6 x7 x8 x9 x10))]) [0] (by decide) rfl
        have hKc := hK.sub (tys' := []) [] rfl
        have hFc := va_free (wc := [(xa, (b11_1 x0 (nI x1) x2 (nI x3) x4 x5 x6 x7 x8 x9 x10))]) hD hS hA [0] rfl
        refine va_calli (va_runV (As := [.int 2]) (rest := []) ⟨hx, hb, hml, hown, hg⟩ (k_refuse l D H_1.size xa x0 (nI x1) x2 (nI x3) x4 x5 x6 x7 x8 x9 x10 2) (cwV 1 hg (gV wd_344 wd_345 wd_346 wd_3 wd_347) rfl rfl rfl (by decide +kernel) ⟨(Nat.le_trans (Nat.le_of_ble_eq_true rfl) hRf), (Nat.le_trans (Nat.le_of_ble_eq_true rfl) hRl)⟩) ⟨Pr.blind, va_recv hK hP (ci := 11) (q0 := 0) rfl rfl, fun U hU hW => ⟨rfl, Pr.at hPc hKc hDc hN hU hW⟩⟩ rfl rfl hl.1 rfl (lv_room (Nat.le_of_ble_eq_true rfl)) dX11_leaf_41 ⟨(Nat.le_trans (Nat.le_of_ble_eq_true rfl) hRc), (Nat.le_trans (Nat.le_of_ble_eq_true rfl) hRs)⟩) hS (fun q _ h => hFc q h) hFc (fun r_28 M_29 t H_27 locs ht hvm hw hB hz1 hk1 hS => ?_)
        have hp_30 := hw
        obtain ⟨hP1, hK1, hD1⟩ := hB
        rw [ht] at hP1
        obtain ⟨hP, hD⟩ := va_joinQ (X := [(xa, (b11_1 x0 (nI x1) x2 (nI x3) x4 x5 x6 x7 x8 x9 x10))]) (cx := [(xa, (b11_1 x0 (nI x1) x2 (nI x3) x4 x5 x6 x7 x8 x9 x10))]) (wr := []) (w1 := [(xa, (b11_1 x0 (nI x1) x2 (nI x3) x4 x5 x6 x7 x8 2 (-1)))]) (pl := va_pl L M) hP hD [0] [] rfl rfl (by decide) (by decide) hk1 hFc hP1 hD1
        have hP : va_P D vwCl ([(xa, (b11_1 x0 (nI x1) x2 (nI x3) x4 x5 x6 x7 x8 2 (-1)))] ++ va_pl L M) H_27 := hP
        have hD : va_D A ([(xa, (b11_1 x0 (nI x1) x2 (nI x3) x4 x5 x6 x7 x8 2 (-1)))] ++ va_pl L M) := hD
        have hq := Eq.symm hp_30
        subst hq
        refine W.widen (k := 2) (n := 9) (Nat.le_of_ble_eq_true rfl) (Nat.le_of_ble_eq_true rfl) ?_
        have hI_31 : (0 : Int) ≤ (k3 : Int32).toInt := inltI rfl rfl c_20
        have hI_32 : (3 : Int) ≤ (k3 : Int32).toInt := ileI rfl rfl c_26
        have hno : ¬ okLf x1 SX k1 k2 k3 k4 := fun q9 => by unfold okLf okH at q9; first | omega | (obtain ⟨⟨_, _⟩, _, _, _, _, _, _⟩ := q9; first | omega | contradiction)
        rw [hQ]
        exact W.iret (v := (-1)) hx hb hr (fun t ht hW9 => ⟨⟨(-1), (K, L, M), rfl, ⟨hX0, hW, hF, hT10, (by unfold anLf; rw [if_neg hno])⟩, ⟨2, (⟨_, by unfold sxLf syLf; rw [if_neg hno, if_neg hno]; exact hC.mono⟩), by rw [ht]; exact hP, hD⟩⟩, hS.F ht⟩) hS.2.2 dX11_leaf_44
      · have hz := rfl (a := 0)
        refine lv_iload hx hb dX11_leaf_27 (lv_at hl 5 rfl) ?_
        refine lv_if_lt (tgt := 39) hx hb dX11_leaf_29 (by decide) (fun c_33 => ?_) (fun c_33 => ?_)
        · have hz := rfl (a := 0)
          refine lv_aload_n hx hb dX11_leaf_39 rfl (lv_at hl 1 rfl) ?_
          refine lv_iconst (v := 2) hx hb dX11_leaf_40 (by decide) ?_
          have hPc := hP.sub (ws' := [(xa, (b11_1 x0 (nI x1) x2 (nI x3) x4 x5 x6 x7 x8 x9 x10))]) [0] rfl
          have hDc := hD.sub (ws' := [(xa, (b11_1 x0 (nI x1) x2 (nI x3) x4 x5 x6 x7 x8 x9 x10))]) [0] (by decide) rfl
          have hKc := hK.sub (tys' := []) [] rfl
          have hFc := va_free (wc := [(xa, (b11_1 x0 (nI x1) x2 (nI x3) x4 x5 x6 x7 x8 x9 x10))]) hD hS hA [0] rfl
          refine va_calli (va_runV (As := [.int 2]) (rest := []) ⟨hx, hb, hml, hown, hg⟩ (k_refuse l D H_1.size xa x0 (nI x1) x2 (nI x3) x4 x5 x6 x7 x8 x9 x10 2) (cwV 1 hg (gV wd_344 wd_345 wd_346 wd_3 wd_347) rfl rfl rfl (by decide +kernel) ⟨(Nat.le_trans (Nat.le_of_ble_eq_true rfl) hRf), (Nat.le_trans (Nat.le_of_ble_eq_true rfl) hRl)⟩) ⟨Pr.blind, va_recv hK hP (ci := 11) (q0 := 0) rfl rfl, fun U hU hW => ⟨rfl, Pr.at hPc hKc hDc hN hU hW⟩⟩ rfl rfl hl.1 rfl (lv_room (Nat.le_of_ble_eq_true rfl)) dX11_leaf_41 ⟨(Nat.le_trans (Nat.le_of_ble_eq_true rfl) hRc), (Nat.le_trans (Nat.le_of_ble_eq_true rfl) hRs)⟩) hS (fun q _ h => hFc q h) hFc (fun r_35 M_36 t H_34 locs ht hvm hw hB hz1 hk1 hS => ?_)
          have hp_37 := hw
          obtain ⟨hP1, hK1, hD1⟩ := hB
          rw [ht] at hP1
          obtain ⟨hP, hD⟩ := va_joinQ (X := [(xa, (b11_1 x0 (nI x1) x2 (nI x3) x4 x5 x6 x7 x8 x9 x10))]) (cx := [(xa, (b11_1 x0 (nI x1) x2 (nI x3) x4 x5 x6 x7 x8 x9 x10))]) (wr := []) (w1 := [(xa, (b11_1 x0 (nI x1) x2 (nI x3) x4 x5 x6 x7 x8 2 (-1)))]) (pl := va_pl L M) hP hD [0] [] rfl rfl (by decide) (by decide) hk1 hFc hP1 hD1
          have hP : va_P D vwCl ([(xa, (b11_1 x0 (nI x1) x2 (nI x3) x4 x5 x6 x7 x8 2 (-1)))] ++ va_pl L M) H_34 := hP
          have hD : va_D A ([(xa, (b11_1 x0 (nI x1) x2 (nI x3) x4 x5 x6 x7 x8 2 (-1)))] ++ va_pl L M) := hD
          have hq := Eq.symm hp_37
          subst hq
          refine W.widen (k := 2) (n := 9) (Nat.le_of_ble_eq_true rfl) (Nat.le_of_ble_eq_true rfl) ?_
          have hI_38 : (0 : Int) ≤ (k3 : Int32).toInt := inltI rfl rfl c_20
          have hI_39 : (k3 : Int32).toInt < (3 : Int) := inleI rfl rfl c_26
          have hI_40 : (k4 : Int32).toInt < (0 : Int) := iltI rfl rfl c_33
          have hno : ¬ okLf x1 SX k1 k2 k3 k4 := fun q9 => by unfold okLf okH at q9; first | omega | (obtain ⟨⟨_, _⟩, _, _, _, _, _, _⟩ := q9; first | omega | contradiction)
          rw [hQ]
          exact W.iret (v := (-1)) hx hb hr (fun t ht hW9 => ⟨⟨(-1), (K, L, M), rfl, ⟨hX0, hW, hF, hT10, (by unfold anLf; rw [if_neg hno])⟩, ⟨2, (⟨_, by unfold sxLf syLf; rw [if_neg hno, if_neg hno]; exact hC.mono⟩), by rw [ht]; exact hP, hD⟩⟩, hS.F ht⟩) hS.2.2 dX11_leaf_44
        · have hz := rfl (a := 0)
          refine lv_iload hx hb dX11_leaf_32 (lv_at hl 5 rfl) ?_
          refine lv_bipush (v := 6) hx hb dX11_leaf_34 (by decide) ?_
          refine lv_icmp_le (tgt := 45) hx hb dX11_leaf_36 (by decide) (fun c_41 => ?_) (fun c_41 => ?_)
          · have hz := rfl (a := 0)
            refine lv_aload hx hb dX11_leaf_45 (lv_at hl 0 rfl) ?_
            refine lv_iload_n hx hb dX11_leaf_47 rfl (lv_at hl 3 rfl) ?_
            have hPc : va_P D vwCl ([] ++ va_pl L M) H_1 := hP.part (cx := []) [] rfl
            have hDc : va_D A ([] ++ va_pl L M) := hD.part (cx := []) [] (by decide) rfl
            have hFc : ∀ q, va_A ([] ++ va_pl L M) H_1.size q → A q := pg_free hDc hS hA
            refine va_calli (va_runV (As := [.int k2]) (rest := []) ⟨hx, hb, hml, hown, hg⟩ (e_X2_isFree l D cy K L M H_1.size b_5 k2  hW hb_10) (cwV 1 hg (gV wd_361 wd_362 wd_363 wd_57 wd_364) rfl rfl rfl (by decide +kernel) ⟨(Nat.le_trans (Nat.le_of_ble_eq_true rfl) hRf), (Nat.le_trans (Nat.le_of_ble_eq_true rfl) hRl)⟩) ⟨PG.blind, pg_recv hK hP hb_10.1 hM11 rfl, fun U hU hW => ⟨rfl, PG.at hPc hK hDc hN hU hW⟩⟩ rfl rfl hl.1 rfl (lv_room (Nat.le_of_ble_eq_true rfl)) dX11_leaf_48 ⟨(Nat.le_trans (Nat.le_of_ble_eq_true rfl) hRc), (Nat.le_trans (Nat.le_of_ble_eq_true rfl) hRs)⟩) hS (fun q _ h => hFc q h) hFc (fun r_43 M_44 t H_42 locs ht hvm hw hB hz1 hk1 hS => ?_)
            have hp_45 := hw
            obtain ⟨hP1, hD1⟩ := hB
            rw [ht] at hP1
            obtain ⟨hP, hD⟩ := va_joinP (X := [(xa, (b11_1 x0 (nI x1) x2 (nI x3) x4 x5 x6 x7 x8 x9 x10))]) (cx := []) (wr := [(xa, (b11_1 x0 (nI x1) x2 (nI x3) x4 x5 x6 x7 x8 x9 x10))]) (rx := []) (pl := va_pl L M) (pl1 := va_pl L M) hP hD [] [0] rfl rfl (by decide) (by decide) hk1 hFc hP1 hD1
            have hP : va_P D vwCl ([(xa, (b11_1 x0 (nI x1) x2 (nI x3) x4 x5 x6 x7 x8 x9 x10))] ++ va_pl L M) H_42 := hP
            have hD : va_D A ([(xa, (b11_1 x0 (nI x1) x2 (nI x3) x4 x5 x6 x7 x8 x9 x10))] ++ va_pl L M) := hD
            rcases hp_45 with ⟨rfl, c_46, c_47, c_48⟩ | ⟨rfl, c_49⟩
            · have hz := rfl (a := 0)
              refine lv_if_ne (tgt := 60) hx hb dX11_leaf_51 (by decide) (fun _ => ?_) (fun c_50 => absurd c_50 (by decide))
              refine lv_aload hx hb dX11_leaf_60 (lv_at hl 0 rfl) ?_
              refine pg_get (D := D) (ci := 2) (v := .ref v11_12) (C := RX2) (T := TX2) (N := 20) hx hb hg inG2 hown hK hP hb_10.1 hM11 rfl 12 (by decide) (hg _ wd_377) (fun _ h9 => h9) rfl dX11_leaf_62 ?_
              refine lv_iload_n hx hb dX11_leaf_65 rfl (lv_at hl 3 rfl) ?_
              rcases lit7 c_33 c_41 with rfl | rfl | rfl | rfl | rfl | rfl | rfl
              · have hz := rfl (a := 0)
                refine va_new (ci := 3) (fs := [.int 0, .null, .int 0]) (C := RX3) (T := TX3) (N := 3) hx hb hg inG3 tyX3 tyX3_ok hown (hg _ wd_592) (hg _ wd_593) (hg _ wd_39) hK hP hD hS hA rfl dfX3 (Nat.le_trans (Nat.le_of_ble_eq_true rfl) hRc) (Nat.le_trans (Nat.le_of_ble_eq_true rfl) hRs) dX11_leaf_66 (fun q_51 H_52 hP hD hS => ?_)
                have hP : va_P D vwCl ([(xa, (b11_1 x0 (nI x1) x2 (nI x3) x4 x5 x6 x7 x8 x9 x10)), (q_51, (b3_5 0 0))] ++ va_pl L M) H_52 := hP.swap
                have hD : va_D A ([(xa, (b11_1 x0 (nI x1) x2 (nI x3) x4 x5 x6 x7 x8 x9 x10)), (q_51, (b3_5 0 0))] ++ va_pl L M) := hD.swap
                refine W.widen (k := 1) (n := 3) (Nat.le_of_ble_eq_true rfl) (Nat.le_of_ble_eq_true rfl) ?_
                refine lv_dup hx hb dX11_leaf_69 rfl ?_
                refine lv_iload_n hx hb dX11_leaf_70 rfl (lv_at hl 4 rfl) ?_
                refine lv_iload hx hb dX11_leaf_71 (lv_at hl 5 rfl) ?_
                have hPc := hP.sub (ws' := [(q_51, (b3_5 0 0))]) [1] rfl
                have hDc := hD.sub (ws' := [(q_51, (b3_5 0 0))]) [1] (by decide) rfl
                have hKc := hK.sub (tys' := []) [] rfl
                have hFc := va_free (wc := [(q_51, (b3_5 0 0))]) hD hS hA [1] rfl
                refine va_callv (va_runI (As := [.int k3, .int 0]) (rest := [.ref q_51, .int k2, .ref v11_12]) ⟨hx, hb, hml, hown, hg⟩ (k_Leaf_0 l D H_52.size q_51 k3) (cwI 2 hg (gB wd_594) rfl rfl rfl (hg _ wd_39) (hg _ wd_595) (hg _ wd_596) rfl (by decide +kernel) ⟨(Nat.le_trans (Nat.le_of_ble_eq_true rfl) hRf), (Nat.le_trans (Nat.le_of_ble_eq_true rfl) hRl)⟩) ⟨Pr.blind, fun U hU hW => ⟨rfl, Pr.at hPc hKc hDc hN hU hW⟩⟩ rfl rfl hl.1 rfl (lv_room (Nat.le_of_ble_eq_true rfl)) dX11_leaf_73 ⟨(Nat.le_trans (Nat.le_of_ble_eq_true rfl) hRc), (Nat.le_trans (Nat.le_of_ble_eq_true rfl) hRs)⟩) hS (fun q _ h => hFc q h) hFc (fun M_55 t H_53 locs ht hvm hw hB hz1 hk1 hS => ?_)
                have hp_56 := hw
                obtain ⟨e0_57, c0_58, hP1, hK1, hD1⟩ := hB
                rw [ht] at hP1
                have hK1 := va_K.moved hvm.symm hK1
                obtain ⟨hP, hD⟩ := va_joinQ (X := [(xa, (b11_1 x0 (nI x1) x2 (nI x3) x4 x5 x6 x7 x8 x9 x10)), (q_51, (b3_5 0 0))]) (cx := [(q_51, (b3_5 0 0))]) (wr := [(xa, (b11_1 x0 (nI x1) x2 (nI x3) x4 x5 x6 x7 x8 x9 x10))]) (w1 := [(q_51, (b3_3 k3 e0_57 0)), (e0_57, .inl (c0_58, 0, .inl (fun _ => 0)))]) (pl := va_pl L M) hP hD [1] [0] rfl rfl (by decide) (by decide) hk1 hFc hP1 hD1
                have hP : va_P D vwCl ([(xa, (b11_1 x0 (nI x1) x2 (nI x3) x4 x5 x6 x7 x8 x9 x10)), (q_51, (b3_3 k3 e0_57 0)), (e0_57, .inl (c0_58, 0, .inl (fun _ => 0)))] ++ va_pl L M) H_53 := hP
                have hD : va_D A ([(xa, (b11_1 x0 (nI x1) x2 (nI x3) x4 x5 x6 x7 x8 x9 x10)), (q_51, (b3_3 k3 e0_57 0)), (e0_57, .inl (c0_58, 0, .inl (fun _ => 0)))] ++ va_pl L M) := hD
                have hK2 := hK.app hK1
                obtain rfl : c0_58 = cy 14 := cls_eq hK2 10 0 rfl rfl
                refine W.widen (k := 2) (n := 3) (Nat.le_of_ble_eq_true rfl) (Nat.le_of_ble_eq_true rfl) ?_
                have hP : va_P D vwCl (([(xa, (b11_1 x0 (nI x1) x2 (nI x3) x4 x5 x6 x7 x8 x9 x10)), (q_51, (b3_3 k3 e0_57 0))] ++ [(zrI cy 14 e0_57 0)]) ++ va_pl L M) H_53 := hP.part (cx := [(xa, (b11_1 x0 (nI x1) x2 (nI x3) x4 x5 x6 x7 x8 x9 x10)), (q_51, (b3_3 k3 e0_57 0))] ++ [(zrI cy 14 e0_57 0)]) [0, 1, 2] rfl
                have hD : va_D A (([(xa, (b11_1 x0 (nI x1) x2 (nI x3) x4 x5 x6 x7 x8 x9 x10)), (q_51, (b3_3 k3 e0_57 0))] ++ [(zrI cy 14 e0_57 0)]) ++ va_pl L M) := hD.part (cx := [(xa, (b11_1 x0 (nI x1) x2 (nI x3) x4 x5 x6 x7 x8 x9 x10)), (q_51, (b3_3 k3 e0_57 0))] ++ [(zrI cy 14 e0_57 0)]) [0, 1, 2] (by decide) rfl
                have hWa := hW
                obtain ⟨K9, L9, M_59, hx9, i_60, hW, hP, hD, hM_61, hfr9, hq9, hm9⟩ := adoptE2 53 0 hP hD hW (fun K' L' x i => (⟨_, rfl⟩ : gd_53 cy K' L' 0 _))
                have hn9 : ∀ b, isk K9 L9 b 2 0 → isk K L b 2 0 := fun b hb => (hm9 b hb.1).elim (fun z => absurd (hb.un (show isk K9 L9 b 53 0 by rw [z]; exact i_60)) (by decide)) (fun z => ⟨z, ((hx9 b z).2).symm.trans hb.2⟩)
                have ho9 : ∀ b, isk K9 L9 b 4 0 → isk K L b 4 0 := fun b hb => (hm9 b hb.1).elim (fun z => absurd (hb.un (show isk K9 L9 b 53 0 by rw [z]; exact i_60)) (by decide)) (fun z => ⟨z, ((hx9 b z).2).symm.trans hb.2⟩)
                have hV : VC (va_up Bo e0_57 (b_5, (k2 : Int32).toNatClampNeg)) K9 L9 M0 M_59 b_5 (cfx M b_5) (cax M b_5) := hV.ad (b_5, (k2 : Int32).toNatClampNeg) hWa hb_10 hx9 hfr9 hq9 hn9
                have hp4 : ∀ q, isk K9 L9 q 4 0 → isk K0 L0 q 4 0 := fun q iq => hp4 q (ho9 q iq)
                have hq0e0_57 : e0_57 ∉ L0 := fun z => hq9 (hX0 _ z).1
                have hM_63 : M_59 b_5 = (b2_2 v11_0 v11_1 v11_2 v11_3 (nI v11_4) (nI v11_5) v11_6 v11_7 v11_8 (nI v11_9) v11_10 (nI v11_11) v11_12 v11_13 v11_14 v11_15 v11_16 v11_17 v11_18 v11_19) := (hfr9 _ hb_10.1).trans hM11
                have hF : fr K0 L0 [10, 18] M0 M_59 := hF.adX hX0 hfr9
                have hT10 : fT 10 K0 L0 [1, 2] M0 M_59 := hT10.adX hX0 hfr9
                have hX0 := hX0.tr hx9
                have i_64 := i0.ext hx9
                have i_65 := i2.ext hx9
                have i_66 := i4.ext hx9
                have i_67 := i5.ext hx9
                have i_68 := i6.ext hx9
                have i_69 := i8.ext hx9
                have i_70 := hb_10.ext hx9
                have i_71 := h11_3.ext hx9
                have i_72 := h11_6.ext hx9
                have i_73 := h11_7.ext hx9
                have i_74 := h11_8.ext hx9
                have i_75 := h11_10.ext hx9
                have i_76 := h11_12.ext hx9
                have i_77 := h11_13.ext hx9
                have i_78 := h11_16.ext hx9
                have i_79 := h11_17.ext hx9
                have i_80 := h11_18.ext hx9
                have i_81 := h11_19.ext hx9
                obtain ⟨K, L, hK9, hL9⟩ : ∃ (K : Kp) (L : List Nat), K = K9 ∧ L = L9 := ⟨_, _, rfl, rfl⟩
                subst hK9
                subst hL9
                have hP : va_P D vwCl ([(xa, (b11_1 x0 (nI x1) x2 (nI x3) x4 x5 x6 x7 x8 x9 x10)), (q_51, (b3_3 k3 e0_57 0))] ++ va_pl L M_59) H_53 := hP
                have hD : va_D A ([(xa, (b11_1 x0 (nI x1) x2 (nI x3) x4 x5 x6 x7 x8 x9 x10)), (q_51, (b3_3 k3 e0_57 0))] ++ va_pl L M_59) := hD
                have hP : va_P D vwCl (([(xa, (b11_1 x0 (nI x1) x2 (nI x3) x4 x5 x6 x7 x8 x9 x10))] ++ [(q_51, (b3_3 k3 e0_57 0))]) ++ va_pl L M_59) H_53 := hP.part (cx := [(xa, (b11_1 x0 (nI x1) x2 (nI x3) x4 x5 x6 x7 x8 x9 x10))] ++ [(q_51, (b3_3 k3 e0_57 0))]) [0, 1] rfl
                have hD : va_D A (([(xa, (b11_1 x0 (nI x1) x2 (nI x3) x4 x5 x6 x7 x8 x9 x10))] ++ [(q_51, (b3_3 k3 e0_57 0))]) ++ va_pl L M_59) := hD.part (cx := [(xa, (b11_1 x0 (nI x1) x2 (nI x3) x4 x5 x6 x7 x8 x9 x10))] ++ [(q_51, (b3_3 k3 e0_57 0))]) [0, 1] (by decide) rfl
                have hWa := hW
                obtain ⟨K9, L9, M_82, hx9, i_83, hW, hP, hD, hM_84, hfr9, hq9, hm9⟩ := adoptE2 3 0 hP hD hW (fun K' L' x i => (⟨0, k3, e0_57, 0, rfl, i_60.ext x, (by omega), (by decide)⟩ : gd_3 K' L' _))
                have hn9 : ∀ b, isk K9 L9 b 2 0 → isk K L b 2 0 := fun b hb => (hm9 b hb.1).elim (fun z => absurd (hb.un (show isk K9 L9 b 3 0 by rw [z]; exact i_83)) (by decide)) (fun z => ⟨z, ((hx9 b z).2).symm.trans hb.2⟩)
                have ho9 : ∀ b, isk K9 L9 b 4 0 → isk K L b 4 0 := fun b hb => (hm9 b hb.1).elim (fun z => absurd (hb.un (show isk K9 L9 b 3 0 by rw [z]; exact i_83)) (by decide)) (fun z => ⟨z, ((hx9 b z).2).symm.trans hb.2⟩)
                have hV : VC (va_up (va_up Bo e0_57 (b_5, (k2 : Int32).toNatClampNeg)) q_51 (b_5, (k2 : Int32).toNatClampNeg)) K9 L9 M0 M_82 b_5 (cfx M b_5) (cax M b_5) := hV.ad (b_5, (k2 : Int32).toNatClampNeg) hWa i_70 hx9 hfr9 hq9 hn9
                have hp4 : ∀ q, isk K9 L9 q 4 0 → isk K0 L0 q 4 0 := fun q iq => hp4 q (ho9 q iq)
                have hq0q_51 : q_51 ∉ L0 := fun z => hq9 (hX0 _ z).1
                have hM_85 : M_82 b_5 = (b2_2 v11_0 v11_1 v11_2 v11_3 (nI v11_4) (nI v11_5) v11_6 v11_7 v11_8 (nI v11_9) v11_10 (nI v11_11) v11_12 v11_13 v11_14 v11_15 v11_16 v11_17 v11_18 v11_19) := (hfr9 _ i_70.1).trans hM_63
                have hM_86 : M_82 e0_57 = .inl (cy 14, 0, .inl (fun _ => 0)) := (hfr9 _ i_60.1).trans hM_61
                have hF : fr K0 L0 [10, 18] M0 M_82 := hF.adX hX0 hfr9
                have hT10 : fT 10 K0 L0 [1, 2] M0 M_82 := hT10.adX hX0 hfr9
                have hX0 := hX0.tr hx9
                have i_87 := i_64.ext hx9
                have i_88 := i_65.ext hx9
                have i_89 := i_66.ext hx9
                have i_90 := i_67.ext hx9
                have i_91 := i_68.ext hx9
                have i_92 := i_69.ext hx9
                have i_93 := i_70.ext hx9
                have i_94 := i_71.ext hx9
                have i_95 := i_72.ext hx9
                have i_96 := i_73.ext hx9
                have i_97 := i_74.ext hx9
                have i_98 := i_75.ext hx9
                have i_99 := i_76.ext hx9
                have i_100 := i_77.ext hx9
                have i_101 := i_78.ext hx9
                have i_102 := i_79.ext hx9
                have i_103 := i_80.ext hx9
                have i_104 := i_81.ext hx9
                have i_105 := i_60.ext hx9
                obtain ⟨K, L, hK9, hL9⟩ : ∃ (K : Kp) (L : List Nat), K = K9 ∧ L = L9 := ⟨_, _, rfl, rfl⟩
                subst hK9
                subst hL9
                have hP : va_P D vwCl ([(xa, (b11_1 x0 (nI x1) x2 (nI x3) x4 x5 x6 x7 x8 x9 x10))] ++ va_pl L M_82) H_53 := hP
                have hD : va_D A ([(xa, (b11_1 x0 (nI x1) x2 (nI x3) x4 x5 x6 x7 x8 x9 x10))] ++ va_pl L M_82) := hD
                obtain ⟨f106, hM106, hf106⟩ := hW.open_18 i_99
                refine pg_astq (r := (RX3, TX3, 3)) hx hb hK hP hD hS i_99.1 4 3 hM106 rfl i_83.1 hM_84 rfl (inbE k2 999 1000 (by decide) (by decide) c_47 (Int32.not_lt.mp c_48)) dX11_leaf_76 (fun H_107 locs hP hD hS => ?_)
                obtain ⟨M_108, eM_108⟩ : ∃ M1 : Hp, M1 = va_up M_82 v11_12 (.inl (cy 18, 1000, .inr (.inr (.inr (.inr (va_up f106 (k2 : Int32).toNatClampNeg (some q_51))))))) := ⟨_, rfl⟩
                have sM_108 : M_108 = sR M_82 v11_12 (k2 : Int32).toNatClampNeg (some q_51) := eM_108.trans (sR_of hM106)
                have hV : VC (va_up (va_up Bo e0_57 (b_5, (k2 : Int32).toNatClampNeg)) q_51 (b_5, (k2 : Int32).toNatClampNeg)) K L M0 M_108 b_5 (cfx M b_5) (va_up (va_up (va_up (va_up (cax M b_5) 2 (upd ((cax M b_5) 2) (k2 : Int32).toNatClampNeg (plN M_82 (some q_51)))) 3 (upd ((cax M b_5) 3) (k2 : Int32).toNatClampNeg (lfN 2 M_82 (some q_51)))) 4 (upd ((cax M b_5) 4) (k2 : Int32).toNatClampNeg (lfN 0 M_82 (some q_51)))) 60 (fun z => if z % 1000 = (k2 : Int32).toNatClampNeg then etN M_82 (some q_51) (z / 1000) else ((cax M b_5) 60) z)) := by rw [sM_108]; exact VC.r_lv hV hW i_93 (vp_lt (inbE k2 999 1000 (by decide) (by decide) c_47 (Int32.not_lt.mp c_48))) (rA_of (j := 12) hM_85 rfl) hM106 (fun q9 z9 => by cases z9; exact ⟨va_up_self _ _ _, by rw [rA_of (j := 1) hM_84 rfl, va_up_ne _ _ (i_105.neT i_83 (by decide))]; exact va_up_self _ _ _⟩)
                have hP : va_P D vwCl ([(xa, (b11_1 x0 (nI x1) x2 (nI x3) x4 x5 x6 x7 x8 x9 x10))] ++ va_pl L M_108) H_107 := by rw [eM_108]; exact hP
                have hD : va_D A ([(xa, (b11_1 x0 (nI x1) x2 (nI x3) x4 x5 x6 x7 x8 x9 x10))] ++ va_pl L M_108) := by rw [eM_108]; exact hD
                have hW : WOK cy K L M_108 := by rw [eM_108]; exact hW.up_18 i_99 ⟨_, rfl, (upN hf106 i_83)⟩
                have hF : fr K0 L0 [10, 18] M0 M_108 := by rw [eM_108]; exact hF.upX hX0 i_99 (by decide)
                have hT10 : fT 10 K0 L0 [1, 2] M0 M_108 := by rw [eM_108]; exact hT10.neX hX0 i_99 (by decide)
                have hM_109 : M_108 v11_12 = .inl (cy 18, 1000, .inr (.inr (.inr (.inr (va_up f106 (k2 : Int32).toNatClampNeg (some q_51)))))) := by rw [eM_108]; exact va_up_self _ _ _
                have hM_110 : M_108 b_5 = (b2_2 v11_0 v11_1 v11_2 v11_3 (nI v11_4) (nI v11_5) v11_6 v11_7 v11_8 (nI v11_9) v11_10 (nI v11_11) v11_12 v11_13 v11_14 v11_15 v11_16 v11_17 v11_18 v11_19) := by rw [eM_108, va_up_ne _ _ (i_93.neT i_99 (by decide))]; exact hM_85
                have hM_111 : M_108 e0_57 = .inl (cy 14, 0, .inl (fun _ => 0)) := by rw [eM_108, va_up_ne _ _ (i_105.neT i_99 (by decide))]; exact hM_86
                have hM_112 : M_108 q_51 = (b3_3 k3 e0_57 (nI 0)) := by rw [eM_108, va_up_ne _ _ (i_83.neT i_99 (by decide))]; exact hM_84
                have hf_114 : ∀ j, j < 1000 → iskN K L ((va_up f106 (k2 : Int32).toNatClampNeg (some q_51)) j) 3 0 := (upN hf106 i_83)
                obtain ⟨f_113, ef_113⟩ : ∃ f : Nat → Option Nat, f = va_up f106 (k2 : Int32).toNatClampNeg (some q_51) := ⟨_, rfl⟩
                rw [← ef_113] at hM_109 hf_114
                have hk_115 : f_113 (k2 : Int32).toNatClampNeg = some q_51 := by rw [ef_113]; exact va_up_self _ _ _
                clear ef_113
                refine lv_aload hx hb dX11_leaf_77 (lv_at hl 0 rfl) ?_
                refine pg_get (D := D) (ci := 2) (v := .ref v11_18) (C := RX2) (T := TX2) (N := 20) hx hb hg inG2 hown hK hP i_93.1 hM_110 rfl 18 (by decide) (hg _ wd_378) (fun _ h9 => h9) rfl dX11_leaf_79 ?_
                obtain ⟨v116_0, v116_1, v116_2, hM116, h116_0⟩ := hW.open_10 i_103
                have hPc : va_P D vwCl ([] ++ va_pl L M_108) H_107 := hP.part (cx := []) [] rfl
                have hDc : va_D A ([] ++ va_pl L M_108) := hD.part (cx := []) [] (by decide) rfl
                have hFc : ∀ q, va_A ([] ++ va_pl L M_108) H_107.size q → A q := pg_free hDc hS hA
                have hI_117 : (0 : Int) ≤ (k3 : Int32).toInt := inltI rfl rfl c_20
                have hI_118 : (k3 : Int32).toInt < (3 : Int) := inleI rfl rfl c_26
                have hI_119 : (0 : Int) ≤ (k2 : Int32).toInt := inltI rfl rfl c_47
                have hI_120 : (k2 : Int32).toInt ≤ (999 : Int) := inltI rfl rfl c_48
                refine va_callv (va_runV (As := []) (rest := []) ⟨hx, hb, hml, hown, hg⟩ (e_clear l D cy K L M_108 H_107.size v11_18 (va_up (va_up Bo e0_57 (b_5, (k2 : Int32).toNatClampNeg)) q_51 (b_5, (k2 : Int32).toNatClampNeg)) M0 b_5 (cfx M b_5) (va_up (va_up (va_up (va_up (cax M b_5) 2 (upd ((cax M b_5) 2) (k2 : Int32).toNatClampNeg (plN M_82 (some q_51)))) 3 (upd ((cax M b_5) 3) (k2 : Int32).toNatClampNeg (lfN 2 M_82 (some q_51)))) 4 (upd ((cax M b_5) 4) (k2 : Int32).toNatClampNeg (lfN 0 M_82 (some q_51)))) 60 (fun z => if z % 1000 = (k2 : Int32).toNatClampNeg then etN M_82 (some q_51) (z / 1000) else ((cax M b_5) 60) z))  hW i_103 i_93 hV (rA_of (j := 18) hM_110 rfl)) (cwV 0 hg (gV wd_379 wd_380 wd_381 wd_114 wd_382) rfl rfl rfl (by decide +kernel) ⟨(Nat.le_trans (Nat.le_of_ble_eq_true rfl) hRf), (Nat.le_trans (Nat.le_of_ble_eq_true rfl) hRl)⟩) ⟨PG.blind, pg_recv hK hP i_103.1 hM116 rfl, fun U hU hW => ⟨rfl, PG.at hPc hK hDc hN hU hW⟩⟩ rfl rfl hl.1 rfl (lv_room (Nat.le_of_ble_eq_true rfl)) dX11_leaf_82 ⟨(Nat.le_trans (Nat.le_of_ble_eq_true rfl) hRc), (Nat.le_trans (Nat.le_of_ble_eq_true rfl) hRs)⟩) hS (fun q _ h => hFc q h) hFc (fun M_123 t H_121 locs ht hvm hw hB hz1 hk1 hS => ?_)
                have hWb := hW
                obtain ⟨hW, hF2, gT10, hVP, hp_124⟩ := hw
                obtain ⟨hP1, hD1⟩ := hB
                rw [ht] at hP1
                obtain ⟨hP, hD⟩ := va_joinP (X := [(xa, (b11_1 x0 (nI x1) x2 (nI x3) x4 x5 x6 x7 x8 x9 x10))]) (cx := []) (wr := [(xa, (b11_1 x0 (nI x1) x2 (nI x3) x4 x5 x6 x7 x8 x9 x10))]) (rx := []) (pl := va_pl L M_108) (pl1 := va_pl L M_123) hP hD [] [0] rfl rfl (by decide) (by decide) hk1 hFc hP1 hD1
                have hP : va_P D vwCl ([(xa, (b11_1 x0 (nI x1) x2 (nI x3) x4 x5 x6 x7 x8 x9 x10))] ++ va_pl L M_123) H_121 := hP
                have hD : va_D A ([(xa, (b11_1 x0 (nI x1) x2 (nI x3) x4 x5 x6 x7 x8 x9 x10))] ++ va_pl L M_123) := hD
                have hM_125 : M_123 v11_12 = .inl (cy 18, 1000, .inr (.inr (.inr (.inr (f_113))))) := (hF2.at i_99 (by decide)).trans hM_109
                have hM_126 : M_123 b_5 = (b2_2 v11_0 v11_1 v11_2 v11_3 (nI v11_4) (nI v11_5) v11_6 v11_7 v11_8 (nI v11_9) v11_10 (nI v11_11) v11_12 v11_13 v11_14 v11_15 v11_16 v11_17 v11_18 v11_19) := (hF2.at i_93 (by decide)).trans hM_110
                have hM_127 : M_123 e0_57 = .inl (cy 14, 0, .inl (fun _ => 0)) := (hF2.at i_105 (by decide)).trans hM_111
                have hM_128 : M_123 q_51 = (b3_3 k3 e0_57 (nI 0)) := (hF2.at i_83 (by decide)).trans hM_112
                have hF : fr K0 L0 [10, 18] M0 M_123 := hF.trX hX0 hF2 (by decide)
                have hT10 : fT 10 K0 L0 [1, 2] M0 M_123 := hT10.trX hX0 gT10 (by decide)
                have hV : VC (va_up (va_up Bo e0_57 (b_5, (k2 : Int32).toNatClampNeg)) q_51 (b_5, (k2 : Int32).toNatClampNeg)) K L M0 M_123 b_5 (va_up (va_up (cfx M b_5) 19 (0 : Int)) 16 (0 : Int)) (va_up (va_up (va_up (va_up (cax M b_5) 2 (upd ((cax M b_5) 2) (k2 : Int32).toNatClampNeg (plN M_82 (some q_51)))) 3 (upd ((cax M b_5) 3) (k2 : Int32).toNatClampNeg (lfN 2 M_82 (some q_51)))) 4 (upd ((cax M b_5) 4) (k2 : Int32).toNatClampNeg (lfN 0 M_82 (some q_51)))) 60 (fun z => if z % 1000 = (k2 : Int32).toNatClampNeg then etN M_82 (some q_51) (z / 1000) else ((cax M b_5) 60) z)) := hVP
                refine lv_aload_n hx hb dX11_leaf_85 rfl (lv_at hl 1 rfl) ?_
                refine lv_iload hx hb dX11_leaf_86 (lv_at hl 5 rfl) ?_
                have hPc := hP.sub (ws' := [(xa, (b11_1 x0 (nI x1) x2 (nI x3) x4 x5 x6 x7 x8 x9 x10))]) [0] rfl
                have hDc := hD.sub (ws' := [(xa, (b11_1 x0 (nI x1) x2 (nI x3) x4 x5 x6 x7 x8 x9 x10))]) [0] (by decide) rfl
                have hKc := hK.sub (tys' := []) [] rfl
                have hFc := va_free (wc := [(xa, (b11_1 x0 (nI x1) x2 (nI x3) x4 x5 x6 x7 x8 x9 x10))]) hD hS hA [0] rfl
                refine va_calli (va_runV (As := [.int 0]) (rest := []) ⟨hx, hb, hml, hown, hg⟩ (k_accept l D H_121.size xa x0 (nI x1) x2 (nI x3) x4 x5 x6 x7 x8 x9 x10 0) (cwV 1 hg (gV wd_356 wd_357 wd_358 wd_3 wd_359) rfl rfl rfl (by decide +kernel) ⟨(Nat.le_trans (Nat.le_of_ble_eq_true rfl) hRf), (Nat.le_trans (Nat.le_of_ble_eq_true rfl) hRl)⟩) ⟨Pr.blind, va_recv hK hP (ci := 11) (q0 := 0) rfl rfl, fun U hU hW => ⟨rfl, Pr.at hPc hKc hDc hN hU hW⟩⟩ rfl rfl hl.1 rfl (lv_room (Nat.le_of_ble_eq_true rfl)) dX11_leaf_88 ⟨(Nat.le_trans (Nat.le_of_ble_eq_true rfl) hRc), (Nat.le_trans (Nat.le_of_ble_eq_true rfl) hRs)⟩) hS (fun q _ h => hFc q h) hFc (fun r_130 M_131 t H_129 locs ht hvm hw hB hz1 hk1 hS => ?_)
                have hp_132 := hw
                obtain ⟨hP1, hK1, hD1⟩ := hB
                rw [ht] at hP1
                obtain ⟨hP, hD⟩ := va_joinQ (X := [(xa, (b11_1 x0 (nI x1) x2 (nI x3) x4 x5 x6 x7 x8 x9 x10))]) (cx := [(xa, (b11_1 x0 (nI x1) x2 (nI x3) x4 x5 x6 x7 x8 x9 x10))]) (wr := []) (w1 := [(xa, (b11_1 x0 (nI x1) x2 (nI x3) x4 x5 x6 x7 x8 0 (-1)))]) (pl := va_pl L M_123) hP hD [0] [] rfl rfl (by decide) (by decide) hk1 hFc hP1 hD1
                have hP : va_P D vwCl ([(xa, (b11_1 x0 (nI x1) x2 (nI x3) x4 x5 x6 x7 x8 0 (-1)))] ++ va_pl L M_123) H_129 := hP
                have hD : va_D A ([(xa, (b11_1 x0 (nI x1) x2 (nI x3) x4 x5 x6 x7 x8 0 (-1)))] ++ va_pl L M_123) := hD
                have hq := Eq.symm hp_132
                subst hq
                refine W.widen (k := 2) (n := 9) (Nat.le_of_ble_eq_true rfl) (Nat.le_of_ble_eq_true rfl) ?_
                have hyes : okLf x1 SX k1 k2 k3 0 := by unfold okLf okH; refine ⟨⟨?_, ?_⟩, ?_, ?_, ?_, ?_, ?_, ?_⟩ <;> first | omega | assumption | decide
                have hpl1 : plN M_82 (some q_51) = 0 := by show nI (ALc (M_82 (rA 3 M_82 q_51 1))) = _; rw [rA_of (j := 1) hM_84 rfl, hM_86]; rfl
                have hpl2 : lfN 2 M_82 (some q_51) = 0 := cV_of (j := 2) hM_84 rfl
                have hpl3 : lfN 0 M_82 (some q_51) = k3 := cV_of (j := 0) hM_84 rfl
                rw [hpl1, hpl2, hpl3] at hV
                rw [hQ]
                exact W.iret (v := 0) hx hb hr (fun t ht hW9 => ⟨⟨0, (K, L, M_123), rfl, ⟨hX0, hW, hF, hT10, (by unfold anLf; rw [if_pos hyes])⟩, ⟨0, (⟨_, by unfold sxLf syLf; rw [if_pos hyes, if_pos hyes]; have hZ := hC00.fin hW00 i000 b1 hkn hb90 hV hX0 (by rw [hF.at i000 (by decide)]) (fun q iq => ⟨hp4 q iq, cR_c (fr.cv hF (by decide) q (hp4 q iq) 3 rfl)⟩) ((((hSM.leaf (d := k2.toNatClampNeg) (p := 0) (c := 0) (s := k3) (s' := k3) (fun _ => rfl) (by decide)).clr hT.1).up1)); exact hZ⟩), by rw [ht]; exact hP, hD⟩⟩, hS.F ht⟩) hS.2.2 dX11_leaf_91
              · have hz := rfl (a := 0)
                refine va_new (ci := 3) (fs := [.int 0, .null, .int 0]) (C := RX3) (T := TX3) (N := 3) hx hb hg inG3 tyX3 tyX3_ok hown (hg _ wd_592) (hg _ wd_593) (hg _ wd_39) hK hP hD hS hA rfl dfX3 (Nat.le_trans (Nat.le_of_ble_eq_true rfl) hRc) (Nat.le_trans (Nat.le_of_ble_eq_true rfl) hRs) dX11_leaf_66 (fun q_133 H_134 hP hD hS => ?_)
                have hP : va_P D vwCl ([(xa, (b11_1 x0 (nI x1) x2 (nI x3) x4 x5 x6 x7 x8 x9 x10)), (q_133, (b3_5 0 0))] ++ va_pl L M) H_134 := hP.swap
                have hD : va_D A ([(xa, (b11_1 x0 (nI x1) x2 (nI x3) x4 x5 x6 x7 x8 x9 x10)), (q_133, (b3_5 0 0))] ++ va_pl L M) := hD.swap
                refine W.widen (k := 1) (n := 3) (Nat.le_of_ble_eq_true rfl) (Nat.le_of_ble_eq_true rfl) ?_
                refine lv_dup hx hb dX11_leaf_69 rfl ?_
                refine lv_iload_n hx hb dX11_leaf_70 rfl (lv_at hl 4 rfl) ?_
                refine lv_iload hx hb dX11_leaf_71 (lv_at hl 5 rfl) ?_
                have hPc := hP.sub (ws' := [(q_133, (b3_5 0 0))]) [1] rfl
                have hDc := hD.sub (ws' := [(q_133, (b3_5 0 0))]) [1] (by decide) rfl
                have hKc := hK.sub (tys' := []) [] rfl
                have hFc := va_free (wc := [(q_133, (b3_5 0 0))]) hD hS hA [1] rfl
                refine va_callv (va_runI (As := [.int k3, .int 1]) (rest := [.ref q_133, .int k2, .ref v11_12]) ⟨hx, hb, hml, hown, hg⟩ (k_Leaf_1 l D H_134.size q_133 k3) (cwI 2 hg (gB wd_594) rfl rfl rfl (hg _ wd_39) (hg _ wd_595) (hg _ wd_596) rfl (by decide +kernel) ⟨(Nat.le_trans (Nat.le_of_ble_eq_true rfl) hRf), (Nat.le_trans (Nat.le_of_ble_eq_true rfl) hRl)⟩) ⟨Pr.blind, fun U hU hW => ⟨rfl, Pr.at hPc hKc hDc hN hU hW⟩⟩ rfl rfl hl.1 rfl (lv_room (Nat.le_of_ble_eq_true rfl)) dX11_leaf_73 ⟨(Nat.le_trans (Nat.le_of_ble_eq_true rfl) hRc), (Nat.le_trans (Nat.le_of_ble_eq_true rfl) hRs)⟩) hS (fun q _ h => hFc q h) hFc (fun M_137 t H_135 locs ht hvm hw hB hz1 hk1 hS => ?_)
                have hp_138 := hw
                obtain ⟨e0_139, c0_140, hP1, hK1, hD1⟩ := hB
                rw [ht] at hP1
                have hK1 := va_K.moved hvm.symm hK1
                obtain ⟨hP, hD⟩ := va_joinQ (X := [(xa, (b11_1 x0 (nI x1) x2 (nI x3) x4 x5 x6 x7 x8 x9 x10)), (q_133, (b3_5 0 0))]) (cx := [(q_133, (b3_5 0 0))]) (wr := [(xa, (b11_1 x0 (nI x1) x2 (nI x3) x4 x5 x6 x7 x8 x9 x10))]) (w1 := [(q_133, (b3_3 k3 e0_139 0)), (e0_139, .inl (c0_140, 1, .inl (fun _ => 0)))]) (pl := va_pl L M) hP hD [1] [0] rfl rfl (by decide) (by decide) hk1 hFc hP1 hD1
                have hP : va_P D vwCl ([(xa, (b11_1 x0 (nI x1) x2 (nI x3) x4 x5 x6 x7 x8 x9 x10)), (q_133, (b3_3 k3 e0_139 0)), (e0_139, .inl (c0_140, 1, .inl (fun _ => 0)))] ++ va_pl L M) H_135 := hP
                have hD : va_D A ([(xa, (b11_1 x0 (nI x1) x2 (nI x3) x4 x5 x6 x7 x8 x9 x10)), (q_133, (b3_3 k3 e0_139 0)), (e0_139, .inl (c0_140, 1, .inl (fun _ => 0)))] ++ va_pl L M) := hD
                have hK2 := hK.app hK1
                obtain rfl : c0_140 = cy 14 := cls_eq hK2 10 0 rfl rfl
                refine W.widen (k := 2) (n := 4) (Nat.le_of_ble_eq_true rfl) (Nat.le_of_ble_eq_true rfl) ?_
                have hP : va_P D vwCl (([(xa, (b11_1 x0 (nI x1) x2 (nI x3) x4 x5 x6 x7 x8 x9 x10)), (q_133, (b3_3 k3 e0_139 0))] ++ [(zrI cy 14 e0_139 1)]) ++ va_pl L M) H_135 := hP.part (cx := [(xa, (b11_1 x0 (nI x1) x2 (nI x3) x4 x5 x6 x7 x8 x9 x10)), (q_133, (b3_3 k3 e0_139 0))] ++ [(zrI cy 14 e0_139 1)]) [0, 1, 2] rfl
                have hD : va_D A (([(xa, (b11_1 x0 (nI x1) x2 (nI x3) x4 x5 x6 x7 x8 x9 x10)), (q_133, (b3_3 k3 e0_139 0))] ++ [(zrI cy 14 e0_139 1)]) ++ va_pl L M) := hD.part (cx := [(xa, (b11_1 x0 (nI x1) x2 (nI x3) x4 x5 x6 x7 x8 x9 x10)), (q_133, (b3_3 k3 e0_139 0))] ++ [(zrI cy 14 e0_139 1)]) [0, 1, 2] (by decide) rfl
                have hWa := hW
                obtain ⟨K9, L9, M_141, hx9, i_142, hW, hP, hD, hM_143, hfr9, hq9, hm9⟩ := adoptE2 53 1 hP hD hW (fun K' L' x i => (⟨_, rfl⟩ : gd_53 cy K' L' 1 _))
                have hn9 : ∀ b, isk K9 L9 b 2 0 → isk K L b 2 0 := fun b hb => (hm9 b hb.1).elim (fun z => absurd (hb.un (show isk K9 L9 b 53 1 by rw [z]; exact i_142)) (by decide)) (fun z => ⟨z, ((hx9 b z).2).symm.trans hb.2⟩)
                have ho9 : ∀ b, isk K9 L9 b 4 0 → isk K L b 4 0 := fun b hb => (hm9 b hb.1).elim (fun z => absurd (hb.un (show isk K9 L9 b 53 1 by rw [z]; exact i_142)) (by decide)) (fun z => ⟨z, ((hx9 b z).2).symm.trans hb.2⟩)
                have hV : VC (va_up Bo e0_139 (b_5, (k2 : Int32).toNatClampNeg)) K9 L9 M0 M_141 b_5 (cfx M b_5) (cax M b_5) := hV.ad (b_5, (k2 : Int32).toNatClampNeg) hWa hb_10 hx9 hfr9 hq9 hn9
                have hp4 : ∀ q, isk K9 L9 q 4 0 → isk K0 L0 q 4 0 := fun q iq => hp4 q (ho9 q iq)
                have hq0e0_139 : e0_139 ∉ L0 := fun z => hq9 (hX0 _ z).1
                have hM_145 : M_141 b_5 = (b2_2 v11_0 v11_1 v11_2 v11_3 (nI v11_4) (nI v11_5) v11_6 v11_7 v11_8 (nI v11_9) v11_10 (nI v11_11) v11_12 v11_13 v11_14 v11_15 v11_16 v11_17 v11_18 v11_19) := (hfr9 _ hb_10.1).trans hM11
                have hF : fr K0 L0 [10, 18] M0 M_141 := hF.adX hX0 hfr9
                have hT10 : fT 10 K0 L0 [1, 2] M0 M_141 := hT10.adX hX0 hfr9
                have hX0 := hX0.tr hx9
                have i_146 := i0.ext hx9
                have i_147 := i2.ext hx9
                have i_148 := i4.ext hx9
                have i_149 := i5.ext hx9
                have i_150 := i6.ext hx9
                have i_151 := i8.ext hx9
                have i_152 := hb_10.ext hx9
                have i_153 := h11_3.ext hx9
                have i_154 := h11_6.ext hx9
                have i_155 := h11_7.ext hx9
                have i_156 := h11_8.ext hx9
                have i_157 := h11_10.ext hx9
                have i_158 := h11_12.ext hx9
                have i_159 := h11_13.ext hx9
                have i_160 := h11_16.ext hx9
                have i_161 := h11_17.ext hx9
                have i_162 := h11_18.ext hx9
                have i_163 := h11_19.ext hx9
                obtain ⟨K, L, hK9, hL9⟩ : ∃ (K : Kp) (L : List Nat), K = K9 ∧ L = L9 := ⟨_, _, rfl, rfl⟩
                subst hK9
                subst hL9
                have hP : va_P D vwCl ([(xa, (b11_1 x0 (nI x1) x2 (nI x3) x4 x5 x6 x7 x8 x9 x10)), (q_133, (b3_3 k3 e0_139 0))] ++ va_pl L M_141) H_135 := hP
                have hD : va_D A ([(xa, (b11_1 x0 (nI x1) x2 (nI x3) x4 x5 x6 x7 x8 x9 x10)), (q_133, (b3_3 k3 e0_139 0))] ++ va_pl L M_141) := hD
                have hP : va_P D vwCl (([(xa, (b11_1 x0 (nI x1) x2 (nI x3) x4 x5 x6 x7 x8 x9 x10))] ++ [(q_133, (b3_3 k3 e0_139 0))]) ++ va_pl L M_141) H_135 := hP.part (cx := [(xa, (b11_1 x0 (nI x1) x2 (nI x3) x4 x5 x6 x7 x8 x9 x10))] ++ [(q_133, (b3_3 k3 e0_139 0))]) [0, 1] rfl
                have hD : va_D A (([(xa, (b11_1 x0 (nI x1) x2 (nI x3) x4 x5 x6 x7 x8 x9 x10))] ++ [(q_133, (b3_3 k3 e0_139 0))]) ++ va_pl L M_141) := hD.part (cx := [(xa, (b11_1 x0 (nI x1) x2 (nI x3) x4 x5 x6 x7 x8 x9 x10))] ++ [(q_133, (b3_3 k3 e0_139 0))]) [0, 1] (by decide) rfl
                have hWa := hW
                obtain ⟨K9, L9, M_164, hx9, i_165, hW, hP, hD, hM_166, hfr9, hq9, hm9⟩ := adoptE2 3 0 hP hD hW (fun K' L' x i => (⟨1, k3, e0_139, 0, rfl, i_142.ext x, (by omega), (by decide)⟩ : gd_3 K' L' _))
                have hn9 : ∀ b, isk K9 L9 b 2 0 → isk K L b 2 0 := fun b hb => (hm9 b hb.1).elim (fun z => absurd (hb.un (show isk K9 L9 b 3 0 by rw [z]; exact i_165)) (by decide)) (fun z => ⟨z, ((hx9 b z).2).symm.trans hb.2⟩)
                have ho9 : ∀ b, isk K9 L9 b 4 0 → isk K L b 4 0 := fun b hb => (hm9 b hb.1).elim (fun z => absurd (hb.un (show isk K9 L9 b 3 0 by rw [z]; exact i_165)) (by decide)) (fun z => ⟨z, ((hx9 b z).2).symm.trans hb.2⟩)
                have hV : VC (va_up (va_up Bo e0_139 (b_5, (k2 : Int32).toNatClampNeg)) q_133 (b_5, (k2 : Int32).toNatClampNeg)) K9 L9 M0 M_164 b_5 (cfx M b_5) (cax M b_5) := hV.ad (b_5, (k2 : Int32).toNatClampNeg) hWa i_152 hx9 hfr9 hq9 hn9
                have hp4 : ∀ q, isk K9 L9 q 4 0 → isk K0 L0 q 4 0 := fun q iq => hp4 q (ho9 q iq)
                have hq0q_133 : q_133 ∉ L0 := fun z => hq9 (hX0 _ z).1
                have hM_167 : M_164 b_5 = (b2_2 v11_0 v11_1 v11_2 v11_3 (nI v11_4) (nI v11_5) v11_6 v11_7 v11_8 (nI v11_9) v11_10 (nI v11_11) v11_12 v11_13 v11_14 v11_15 v11_16 v11_17 v11_18 v11_19) := (hfr9 _ i_152.1).trans hM_145
                have hM_168 : M_164 e0_139 = .inl (cy 14, 1, .inl (fun _ => 0)) := (hfr9 _ i_142.1).trans hM_143
                have hF : fr K0 L0 [10, 18] M0 M_164 := hF.adX hX0 hfr9
                have hT10 : fT 10 K0 L0 [1, 2] M0 M_164 := hT10.adX hX0 hfr9
                have hX0 := hX0.tr hx9
                have i_169 := i_146.ext hx9
                have i_170 := i_147.ext hx9
                have i_171 := i_148.ext hx9
                have i_172 := i_149.ext hx9
                have i_173 := i_150.ext hx9
                have i_174 := i_151.ext hx9
                have i_175 := i_152.ext hx9
                have i_176 := i_153.ext hx9
                have i_177 := i_154.ext hx9
                have i_178 := i_155.ext hx9
                have i_179 := i_156.ext hx9
                have i_180 := i_157.ext hx9
                have i_181 := i_158.ext hx9
                have i_182 := i_159.ext hx9
                have i_183 := i_160.ext hx9
                have i_184 := i_161.ext hx9
                have i_185 := i_162.ext hx9
                have i_186 := i_163.ext hx9
                have i_187 := i_142.ext hx9
                obtain ⟨K, L, hK9, hL9⟩ : ∃ (K : Kp) (L : List Nat), K = K9 ∧ L = L9 := ⟨_, _, rfl, rfl⟩
                subst hK9
                subst hL9
                have hP : va_P D vwCl ([(xa, (b11_1 x0 (nI x1) x2 (nI x3) x4 x5 x6 x7 x8 x9 x10))] ++ va_pl L M_164) H_135 := hP
                have hD : va_D A ([(xa, (b11_1 x0 (nI x1) x2 (nI x3) x4 x5 x6 x7 x8 x9 x10))] ++ va_pl L M_164) := hD
                obtain ⟨f188, hM188, hf188⟩ := hW.open_18 i_181
                refine pg_astq (r := (RX3, TX3, 3)) hx hb hK hP hD hS i_181.1 4 3 hM188 rfl i_165.1 hM_166 rfl (inbE k2 999 1000 (by decide) (by decide) c_47 (Int32.not_lt.mp c_48)) dX11_leaf_76 (fun H_189 locs hP hD hS => ?_)
                obtain ⟨M_190, eM_190⟩ : ∃ M1 : Hp, M1 = va_up M_164 v11_12 (.inl (cy 18, 1000, .inr (.inr (.inr (.inr (va_up f188 (k2 : Int32).toNatClampNeg (some q_133))))))) := ⟨_, rfl⟩
                have sM_190 : M_190 = sR M_164 v11_12 (k2 : Int32).toNatClampNeg (some q_133) := eM_190.trans (sR_of hM188)
                have hV : VC (va_up (va_up Bo e0_139 (b_5, (k2 : Int32).toNatClampNeg)) q_133 (b_5, (k2 : Int32).toNatClampNeg)) K L M0 M_190 b_5 (cfx M b_5) (va_up (va_up (va_up (va_up (cax M b_5) 2 (upd ((cax M b_5) 2) (k2 : Int32).toNatClampNeg (plN M_164 (some q_133)))) 3 (upd ((cax M b_5) 3) (k2 : Int32).toNatClampNeg (lfN 2 M_164 (some q_133)))) 4 (upd ((cax M b_5) 4) (k2 : Int32).toNatClampNeg (lfN 0 M_164 (some q_133)))) 60 (fun z => if z % 1000 = (k2 : Int32).toNatClampNeg then etN M_164 (some q_133) (z / 1000) else ((cax M b_5) 60) z)) := by rw [sM_190]; exact VC.r_lv hV hW i_175 (vp_lt (inbE k2 999 1000 (by decide) (by decide) c_47 (Int32.not_lt.mp c_48))) (rA_of (j := 12) hM_167 rfl) hM188 (fun q9 z9 => by cases z9; exact ⟨va_up_self _ _ _, by rw [rA_of (j := 1) hM_166 rfl, va_up_ne _ _ (i_187.neT i_165 (by decide))]; exact va_up_self _ _ _⟩)
                have hP : va_P D vwCl ([(xa, (b11_1 x0 (nI x1) x2 (nI x3) x4 x5 x6 x7 x8 x9 x10))] ++ va_pl L M_190) H_189 := by rw [eM_190]; exact hP
                have hD : va_D A ([(xa, (b11_1 x0 (nI x1) x2 (nI x3) x4 x5 x6 x7 x8 x9 x10))] ++ va_pl L M_190) := by rw [eM_190]; exact hD
                have hW : WOK cy K L M_190 := by rw [eM_190]; exact hW.up_18 i_181 ⟨_, rfl, (upN hf188 i_165)⟩
                have hF : fr K0 L0 [10, 18] M0 M_190 := by rw [eM_190]; exact hF.upX hX0 i_181 (by decide)
                have hT10 : fT 10 K0 L0 [1, 2] M0 M_190 := by rw [eM_190]; exact hT10.neX hX0 i_181 (by decide)
                have hM_191 : M_190 v11_12 = .inl (cy 18, 1000, .inr (.inr (.inr (.inr (va_up f188 (k2 : Int32).toNatClampNeg (some q_133)))))) := by rw [eM_190]; exact va_up_self _ _ _
                have hM_192 : M_190 b_5 = (b2_2 v11_0 v11_1 v11_2 v11_3 (nI v11_4) (nI v11_5) v11_6 v11_7 v11_8 (nI v11_9) v11_10 (nI v11_11) v11_12 v11_13 v11_14 v11_15 v11_16 v11_17 v11_18 v11_19) := by rw [eM_190, va_up_ne _ _ (i_175.neT i_181 (by decide))]; exact hM_167
                have hM_193 : M_190 e0_139 = .inl (cy 14, 1, .inl (fun _ => 0)) := by rw [eM_190, va_up_ne _ _ (i_187.neT i_181 (by decide))]; exact hM_168
                have hM_194 : M_190 q_133 = (b3_3 k3 e0_139 (nI 0)) := by rw [eM_190, va_up_ne _ _ (i_165.neT i_181 (by decide))]; exact hM_166
                have hf_196 : ∀ j, j < 1000 → iskN K L ((va_up f188 (k2 : Int32).toNatClampNeg (some q_133)) j) 3 0 := (upN hf188 i_165)
                obtain ⟨f_195, ef_195⟩ : ∃ f : Nat → Option Nat, f = va_up f188 (k2 : Int32).toNatClampNeg (some q_133) := ⟨_, rfl⟩
                rw [← ef_195] at hM_191 hf_196
                have hk_197 : f_195 (k2 : Int32).toNatClampNeg = some q_133 := by rw [ef_195]; exact va_up_self _ _ _
                clear ef_195
                refine lv_aload hx hb dX11_leaf_77 (lv_at hl 0 rfl) ?_
                refine pg_get (D := D) (ci := 2) (v := .ref v11_18) (C := RX2) (T := TX2) (N := 20) hx hb hg inG2 hown hK hP i_175.1 hM_192 rfl 18 (by decide) (hg _ wd_378) (fun _ h9 => h9) rfl dX11_leaf_79 ?_
                obtain ⟨v198_0, v198_1, v198_2, hM198, h198_0⟩ := hW.open_10 i_185
                have hPc : va_P D vwCl ([] ++ va_pl L M_190) H_189 := hP.part (cx := []) [] rfl
                have hDc : va_D A ([] ++ va_pl L M_190) := hD.part (cx := []) [] (by decide) rfl
                have hFc : ∀ q, va_A ([] ++ va_pl L M_190) H_189.size q → A q := pg_free hDc hS hA
                have hI_199 : (0 : Int) ≤ (k3 : Int32).toInt := inltI rfl rfl c_20
                have hI_200 : (k3 : Int32).toInt < (3 : Int) := inleI rfl rfl c_26
                have hI_201 : (0 : Int) ≤ (k2 : Int32).toInt := inltI rfl rfl c_47
                have hI_202 : (k2 : Int32).toInt ≤ (999 : Int) := inltI rfl rfl c_48
                refine va_callv (va_runV (As := []) (rest := []) ⟨hx, hb, hml, hown, hg⟩ (e_clear l D cy K L M_190 H_189.size v11_18 (va_up (va_up Bo e0_139 (b_5, (k2 : Int32).toNatClampNeg)) q_133 (b_5, (k2 : Int32).toNatClampNeg)) M0 b_5 (cfx M b_5) (va_up (va_up (va_up (va_up (cax M b_5) 2 (upd ((cax M b_5) 2) (k2 : Int32).toNatClampNeg (plN M_164 (some q_133)))) 3 (upd ((cax M b_5) 3) (k2 : Int32).toNatClampNeg (lfN 2 M_164 (some q_133)))) 4 (upd ((cax M b_5) 4) (k2 : Int32).toNatClampNeg (lfN 0 M_164 (some q_133)))) 60 (fun z => if z % 1000 = (k2 : Int32).toNatClampNeg then etN M_164 (some q_133) (z / 1000) else ((cax M b_5) 60) z))  hW i_185 i_175 hV (rA_of (j := 18) hM_192 rfl)) (cwV 0 hg (gV wd_379 wd_380 wd_381 wd_114 wd_382) rfl rfl rfl (by decide +kernel) ⟨(Nat.le_trans (Nat.le_of_ble_eq_true rfl) hRf), (Nat.le_trans (Nat.le_of_ble_eq_true rfl) hRl)⟩) ⟨PG.blind, pg_recv hK hP i_185.1 hM198 rfl, fun U hU hW => ⟨rfl, PG.at hPc hK hDc hN hU hW⟩⟩ rfl rfl hl.1 rfl (lv_room (Nat.le_of_ble_eq_true rfl)) dX11_leaf_82 ⟨(Nat.le_trans (Nat.le_of_ble_eq_true rfl) hRc), (Nat.le_trans (Nat.le_of_ble_eq_true rfl) hRs)⟩) hS (fun q _ h => hFc q h) hFc (fun M_205 t H_203 locs ht hvm hw hB hz1 hk1 hS => ?_)
                have hWb := hW
                obtain ⟨hW, hF2, gT10, hVP, hp_206⟩ := hw
                obtain ⟨hP1, hD1⟩ := hB
                rw [ht] at hP1
                obtain ⟨hP, hD⟩ := va_joinP (X := [(xa, (b11_1 x0 (nI x1) x2 (nI x3) x4 x5 x6 x7 x8 x9 x10))]) (cx := []) (wr := [(xa, (b11_1 x0 (nI x1) x2 (nI x3) x4 x5 x6 x7 x8 x9 x10))]) (rx := []) (pl := va_pl L M_190) (pl1 := va_pl L M_205) hP hD [] [0] rfl rfl (by decide) (by decide) hk1 hFc hP1 hD1
                have hP : va_P D vwCl ([(xa, (b11_1 x0 (nI x1) x2 (nI x3) x4 x5 x6 x7 x8 x9 x10))] ++ va_pl L M_205) H_203 := hP
                have hD : va_D A ([(xa, (b11_1 x0 (nI x1) x2 (nI x3) x4 x5 x6 x7 x8 x9 x10))] ++ va_pl L M_205) := hD
                have hM_207 : M_205 v11_12 = .inl (cy 18, 1000, .inr (.inr (.inr (.inr (f_195))))) := (hF2.at i_181 (by decide)).trans hM_191
                have hM_208 : M_205 b_5 = (b2_2 v11_0 v11_1 v11_2 v11_3 (nI v11_4) (nI v11_5) v11_6 v11_7 v11_8 (nI v11_9) v11_10 (nI v11_11) v11_12 v11_13 v11_14 v11_15 v11_16 v11_17 v11_18 v11_19) := (hF2.at i_175 (by decide)).trans hM_192
                have hM_209 : M_205 e0_139 = .inl (cy 14, 1, .inl (fun _ => 0)) := (hF2.at i_187 (by decide)).trans hM_193
                have hM_210 : M_205 q_133 = (b3_3 k3 e0_139 (nI 0)) := (hF2.at i_165 (by decide)).trans hM_194
                have hF : fr K0 L0 [10, 18] M0 M_205 := hF.trX hX0 hF2 (by decide)
                have hT10 : fT 10 K0 L0 [1, 2] M0 M_205 := hT10.trX hX0 gT10 (by decide)
                have hV : VC (va_up (va_up Bo e0_139 (b_5, (k2 : Int32).toNatClampNeg)) q_133 (b_5, (k2 : Int32).toNatClampNeg)) K L M0 M_205 b_5 (va_up (va_up (cfx M b_5) 19 (0 : Int)) 16 (0 : Int)) (va_up (va_up (va_up (va_up (cax M b_5) 2 (upd ((cax M b_5) 2) (k2 : Int32).toNatClampNeg (plN M_164 (some q_133)))) 3 (upd ((cax M b_5) 3) (k2 : Int32).toNatClampNeg (lfN 2 M_164 (some q_133)))) 4 (upd ((cax M b_5) 4) (k2 : Int32).toNatClampNeg (lfN 0 M_164 (some q_133)))) 60 (fun z => if z % 1000 = (k2 : Int32).toNatClampNeg then etN M_164 (some q_133) (z / 1000) else ((cax M b_5) 60) z)) := hVP
                refine lv_aload_n hx hb dX11_leaf_85 rfl (lv_at hl 1 rfl) ?_
                refine lv_iload hx hb dX11_leaf_86 (lv_at hl 5 rfl) ?_
                have hPc := hP.sub (ws' := [(xa, (b11_1 x0 (nI x1) x2 (nI x3) x4 x5 x6 x7 x8 x9 x10))]) [0] rfl
                have hDc := hD.sub (ws' := [(xa, (b11_1 x0 (nI x1) x2 (nI x3) x4 x5 x6 x7 x8 x9 x10))]) [0] (by decide) rfl
                have hKc := hK.sub (tys' := []) [] rfl
                have hFc := va_free (wc := [(xa, (b11_1 x0 (nI x1) x2 (nI x3) x4 x5 x6 x7 x8 x9 x10))]) hD hS hA [0] rfl
                refine va_calli (va_runV (As := [.int 1]) (rest := []) ⟨hx, hb, hml, hown, hg⟩ (k_accept l D H_203.size xa x0 (nI x1) x2 (nI x3) x4 x5 x6 x7 x8 x9 x10 1) (cwV 1 hg (gV wd_356 wd_357 wd_358 wd_3 wd_359) rfl rfl rfl (by decide +kernel) ⟨(Nat.le_trans (Nat.le_of_ble_eq_true rfl) hRf), (Nat.le_trans (Nat.le_of_ble_eq_true rfl) hRl)⟩) ⟨Pr.blind, va_recv hK hP (ci := 11) (q0 := 0) rfl rfl, fun U hU hW => ⟨rfl, Pr.at hPc hKc hDc hN hU hW⟩⟩ rfl rfl hl.1 rfl (lv_room (Nat.le_of_ble_eq_true rfl)) dX11_leaf_88 ⟨(Nat.le_trans (Nat.le_of_ble_eq_true rfl) hRc), (Nat.le_trans (Nat.le_of_ble_eq_true rfl) hRs)⟩) hS (fun q _ h => hFc q h) hFc (fun r_212 M_213 t H_211 locs ht hvm hw hB hz1 hk1 hS => ?_)
                have hp_214 := hw
                obtain ⟨hP1, hK1, hD1⟩ := hB
                rw [ht] at hP1
                obtain ⟨hP, hD⟩ := va_joinQ (X := [(xa, (b11_1 x0 (nI x1) x2 (nI x3) x4 x5 x6 x7 x8 x9 x10))]) (cx := [(xa, (b11_1 x0 (nI x1) x2 (nI x3) x4 x5 x6 x7 x8 x9 x10))]) (wr := []) (w1 := [(xa, (b11_1 x0 (nI x1) x2 (nI x3) x4 x5 x6 x7 x8 0 (-1)))]) (pl := va_pl L M_205) hP hD [0] [] rfl rfl (by decide) (by decide) hk1 hFc hP1 hD1
                have hP : va_P D vwCl ([(xa, (b11_1 x0 (nI x1) x2 (nI x3) x4 x5 x6 x7 x8 0 (-1)))] ++ va_pl L M_205) H_211 := hP
                have hD : va_D A ([(xa, (b11_1 x0 (nI x1) x2 (nI x3) x4 x5 x6 x7 x8 0 (-1)))] ++ va_pl L M_205) := hD
                have hq := Eq.symm hp_214
                subst hq
                refine W.widen (k := 2) (n := 9) (Nat.le_of_ble_eq_true rfl) (Nat.le_of_ble_eq_true rfl) ?_
                have hyes : okLf x1 SX k1 k2 k3 1 := by unfold okLf okH; refine ⟨⟨?_, ?_⟩, ?_, ?_, ?_, ?_, ?_, ?_⟩ <;> first | omega | assumption | decide
                have hpl1 : plN M_164 (some q_133) = 1 := by show nI (ALc (M_164 (rA 3 M_164 q_133 1))) = _; rw [rA_of (j := 1) hM_166 rfl, hM_168]; rfl
                have hpl2 : lfN 2 M_164 (some q_133) = 0 := cV_of (j := 2) hM_166 rfl
                have hpl3 : lfN 0 M_164 (some q_133) = k3 := cV_of (j := 0) hM_166 rfl
                rw [hpl1, hpl2, hpl3] at hV
                rw [hQ]
                exact W.iret (v := 1) hx hb hr (fun t ht hW9 => ⟨⟨1, (K, L, M_205), rfl, ⟨hX0, hW, hF, hT10, (by unfold anLf; rw [if_pos hyes])⟩, ⟨0, (⟨_, by unfold sxLf syLf; rw [if_pos hyes, if_pos hyes]; have hZ := hC00.fin hW00 i000 b1 hkn hb90 hV hX0 (by rw [hF.at i000 (by decide)]) (fun q iq => ⟨hp4 q iq, cR_c (fr.cv hF (by decide) q (hp4 q iq) 3 rfl)⟩) ((((hSM.leaf (d := k2.toNatClampNeg) (p := 1) (c := 0) (s := k3) (s' := k3) (fun _ => rfl) (by decide)).clr hT.1).up1)); exact hZ⟩), by rw [ht]; exact hP, hD⟩⟩, hS.F ht⟩) hS.2.2 dX11_leaf_91
              · have hz := rfl (a := 0)
                refine va_new (ci := 3) (fs := [.int 0, .null, .int 0]) (C := RX3) (T := TX3) (N := 3) hx hb hg inG3 tyX3 tyX3_ok hown (hg _ wd_592) (hg _ wd_593) (hg _ wd_39) hK hP hD hS hA rfl dfX3 (Nat.le_trans (Nat.le_of_ble_eq_true rfl) hRc) (Nat.le_trans (Nat.le_of_ble_eq_true rfl) hRs) dX11_leaf_66 (fun q_215 H_216 hP hD hS => ?_)
                have hP : va_P D vwCl ([(xa, (b11_1 x0 (nI x1) x2 (nI x3) x4 x5 x6 x7 x8 x9 x10)), (q_215, (b3_5 0 0))] ++ va_pl L M) H_216 := hP.swap
                have hD : va_D A ([(xa, (b11_1 x0 (nI x1) x2 (nI x3) x4 x5 x6 x7 x8 x9 x10)), (q_215, (b3_5 0 0))] ++ va_pl L M) := hD.swap
                refine W.widen (k := 1) (n := 3) (Nat.le_of_ble_eq_true rfl) (Nat.le_of_ble_eq_true rfl) ?_
                refine lv_dup hx hb dX11_leaf_69 rfl ?_
                refine lv_iload_n hx hb dX11_leaf_70 rfl (lv_at hl 4 rfl) ?_
                refine lv_iload hx hb dX11_leaf_71 (lv_at hl 5 rfl) ?_
                have hPc := hP.sub (ws' := [(q_215, (b3_5 0 0))]) [1] rfl
                have hDc := hD.sub (ws' := [(q_215, (b3_5 0 0))]) [1] (by decide) rfl
                have hKc := hK.sub (tys' := []) [] rfl
                have hFc := va_free (wc := [(q_215, (b3_5 0 0))]) hD hS hA [1] rfl
                refine va_callv (va_runI (As := [.int k3, .int 2]) (rest := [.ref q_215, .int k2, .ref v11_12]) ⟨hx, hb, hml, hown, hg⟩ (k_Leaf_2 l D H_216.size q_215 k3) (cwI 2 hg (gB wd_594) rfl rfl rfl (hg _ wd_39) (hg _ wd_595) (hg _ wd_596) rfl (by decide +kernel) ⟨(Nat.le_trans (Nat.le_of_ble_eq_true rfl) hRf), (Nat.le_trans (Nat.le_of_ble_eq_true rfl) hRl)⟩) ⟨Pr.blind, fun U hU hW => ⟨rfl, Pr.at hPc hKc hDc hN hU hW⟩⟩ rfl rfl hl.1 rfl (lv_room (Nat.le_of_ble_eq_true rfl)) dX11_leaf_73 ⟨(Nat.le_trans (Nat.le_of_ble_eq_true rfl) hRc), (Nat.le_trans (Nat.le_of_ble_eq_true rfl) hRs)⟩) hS (fun q _ h => hFc q h) hFc (fun M_219 t H_217 locs ht hvm hw hB hz1 hk1 hS => ?_)
                have hp_220 := hw
                obtain ⟨e0_221, c0_222, hP1, hK1, hD1⟩ := hB
                rw [ht] at hP1
                have hK1 := va_K.moved hvm.symm hK1
                obtain ⟨hP, hD⟩ := va_joinQ (X := [(xa, (b11_1 x0 (nI x1) x2 (nI x3) x4 x5 x6 x7 x8 x9 x10)), (q_215, (b3_5 0 0))]) (cx := [(q_215, (b3_5 0 0))]) (wr := [(xa, (b11_1 x0 (nI x1) x2 (nI x3) x4 x5 x6 x7 x8 x9 x10))]) (w1 := [(q_215, (b3_3 k3 e0_221 0)), (e0_221, .inl (c0_222, 2, .inl (fun _ => 0)))]) (pl := va_pl L M) hP hD [1] [0] rfl rfl (by decide) (by decide) hk1 hFc hP1 hD1
                have hP : va_P D vwCl ([(xa, (b11_1 x0 (nI x1) x2 (nI x3) x4 x5 x6 x7 x8 x9 x10)), (q_215, (b3_3 k3 e0_221 0)), (e0_221, .inl (c0_222, 2, .inl (fun _ => 0)))] ++ va_pl L M) H_217 := hP
                have hD : va_D A ([(xa, (b11_1 x0 (nI x1) x2 (nI x3) x4 x5 x6 x7 x8 x9 x10)), (q_215, (b3_3 k3 e0_221 0)), (e0_221, .inl (c0_222, 2, .inl (fun _ => 0)))] ++ va_pl L M) := hD
                have hK2 := hK.app hK1
                obtain rfl : c0_222 = cy 14 := cls_eq hK2 10 0 rfl rfl
                refine W.widen (k := 2) (n := 5) (Nat.le_of_ble_eq_true rfl) (Nat.le_of_ble_eq_true rfl) ?_
                have hP : va_P D vwCl (([(xa, (b11_1 x0 (nI x1) x2 (nI x3) x4 x5 x6 x7 x8 x9 x10)), (q_215, (b3_3 k3 e0_221 0))] ++ [(zrI cy 14 e0_221 2)]) ++ va_pl L M) H_217 := hP.part (cx := [(xa, (b11_1 x0 (nI x1) x2 (nI x3) x4 x5 x6 x7 x8 x9 x10)), (q_215, (b3_3 k3 e0_221 0))] ++ [(zrI cy 14 e0_221 2)]) [0, 1, 2] rfl
                have hD : va_D A (([(xa, (b11_1 x0 (nI x1) x2 (nI x3) x4 x5 x6 x7 x8 x9 x10)), (q_215, (b3_3 k3 e0_221 0))] ++ [(zrI cy 14 e0_221 2)]) ++ va_pl L M) := hD.part (cx := [(xa, (b11_1 x0 (nI x1) x2 (nI x3) x4 x5 x6 x7 x8 x9 x10)), (q_215, (b3_3 k3 e0_221 0))] ++ [(zrI cy 14 e0_221 2)]) [0, 1, 2] (by decide) rfl
                have hWa := hW
                obtain ⟨K9, L9, M_223, hx9, i_224, hW, hP, hD, hM_225, hfr9, hq9, hm9⟩ := adoptE2 53 2 hP hD hW (fun K' L' x i => (⟨_, rfl⟩ : gd_53 cy K' L' 2 _))
                have hn9 : ∀ b, isk K9 L9 b 2 0 → isk K L b 2 0 := fun b hb => (hm9 b hb.1).elim (fun z => absurd (hb.un (show isk K9 L9 b 53 2 by rw [z]; exact i_224)) (by decide)) (fun z => ⟨z, ((hx9 b z).2).symm.trans hb.2⟩)
                have ho9 : ∀ b, isk K9 L9 b 4 0 → isk K L b 4 0 := fun b hb => (hm9 b hb.1).elim (fun z => absurd (hb.un (show isk K9 L9 b 53 2 by rw [z]; exact i_224)) (by decide)) (fun z => ⟨z, ((hx9 b z).2).symm.trans hb.2⟩)
                have hV : VC (va_up Bo e0_221 (b_5, (k2 : Int32).toNatClampNeg)) K9 L9 M0 M_223 b_5 (cfx M b_5) (cax M b_5) := hV.ad (b_5, (k2 : Int32).toNatClampNeg) hWa hb_10 hx9 hfr9 hq9 hn9
                have hp4 : ∀ q, isk K9 L9 q 4 0 → isk K0 L0 q 4 0 := fun q iq => hp4 q (ho9 q iq)
                have hq0e0_221 : e0_221 ∉ L0 := fun z => hq9 (hX0 _ z).1
                have hM_227 : M_223 b_5 = (b2_2 v11_0 v11_1 v11_2 v11_3 (nI v11_4) (nI v11_5) v11_6 v11_7 v11_8 (nI v11_9) v11_10 (nI v11_11) v11_12 v11_13 v11_14 v11_15 v11_16 v11_17 v11_18 v11_19) := (hfr9 _ hb_10.1).trans hM11
                have hF : fr K0 L0 [10, 18] M0 M_223 := hF.adX hX0 hfr9
                have hT10 : fT 10 K0 L0 [1, 2] M0 M_223 := hT10.adX hX0 hfr9
                have hX0 := hX0.tr hx9
                have i_228 := i0.ext hx9
                have i_229 := i2.ext hx9
                have i_230 := i4.ext hx9
                have i_231 := i5.ext hx9
                have i_232 := i6.ext hx9
                have i_233 := i8.ext hx9
                have i_234 := hb_10.ext hx9
                have i_235 := h11_3.ext hx9
                have i_236 := h11_6.ext hx9
                have i_237 := h11_7.ext hx9
                have i_238 := h11_8.ext hx9
                have i_239 := h11_10.ext hx9
                have i_240 := h11_12.ext hx9
                have i_241 := h11_13.ext hx9
                have i_242 := h11_16.ext hx9
                have i_243 := h11_17.ext hx9
                have i_244 := h11_18.ext hx9
                have i_245 := h11_19.ext hx9
                obtain ⟨K, L, hK9, hL9⟩ : ∃ (K : Kp) (L : List Nat), K = K9 ∧ L = L9 := ⟨_, _, rfl, rfl⟩
                subst hK9
                subst hL9
                have hP : va_P D vwCl ([(xa, (b11_1 x0 (nI x1) x2 (nI x3) x4 x5 x6 x7 x8 x9 x10)), (q_215, (b3_3 k3 e0_221 0))] ++ va_pl L M_223) H_217 := hP
                have hD : va_D A ([(xa, (b11_1 x0 (nI x1) x2 (nI x3) x4 x5 x6 x7 x8 x9 x10)), (q_215, (b3_3 k3 e0_221 0))] ++ va_pl L M_223) := hD
                have hP : va_P D vwCl (([(xa, (b11_1 x0 (nI x1) x2 (nI x3) x4 x5 x6 x7 x8 x9 x10))] ++ [(q_215, (b3_3 k3 e0_221 0))]) ++ va_pl L M_223) H_217 := hP.part (cx := [(xa, (b11_1 x0 (nI x1) x2 (nI x3) x4 x5 x6 x7 x8 x9 x10))] ++ [(q_215, (b3_3 k3 e0_221 0))]) [0, 1] rfl
                have hD : va_D A (([(xa, (b11_1 x0 (nI x1) x2 (nI x3) x4 x5 x6 x7 x8 x9 x10))] ++ [(q_215, (b3_3 k3 e0_221 0))]) ++ va_pl L M_223) := hD.part (cx := [(xa, (b11_1 x0 (nI x1) x2 (nI x3) x4 x5 x6 x7 x8 x9 x10))] ++ [(q_215, (b3_3 k3 e0_221 0))]) [0, 1] (by decide) rfl
                have hWa := hW
                obtain ⟨K9, L9, M_246, hx9, i_247, hW, hP, hD, hM_248, hfr9, hq9, hm9⟩ := adoptE2 3 0 hP hD hW (fun K' L' x i => (⟨2, k3, e0_221, 0, rfl, i_224.ext x, (by omega), (by decide)⟩ : gd_3 K' L' _))
                have hn9 : ∀ b, isk K9 L9 b 2 0 → isk K L b 2 0 := fun b hb => (hm9 b hb.1).elim (fun z => absurd (hb.un (show isk K9 L9 b 3 0 by rw [z]; exact i_247)) (by decide)) (fun z => ⟨z, ((hx9 b z).2).symm.trans hb.2⟩)
                have ho9 : ∀ b, isk K9 L9 b 4 0 → isk K L b 4 0 := fun b hb => (hm9 b hb.1).elim (fun z => absurd (hb.un (show isk K9 L9 b 3 0 by rw [z]; exact i_247)) (by decide)) (fun z => ⟨z, ((hx9 b z).2).symm.trans hb.2⟩)
                have hV : VC (va_up (va_up Bo e0_221 (b_5, (k2 : Int32).toNatClampNeg)) q_215 (b_5, (k2 : Int32).toNatClampNeg)) K9 L9 M0 M_246 b_5 (cfx M b_5) (cax M b_5) := hV.ad (b_5, (k2 : Int32).toNatClampNeg) hWa i_234 hx9 hfr9 hq9 hn9
                have hp4 : ∀ q, isk K9 L9 q 4 0 → isk K0 L0 q 4 0 := fun q iq => hp4 q (ho9 q iq)
                have hq0q_215 : q_215 ∉ L0 := fun z => hq9 (hX0 _ z).1
                have hM_249 : M_246 b_5 = (b2_2 v11_0 v11_1 v11_2 v11_3 (nI v11_4) (nI v11_5) v11_6 v11_7 v11_8 (nI v11_9) v11_10 (nI v11_11) v11_12 v11_13 v11_14 v11_15 v11_16 v11_17 v11_18 v11_19) := (hfr9 _ i_234.1).trans hM_227
                have hM_250 : M_246 e0_221 = .inl (cy 14, 2, .inl (fun _ => 0)) := (hfr9 _ i_224.1).trans hM_225
                have hF : fr K0 L0 [10, 18] M0 M_246 := hF.adX hX0 hfr9
                have hT10 : fT 10 K0 L0 [1, 2] M0 M_246 := hT10.adX hX0 hfr9
                have hX0 := hX0.tr hx9
                have i_251 := i_228.ext hx9
                have i_252 := i_229.ext hx9
                have i_253 := i_230.ext hx9
                have i_254 := i_231.ext hx9
                have i_255 := i_232.ext hx9
                have i_256 := i_233.ext hx9
                have i_257 := i_234.ext hx9
                have i_258 := i_235.ext hx9
                have i_259 := i_236.ext hx9
                have i_260 := i_237.ext hx9
                have i_261 := i_238.ext hx9
                have i_262 := i_239.ext hx9
                have i_263 := i_240.ext hx9
                have i_264 := i_241.ext hx9
                have i_265 := i_242.ext hx9
                have i_266 := i_243.ext hx9
                have i_267 := i_244.ext hx9
                have i_268 := i_245.ext hx9
                have i_269 := i_224.ext hx9
                obtain ⟨K, L, hK9, hL9⟩ : ∃ (K : Kp) (L : List Nat), K = K9 ∧ L = L9 := ⟨_, _, rfl, rfl⟩
                subst hK9
                subst hL9
                have hP : va_P D vwCl ([(xa, (b11_1 x0 (nI x1) x2 (nI x3) x4 x5 x6 x7 x8 x9 x10))] ++ va_pl L M_246) H_217 := hP
                have hD : va_D A ([(xa, (b11_1 x0 (nI x1) x2 (nI x3) x4 x5 x6 x7 x8 x9 x10))] ++ va_pl L M_246) := hD
                obtain ⟨f270, hM270, hf270⟩ := hW.open_18 i_263
                refine pg_astq (r := (RX3, TX3, 3)) hx hb hK hP hD hS i_263.1 4 3 hM270 rfl i_247.1 hM_248 rfl (inbE k2 999 1000 (by decide) (by decide) c_47 (Int32.not_lt.mp c_48)) dX11_leaf_76 (fun H_271 locs hP hD hS => ?_)
                obtain ⟨M_272, eM_272⟩ : ∃ M1 : Hp, M1 = va_up M_246 v11_12 (.inl (cy 18, 1000, .inr (.inr (.inr (.inr (va_up f270 (k2 : Int32).toNatClampNeg (some q_215))))))) := ⟨_, rfl⟩
                have sM_272 : M_272 = sR M_246 v11_12 (k2 : Int32).toNatClampNeg (some q_215) := eM_272.trans (sR_of hM270)
                have hV : VC (va_up (va_up Bo e0_221 (b_5, (k2 : Int32).toNatClampNeg)) q_215 (b_5, (k2 : Int32).toNatClampNeg)) K L M0 M_272 b_5 (cfx M b_5) (va_up (va_up (va_up (va_up (cax M b_5) 2 (upd ((cax M b_5) 2) (k2 : Int32).toNatClampNeg (plN M_246 (some q_215)))) 3 (upd ((cax M b_5) 3) (k2 : Int32).toNatClampNeg (lfN 2 M_246 (some q_215)))) 4 (upd ((cax M b_5) 4) (k2 : Int32).toNatClampNeg (lfN 0 M_246 (some q_215)))) 60 (fun z => if z % 1000 = (k2 : Int32).toNatClampNeg then etN M_246 (some q_215) (z / 1000) else ((cax M b_5) 60) z)) := by rw [sM_272]; exact VC.r_lv hV hW i_257 (vp_lt (inbE k2 999 1000 (by decide) (by decide) c_47 (Int32.not_lt.mp c_48))) (rA_of (j := 12) hM_249 rfl) hM270 (fun q9 z9 => by cases z9; exact ⟨va_up_self _ _ _, by rw [rA_of (j := 1) hM_248 rfl, va_up_ne _ _ (i_269.neT i_247 (by decide))]; exact va_up_self _ _ _⟩)
                have hP : va_P D vwCl ([(xa, (b11_1 x0 (nI x1) x2 (nI x3) x4 x5 x6 x7 x8 x9 x10))] ++ va_pl L M_272) H_271 := by rw [eM_272]; exact hP
                have hD : va_D A ([(xa, (b11_1 x0 (nI x1) x2 (nI x3) x4 x5 x6 x7 x8 x9 x10))] ++ va_pl L M_272) := by rw [eM_272]; exact hD
                have hW : WOK cy K L M_272 := by rw [eM_272]; exact hW.up_18 i_263 ⟨_, rfl, (upN hf270 i_247)⟩
                have hF : fr K0 L0 [10, 18] M0 M_272 := by rw [eM_272]; exact hF.upX hX0 i_263 (by decide)
                have hT10 : fT 10 K0 L0 [1, 2] M0 M_272 := by rw [eM_272]; exact hT10.neX hX0 i_263 (by decide)
                have hM_273 : M_272 v11_12 = .inl (cy 18, 1000, .inr (.inr (.inr (.inr (va_up f270 (k2 : Int32).toNatClampNeg (some q_215)))))) := by rw [eM_272]; exact va_up_self _ _ _
                have hM_274 : M_272 b_5 = (b2_2 v11_0 v11_1 v11_2 v11_3 (nI v11_4) (nI v11_5) v11_6 v11_7 v11_8 (nI v11_9) v11_10 (nI v11_11) v11_12 v11_13 v11_14 v11_15 v11_16 v11_17 v11_18 v11_19) := by rw [eM_272, va_up_ne _ _ (i_257.neT i_263 (by decide))]; exact hM_249
                have hM_275 : M_272 e0_221 = .inl (cy 14, 2, .inl (fun _ => 0)) := by rw [eM_272, va_up_ne _ _ (i_269.neT i_263 (by decide))]; exact hM_250
                have hM_276 : M_272 q_215 = (b3_3 k3 e0_221 (nI 0)) := by rw [eM_272, va_up_ne _ _ (i_247.neT i_263 (by decide))]; exact hM_248
                have hf_278 : ∀ j, j < 1000 → iskN K L ((va_up f270 (k2 : Int32).toNatClampNeg (some q_215)) j) 3 0 := (upN hf270 i_247)
                obtain ⟨f_277, ef_277⟩ : ∃ f : Nat → Option Nat, f = va_up f270 (k2 : Int32).toNatClampNeg (some q_215) := ⟨_, rfl⟩
                rw [← ef_277] at hM_273 hf_278
                have hk_279 : f_277 (k2 : Int32).toNatClampNeg = some q_215 := by rw [ef_277]; exact va_up_self _ _ _
                clear ef_277
                refine lv_aload hx hb dX11_leaf_77 (lv_at hl 0 rfl) ?_
                refine pg_get (D := D) (ci := 2) (v := .ref v11_18) (C := RX2) (T := TX2) (N := 20) hx hb hg inG2 hown hK hP i_257.1 hM_274 rfl 18 (by decide) (hg _ wd_378) (fun _ h9 => h9) rfl dX11_leaf_79 ?_
                obtain ⟨v280_0, v280_1, v280_2, hM280, h280_0⟩ := hW.open_10 i_267
                have hPc : va_P D vwCl ([] ++ va_pl L M_272) H_271 := hP.part (cx := []) [] rfl
                have hDc : va_D A ([] ++ va_pl L M_272) := hD.part (cx := []) [] (by decide) rfl
                have hFc : ∀ q, va_A ([] ++ va_pl L M_272) H_271.size q → A q := pg_free hDc hS hA
                have hI_281 : (0 : Int) ≤ (k3 : Int32).toInt := inltI rfl rfl c_20
                have hI_282 : (k3 : Int32).toInt < (3 : Int) := inleI rfl rfl c_26
                have hI_283 : (0 : Int) ≤ (k2 : Int32).toInt := inltI rfl rfl c_47
                have hI_284 : (k2 : Int32).toInt ≤ (999 : Int) := inltI rfl rfl c_48
                refine va_callv (va_runV (As := []) (rest := []) ⟨hx, hb, hml, hown, hg⟩ (e_clear l D cy K L M_272 H_271.size v11_18 (va_up (va_up Bo e0_221 (b_5, (k2 : Int32).toNatClampNeg)) q_215 (b_5, (k2 : Int32).toNatClampNeg)) M0 b_5 (cfx M b_5) (va_up (va_up (va_up (va_up (cax M b_5) 2 (upd ((cax M b_5) 2) (k2 : Int32).toNatClampNeg (plN M_246 (some q_215)))) 3 (upd ((cax M b_5) 3) (k2 : Int32).toNatClampNeg (lfN 2 M_246 (some q_215)))) 4 (upd ((cax M b_5) 4) (k2 : Int32).toNatClampNeg (lfN 0 M_246 (some q_215)))) 60 (fun z => if z % 1000 = (k2 : Int32).toNatClampNeg then etN M_246 (some q_215) (z / 1000) else ((cax M b_5) 60) z))  hW i_267 i_257 hV (rA_of (j := 18) hM_274 rfl)) (cwV 0 hg (gV wd_379 wd_380 wd_381 wd_114 wd_382) rfl rfl rfl (by decide +kernel) ⟨(Nat.le_trans (Nat.le_of_ble_eq_true rfl) hRf), (Nat.le_trans (Nat.le_of_ble_eq_true rfl) hRl)⟩) ⟨PG.blind, pg_recv hK hP i_267.1 hM280 rfl, fun U hU hW => ⟨rfl, PG.at hPc hK hDc hN hU hW⟩⟩ rfl rfl hl.1 rfl (lv_room (Nat.le_of_ble_eq_true rfl)) dX11_leaf_82 ⟨(Nat.le_trans (Nat.le_of_ble_eq_true rfl) hRc), (Nat.le_trans (Nat.le_of_ble_eq_true rfl) hRs)⟩) hS (fun q _ h => hFc q h) hFc (fun M_287 t H_285 locs ht hvm hw hB hz1 hk1 hS => ?_)
                have hWb := hW
                obtain ⟨hW, hF2, gT10, hVP, hp_288⟩ := hw
                obtain ⟨hP1, hD1⟩ := hB
                rw [ht] at hP1
                obtain ⟨hP, hD⟩ := va_joinP (X := [(xa, (b11_1 x0 (nI x1) x2 (nI x3) x4 x5 x6 x7 x8 x9 x10))]) (cx := []) (wr := [(xa, (b11_1 x0 (nI x1) x2 (nI x3) x4 x5 x6 x7 x8 x9 x10))]) (rx := []) (pl := va_pl L M_272) (pl1 := va_pl L M_287) hP hD [] [0] rfl rfl (by decide) (by decide) hk1 hFc hP1 hD1
                have hP : va_P D vwCl ([(xa, (b11_1 x0 (nI x1) x2 (nI x3) x4 x5 x6 x7 x8 x9 x10))] ++ va_pl L M_287) H_285 := hP
                have hD : va_D A ([(xa, (b11_1 x0 (nI x1) x2 (nI x3) x4 x5 x6 x7 x8 x9 x10))] ++ va_pl L M_287) := hD
                have hM_289 : M_287 v11_12 = .inl (cy 18, 1000, .inr (.inr (.inr (.inr (f_277))))) := (hF2.at i_263 (by decide)).trans hM_273
                have hM_290 : M_287 b_5 = (b2_2 v11_0 v11_1 v11_2 v11_3 (nI v11_4) (nI v11_5) v11_6 v11_7 v11_8 (nI v11_9) v11_10 (nI v11_11) v11_12 v11_13 v11_14 v11_15 v11_16 v11_17 v11_18 v11_19) := (hF2.at i_257 (by decide)).trans hM_274
                have hM_291 : M_287 e0_221 = .inl (cy 14, 2, .inl (fun _ => 0)) := (hF2.at i_269 (by decide)).trans hM_275
                have hM_292 : M_287 q_215 = (b3_3 k3 e0_221 (nI 0)) := (hF2.at i_247 (by decide)).trans hM_276
                have hF : fr K0 L0 [10, 18] M0 M_287 := hF.trX hX0 hF2 (by decide)
                have hT10 : fT 10 K0 L0 [1, 2] M0 M_287 := hT10.trX hX0 gT10 (by decide)
                have hV : VC (va_up (va_up Bo e0_221 (b_5, (k2 : Int32).toNatClampNeg)) q_215 (b_5, (k2 : Int32).toNatClampNeg)) K L M0 M_287 b_5 (va_up (va_up (cfx M b_5) 19 (0 : Int)) 16 (0 : Int)) (va_up (va_up (va_up (va_up (cax M b_5) 2 (upd ((cax M b_5) 2) (k2 : Int32).toNatClampNeg (plN M_246 (some q_215)))) 3 (upd ((cax M b_5) 3) (k2 : Int32).toNatClampNeg (lfN 2 M_246 (some q_215)))) 4 (upd ((cax M b_5) 4) (k2 : Int32).toNatClampNeg (lfN 0 M_246 (some q_215)))) 60 (fun z => if z % 1000 = (k2 : Int32).toNatClampNeg then etN M_246 (some q_215) (z / 1000) else ((cax M b_5) 60) z)) := hVP
                refine lv_aload_n hx hb dX11_leaf_85 rfl (lv_at hl 1 rfl) ?_
                refine lv_iload hx hb dX11_leaf_86 (lv_at hl 5 rfl) ?_
                have hPc := hP.sub (ws' := [(xa, (b11_1 x0 (nI x1) x2 (nI x3) x4 x5 x6 x7 x8 x9 x10))]) [0] rfl
                have hDc := hD.sub (ws' := [(xa, (b11_1 x0 (nI x1) x2 (nI x3) x4 x5 x6 x7 x8 x9 x10))]) [0] (by decide) rfl
                have hKc := hK.sub (tys' := []) [] rfl
                have hFc := va_free (wc := [(xa, (b11_1 x0 (nI x1) x2 (nI x3) x4 x5 x6 x7 x8 x9 x10))]) hD hS hA [0] rfl
                refine va_calli (va_runV (As := [.int 2]) (rest := []) ⟨hx, hb, hml, hown, hg⟩ (k_accept l D H_285.size xa x0 (nI x1) x2 (nI x3) x4 x5 x6 x7 x8 x9 x10 2) (cwV 1 hg (gV wd_356 wd_357 wd_358 wd_3 wd_359) rfl rfl rfl (by decide +kernel) ⟨(Nat.le_trans (Nat.le_of_ble_eq_true rfl) hRf), (Nat.le_trans (Nat.le_of_ble_eq_true rfl) hRl)⟩) ⟨Pr.blind, va_recv hK hP (ci := 11) (q0 := 0) rfl rfl, fun U hU hW => ⟨rfl, Pr.at hPc hKc hDc hN hU hW⟩⟩ rfl rfl hl.1 rfl (lv_room (Nat.le_of_ble_eq_true rfl)) dX11_leaf_88 ⟨(Nat.le_trans (Nat.le_of_ble_eq_true rfl) hRc), (Nat.le_trans (Nat.le_of_ble_eq_true rfl) hRs)⟩) hS (fun q _ h => hFc q h) hFc (fun r_294 M_295 t H_293 locs ht hvm hw hB hz1 hk1 hS => ?_)
                have hp_296 := hw
                obtain ⟨hP1, hK1, hD1⟩ := hB
                rw [ht] at hP1
                obtain ⟨hP, hD⟩ := va_joinQ (X := [(xa, (b11_1 x0 (nI x1) x2 (nI x3) x4 x5 x6 x7 x8 x9 x10))]) (cx := [(xa, (b11_1 x0 (nI x1) x2 (nI x3) x4 x5 x6 x7 x8 x9 x10))]) (wr := []) (w1 := [(xa, (b11_1 x0 (nI x1) x2 (nI x3) x4 x5 x6 x7 x8 0 (-1)))]) (pl := va_pl L M_287) hP hD [0] [] rfl rfl (by decide) (by decide) hk1 hFc hP1 hD1
                have hP : va_P D vwCl ([(xa, (b11_1 x0 (nI x1) x2 (nI x3) x4 x5 x6 x7 x8 0 (-1)))] ++ va_pl L M_287) H_293 := hP
                have hD : va_D A ([(xa, (b11_1 x0 (nI x1) x2 (nI x3) x4 x5 x6 x7 x8 0 (-1)))] ++ va_pl L M_287) := hD
                have hq := Eq.symm hp_296
                subst hq
                refine W.widen (k := 2) (n := 9) (Nat.le_of_ble_eq_true rfl) (Nat.le_of_ble_eq_true rfl) ?_
                have hyes : okLf x1 SX k1 k2 k3 2 := by unfold okLf okH; refine ⟨⟨?_, ?_⟩, ?_, ?_, ?_, ?_, ?_, ?_⟩ <;> first | omega | assumption | decide
                have hpl1 : plN M_246 (some q_215) = 2 := by show nI (ALc (M_246 (rA 3 M_246 q_215 1))) = _; rw [rA_of (j := 1) hM_248 rfl, hM_250]; rfl
                have hpl2 : lfN 2 M_246 (some q_215) = 0 := cV_of (j := 2) hM_248 rfl
                have hpl3 : lfN 0 M_246 (some q_215) = k3 := cV_of (j := 0) hM_248 rfl
                rw [hpl1, hpl2, hpl3] at hV
                rw [hQ]
                exact W.iret (v := 2) hx hb hr (fun t ht hW9 => ⟨⟨2, (K, L, M_287), rfl, ⟨hX0, hW, hF, hT10, (by unfold anLf; rw [if_pos hyes])⟩, ⟨0, (⟨_, by unfold sxLf syLf; rw [if_pos hyes, if_pos hyes]; have hZ := hC00.fin hW00 i000 b1 hkn hb90 hV hX0 (by rw [hF.at i000 (by decide)]) (fun q iq => ⟨hp4 q iq, cR_c (fr.cv hF (by decide) q (hp4 q iq) 3 rfl)⟩) ((((hSM.leaf (d := k2.toNatClampNeg) (p := 2) (c := 0) (s := k3) (s' := k3) (fun _ => rfl) (by decide)).clr hT.1).up1)); exact hZ⟩), by rw [ht]; exact hP, hD⟩⟩, hS.F ht⟩) hS.2.2 dX11_leaf_91
              · have hz := rfl (a := 0)
                refine va_new (ci := 3) (fs := [.int 0, .null, .int 0]) (C := RX3) (T := TX3) (N := 3) hx hb hg inG3 tyX3 tyX3_ok hown (hg _ wd_592) (hg _ wd_593) (hg _ wd_39) hK hP hD hS hA rfl dfX3 (Nat.le_trans (Nat.le_of_ble_eq_true rfl) hRc) (Nat.le_trans (Nat.le_of_ble_eq_true rfl) hRs) dX11_leaf_66 (fun q_297 H_298 hP hD hS => ?_)
                have hP : va_P D vwCl ([(xa, (b11_1 x0 (nI x1) x2 (nI x3) x4 x5 x6 x7 x8 x9 x10)), (q_297, (b3_5 0 0))] ++ va_pl L M) H_298 := hP.swap
                have hD : va_D A ([(xa, (b11_1 x0 (nI x1) x2 (nI x3) x4 x5 x6 x7 x8 x9 x10)), (q_297, (b3_5 0 0))] ++ va_pl L M) := hD.swap
                refine W.widen (k := 1) (n := 3) (Nat.le_of_ble_eq_true rfl) (Nat.le_of_ble_eq_true rfl) ?_
                refine lv_dup hx hb dX11_leaf_69 rfl ?_
                refine lv_iload_n hx hb dX11_leaf_70 rfl (lv_at hl 4 rfl) ?_
                refine lv_iload hx hb dX11_leaf_71 (lv_at hl 5 rfl) ?_
                have hPc := hP.sub (ws' := [(q_297, (b3_5 0 0))]) [1] rfl
                have hDc := hD.sub (ws' := [(q_297, (b3_5 0 0))]) [1] (by decide) rfl
                have hKc := hK.sub (tys' := []) [] rfl
                have hFc := va_free (wc := [(q_297, (b3_5 0 0))]) hD hS hA [1] rfl
                refine va_callv (va_runI (As := [.int k3, .int 3]) (rest := [.ref q_297, .int k2, .ref v11_12]) ⟨hx, hb, hml, hown, hg⟩ (k_Leaf_3 l D H_298.size q_297 k3) (cwI 2 hg (gB wd_594) rfl rfl rfl (hg _ wd_39) (hg _ wd_595) (hg _ wd_596) rfl (by decide +kernel) ⟨(Nat.le_trans (Nat.le_of_ble_eq_true rfl) hRf), (Nat.le_trans (Nat.le_of_ble_eq_true rfl) hRl)⟩) ⟨Pr.blind, fun U hU hW => ⟨rfl, Pr.at hPc hKc hDc hN hU hW⟩⟩ rfl rfl hl.1 rfl (lv_room (Nat.le_of_ble_eq_true rfl)) dX11_leaf_73 ⟨(Nat.le_trans (Nat.le_of_ble_eq_true rfl) hRc), (Nat.le_trans (Nat.le_of_ble_eq_true rfl) hRs)⟩) hS (fun q _ h => hFc q h) hFc (fun M_301 t H_299 locs ht hvm hw hB hz1 hk1 hS => ?_)
                have hp_302 := hw
                obtain ⟨e0_303, c0_304, hP1, hK1, hD1⟩ := hB
                rw [ht] at hP1
                have hK1 := va_K.moved hvm.symm hK1
                obtain ⟨hP, hD⟩ := va_joinQ (X := [(xa, (b11_1 x0 (nI x1) x2 (nI x3) x4 x5 x6 x7 x8 x9 x10)), (q_297, (b3_5 0 0))]) (cx := [(q_297, (b3_5 0 0))]) (wr := [(xa, (b11_1 x0 (nI x1) x2 (nI x3) x4 x5 x6 x7 x8 x9 x10))]) (w1 := [(q_297, (b3_3 k3 e0_303 0)), (e0_303, .inl (c0_304, 3, .inl (fun _ => 0)))]) (pl := va_pl L M) hP hD [1] [0] rfl rfl (by decide) (by decide) hk1 hFc hP1 hD1
                have hP : va_P D vwCl ([(xa, (b11_1 x0 (nI x1) x2 (nI x3) x4 x5 x6 x7 x8 x9 x10)), (q_297, (b3_3 k3 e0_303 0)), (e0_303, .inl (c0_304, 3, .inl (fun _ => 0)))] ++ va_pl L M) H_299 := hP
                have hD : va_D A ([(xa, (b11_1 x0 (nI x1) x2 (nI x3) x4 x5 x6 x7 x8 x9 x10)), (q_297, (b3_3 k3 e0_303 0)), (e0_303, .inl (c0_304, 3, .inl (fun _ => 0)))] ++ va_pl L M) := hD
                have hK2 := hK.app hK1
                obtain rfl : c0_304 = cy 14 := cls_eq hK2 10 0 rfl rfl
                refine W.widen (k := 2) (n := 6) (Nat.le_of_ble_eq_true rfl) (Nat.le_of_ble_eq_true rfl) ?_
                have hP : va_P D vwCl (([(xa, (b11_1 x0 (nI x1) x2 (nI x3) x4 x5 x6 x7 x8 x9 x10)), (q_297, (b3_3 k3 e0_303 0))] ++ [(zrI cy 14 e0_303 3)]) ++ va_pl L M) H_299 := hP.part (cx := [(xa, (b11_1 x0 (nI x1) x2 (nI x3) x4 x5 x6 x7 x8 x9 x10)), (q_297, (b3_3 k3 e0_303 0))] ++ [(zrI cy 14 e0_303 3)]) [0, 1, 2] rfl
                have hD : va_D A (([(xa, (b11_1 x0 (nI x1) x2 (nI x3) x4 x5 x6 x7 x8 x9 x10)), (q_297, (b3_3 k3 e0_303 0))] ++ [(zrI cy 14 e0_303 3)]) ++ va_pl L M) := hD.part (cx := [(xa, (b11_1 x0 (nI x1) x2 (nI x3) x4 x5 x6 x7 x8 x9 x10)), (q_297, (b3_3 k3 e0_303 0))] ++ [(zrI cy 14 e0_303 3)]) [0, 1, 2] (by decide) rfl
                have hWa := hW
                obtain ⟨K9, L9, M_305, hx9, i_306, hW, hP, hD, hM_307, hfr9, hq9, hm9⟩ := adoptE2 53 3 hP hD hW (fun K' L' x i => (⟨_, rfl⟩ : gd_53 cy K' L' 3 _))
                have hn9 : ∀ b, isk K9 L9 b 2 0 → isk K L b 2 0 := fun b hb => (hm9 b hb.1).elim (fun z => absurd (hb.un (show isk K9 L9 b 53 3 by rw [z]; exact i_306)) (by decide)) (fun z => ⟨z, ((hx9 b z).2).symm.trans hb.2⟩)
                have ho9 : ∀ b, isk K9 L9 b 4 0 → isk K L b 4 0 := fun b hb => (hm9 b hb.1).elim (fun z => absurd (hb.un (show isk K9 L9 b 53 3 by rw [z]; exact i_306)) (by decide)) (fun z => ⟨z, ((hx9 b z).2).symm.trans hb.2⟩)
                have hV : VC (va_up Bo e0_303 (b_5, (k2 : Int32).toNatClampNeg)) K9 L9 M0 M_305 b_5 (cfx M b_5) (cax M b_5) := hV.ad (b_5, (k2 : Int32).toNatClampNeg) hWa hb_10 hx9 hfr9 hq9 hn9
                have hp4 : ∀ q, isk K9 L9 q 4 0 → isk K0 L0 q 4 0 := fun q iq => hp4 q (ho9 q iq)
                have hq0e0_303 : e0_303 ∉ L0 := fun z => hq9 (hX0 _ z).1
                have hM_309 : M_305 b_5 = (b2_2 v11_0 v11_1 v11_2 v11_3 (nI v11_4) (nI v11_5) v11_6 v11_7 v11_8 (nI v11_9) v11_10 (nI v11_11) v11_12 v11_13 v11_14 v11_15 v11_16 v11_17 v11_18 v11_19) := (hfr9 _ hb_10.1).trans hM11
                have hF : fr K0 L0 [10, 18] M0 M_305 := hF.adX hX0 hfr9
                have hT10 : fT 10 K0 L0 [1, 2] M0 M_305 := hT10.adX hX0 hfr9
                have hX0 := hX0.tr hx9
                have i_310 := i0.ext hx9
                have i_311 := i2.ext hx9
                have i_312 := i4.ext hx9
                have i_313 := i5.ext hx9
                have i_314 := i6.ext hx9
                have i_315 := i8.ext hx9
                have i_316 := hb_10.ext hx9
                have i_317 := h11_3.ext hx9
                have i_318 := h11_6.ext hx9
                have i_319 := h11_7.ext hx9
                have i_320 := h11_8.ext hx9
                have i_321 := h11_10.ext hx9
                have i_322 := h11_12.ext hx9
                have i_323 := h11_13.ext hx9
                have i_324 := h11_16.ext hx9
                have i_325 := h11_17.ext hx9
                have i_326 := h11_18.ext hx9
                have i_327 := h11_19.ext hx9
                obtain ⟨K, L, hK9, hL9⟩ : ∃ (K : Kp) (L : List Nat), K = K9 ∧ L = L9 := ⟨_, _, rfl, rfl⟩
                subst hK9
                subst hL9
                have hP : va_P D vwCl ([(xa, (b11_1 x0 (nI x1) x2 (nI x3) x4 x5 x6 x7 x8 x9 x10)), (q_297, (b3_3 k3 e0_303 0))] ++ va_pl L M_305) H_299 := hP
                have hD : va_D A ([(xa, (b11_1 x0 (nI x1) x2 (nI x3) x4 x5 x6 x7 x8 x9 x10)), (q_297, (b3_3 k3 e0_303 0))] ++ va_pl L M_305) := hD
                have hP : va_P D vwCl (([(xa, (b11_1 x0 (nI x1) x2 (nI x3) x4 x5 x6 x7 x8 x9 x10))] ++ [(q_297, (b3_3 k3 e0_303 0))]) ++ va_pl L M_305) H_299 := hP.part (cx := [(xa, (b11_1 x0 (nI x1) x2 (nI x3) x4 x5 x6 x7 x8 x9 x10))] ++ [(q_297, (b3_3 k3 e0_303 0))]) [0, 1] rfl
                have hD : va_D A (([(xa, (b11_1 x0 (nI x1) x2 (nI x3) x4 x5 x6 x7 x8 x9 x10))] ++ [(q_297, (b3_3 k3 e0_303 0))]) ++ va_pl L M_305) := hD.part (cx := [(xa, (b11_1 x0 (nI x1) x2 (nI x3) x4 x5 x6 x7 x8 x9 x10))] ++ [(q_297, (b3_3 k3 e0_303 0))]) [0, 1] (by decide) rfl
                have hWa := hW
                obtain ⟨K9, L9, M_328, hx9, i_329, hW, hP, hD, hM_330, hfr9, hq9, hm9⟩ := adoptE2 3 0 hP hD hW (fun K' L' x i => (⟨3, k3, e0_303, 0, rfl, i_306.ext x, (by omega), (by decide)⟩ : gd_3 K' L' _))
                have hn9 : ∀ b, isk K9 L9 b 2 0 → isk K L b 2 0 := fun b hb => (hm9 b hb.1).elim (fun z => absurd (hb.un (show isk K9 L9 b 3 0 by rw [z]; exact i_329)) (by decide)) (fun z => ⟨z, ((hx9 b z).2).symm.trans hb.2⟩)
                have ho9 : ∀ b, isk K9 L9 b 4 0 → isk K L b 4 0 := fun b hb => (hm9 b hb.1).elim (fun z => absurd (hb.un (show isk K9 L9 b 3 0 by rw [z]; exact i_329)) (by decide)) (fun z => ⟨z, ((hx9 b z).2).symm.trans hb.2⟩)
                have hV : VC (va_up (va_up Bo e0_303 (b_5, (k2 : Int32).toNatClampNeg)) q_297 (b_5, (k2 : Int32).toNatClampNeg)) K9 L9 M0 M_328 b_5 (cfx M b_5) (cax M b_5) := hV.ad (b_5, (k2 : Int32).toNatClampNeg) hWa i_316 hx9 hfr9 hq9 hn9
                have hp4 : ∀ q, isk K9 L9 q 4 0 → isk K0 L0 q 4 0 := fun q iq => hp4 q (ho9 q iq)
                have hq0q_297 : q_297 ∉ L0 := fun z => hq9 (hX0 _ z).1
                have hM_331 : M_328 b_5 = (b2_2 v11_0 v11_1 v11_2 v11_3 (nI v11_4) (nI v11_5) v11_6 v11_7 v11_8 (nI v11_9) v11_10 (nI v11_11) v11_12 v11_13 v11_14 v11_15 v11_16 v11_17 v11_18 v11_19) := (hfr9 _ i_316.1).trans hM_309
                have hM_332 : M_328 e0_303 = .inl (cy 14, 3, .inl (fun _ => 0)) := (hfr9 _ i_306.1).trans hM_307
                have hF : fr K0 L0 [10, 18] M0 M_328 := hF.adX hX0 hfr9
                have hT10 : fT 10 K0 L0 [1, 2] M0 M_328 := hT10.adX hX0 hfr9
                have hX0 := hX0.tr hx9
                have i_333 := i_310.ext hx9
                have i_334 := i_311.ext hx9
                have i_335 := i_312.ext hx9
                have i_336 := i_313.ext hx9
                have i_337 := i_314.ext hx9
                have i_338 := i_315.ext hx9
                have i_339 := i_316.ext hx9
                have i_340 := i_317.ext hx9
                have i_341 := i_318.ext hx9
                have i_342 := i_319.ext hx9
                have i_343 := i_320.ext hx9
                have i_344 := i_321.ext hx9
                have i_345 := i_322.ext hx9
                have i_346 := i_323.ext hx9
                have i_347 := i_324.ext hx9
                have i_348 := i_325.ext hx9
                have i_349 := i_326.ext hx9
                have i_350 := i_327.ext hx9
                have i_351 := i_306.ext hx9
                obtain ⟨K, L, hK9, hL9⟩ : ∃ (K : Kp) (L : List Nat), K = K9 ∧ L = L9 := ⟨_, _, rfl, rfl⟩
                subst hK9
                subst hL9
                have hP : va_P D vwCl ([(xa, (b11_1 x0 (nI x1) x2 (nI x3) x4 x5 x6 x7 x8 x9 x10))] ++ va_pl L M_328) H_299 := hP
                have hD : va_D A ([(xa, (b11_1 x0 (nI x1) x2 (nI x3) x4 x5 x6 x7 x8 x9 x10))] ++ va_pl L M_328) := hD
                obtain ⟨f352, hM352, hf352⟩ := hW.open_18 i_345
                refine pg_astq (r := (RX3, TX3, 3)) hx hb hK hP hD hS i_345.1 4 3 hM352 rfl i_329.1 hM_330 rfl (inbE k2 999 1000 (by decide) (by decide) c_47 (Int32.not_lt.mp c_48)) dX11_leaf_76 (fun H_353 locs hP hD hS => ?_)
                obtain ⟨M_354, eM_354⟩ : ∃ M1 : Hp, M1 = va_up M_328 v11_12 (.inl (cy 18, 1000, .inr (.inr (.inr (.inr (va_up f352 (k2 : Int32).toNatClampNeg (some q_297))))))) := ⟨_, rfl⟩
                have sM_354 : M_354 = sR M_328 v11_12 (k2 : Int32).toNatClampNeg (some q_297) := eM_354.trans (sR_of hM352)
                have hV : VC (va_up (va_up Bo e0_303 (b_5, (k2 : Int32).toNatClampNeg)) q_297 (b_5, (k2 : Int32).toNatClampNeg)) K L M0 M_354 b_5 (cfx M b_5) (va_up (va_up (va_up (va_up (cax M b_5) 2 (upd ((cax M b_5) 2) (k2 : Int32).toNatClampNeg (plN M_328 (some q_297)))) 3 (upd ((cax M b_5) 3) (k2 : Int32).toNatClampNeg (lfN 2 M_328 (some q_297)))) 4 (upd ((cax M b_5) 4) (k2 : Int32).toNatClampNeg (lfN 0 M_328 (some q_297)))) 60 (fun z => if z % 1000 = (k2 : Int32).toNatClampNeg then etN M_328 (some q_297) (z / 1000) else ((cax M b_5) 60) z)) := by rw [sM_354]; exact VC.r_lv hV hW i_339 (vp_lt (inbE k2 999 1000 (by decide) (by decide) c_47 (Int32.not_lt.mp c_48))) (rA_of (j := 12) hM_331 rfl) hM352 (fun q9 z9 => by cases z9; exact ⟨va_up_self _ _ _, by rw [rA_of (j := 1) hM_330 rfl, va_up_ne _ _ (i_351.neT i_329 (by decide))]; exact va_up_self _ _ _⟩)
                have hP : va_P D vwCl ([(xa, (b11_1 x0 (nI x1) x2 (nI x3) x4 x5 x6 x7 x8 x9 x10))] ++ va_pl L M_354) H_353 := by rw [eM_354]; exact hP
                have hD : va_D A ([(xa, (b11_1 x0 (nI x1) x2 (nI x3) x4 x5 x6 x7 x8 x9 x10))] ++ va_pl L M_354) := by rw [eM_354]; exact hD
                have hW : WOK cy K L M_354 := by rw [eM_354]; exact hW.up_18 i_345 ⟨_, rfl, (upN hf352 i_329)⟩
                have hF : fr K0 L0 [10, 18] M0 M_354 := by rw [eM_354]; exact hF.upX hX0 i_345 (by decide)
                have hT10 : fT 10 K0 L0 [1, 2] M0 M_354 := by rw [eM_354]; exact hT10.neX hX0 i_345 (by decide)
                have hM_355 : M_354 v11_12 = .inl (cy 18, 1000, .inr (.inr (.inr (.inr (va_up f352 (k2 : Int32).toNatClampNeg (some q_297)))))) := by rw [eM_354]; exact va_up_self _ _ _
                have hM_356 : M_354 b_5 = (b2_2 v11_0 v11_1 v11_2 v11_3 (nI v11_4) (nI v11_5) v11_6 v11_7 v11_8 (nI v11_9) v11_10 (nI v11_11) v11_12 v11_13 v11_14 v11_15 v11_16 v11_17 v11_18 v11_19) := by rw [eM_354, va_up_ne _ _ (i_339.neT i_345 (by decide))]; exact hM_331
                have hM_357 : M_354 e0_303 = .inl (cy 14, 3, .inl (fun _ => 0)) := by rw [eM_354, va_up_ne _ _ (i_351.neT i_345 (by decide))]; exact hM_332
                have hM_358 : M_354 q_297 = (b3_3 k3 e0_303 (nI 0)) := by rw [eM_354, va_up_ne _ _ (i_329.neT i_345 (by decide))]; exact hM_330
                have hf_360 : ∀ j, j < 1000 → iskN K L ((va_up f352 (k2 : Int32).toNatClampNeg (some q_297)) j) 3 0 := (upN hf352 i_329)
                obtain ⟨f_359, ef_359⟩ : ∃ f : Nat → Option Nat, f = va_up f352 (k2 : Int32).toNatClampNeg (some q_297) := ⟨_, rfl⟩
                rw [← ef_359] at hM_355 hf_360
                have hk_361 : f_359 (k2 : Int32).toNatClampNeg = some q_297 := by rw [ef_359]; exact va_up_self _ _ _
                clear ef_359
                refine lv_aload hx hb dX11_leaf_77 (lv_at hl 0 rfl) ?_
                refine pg_get (D := D) (ci := 2) (v := .ref v11_18) (C := RX2) (T := TX2) (N := 20) hx hb hg inG2 hown hK hP i_339.1 hM_356 rfl 18 (by decide) (hg _ wd_378) (fun _ h9 => h9) rfl dX11_leaf_79 ?_
                obtain ⟨v362_0, v362_1, v362_2, hM362, h362_0⟩ := hW.open_10 i_349
                have hPc : va_P D vwCl ([] ++ va_pl L M_354) H_353 := hP.part (cx := []) [] rfl
                have hDc : va_D A ([] ++ va_pl L M_354) := hD.part (cx := []) [] (by decide) rfl
                have hFc : ∀ q, va_A ([] ++ va_pl L M_354) H_353.size q → A q := pg_free hDc hS hA
                have hI_363 : (0 : Int) ≤ (k3 : Int32).toInt := inltI rfl rfl c_20
                have hI_364 : (k3 : Int32).toInt < (3 : Int) := inleI rfl rfl c_26
                have hI_365 : (0 : Int) ≤ (k2 : Int32).toInt := inltI rfl rfl c_47
                have hI_366 : (k2 : Int32).toInt ≤ (999 : Int) := inltI rfl rfl c_48
                refine va_callv (va_runV (As := []) (rest := []) ⟨hx, hb, hml, hown, hg⟩ (e_clear l D cy K L M_354 H_353.size v11_18 (va_up (va_up Bo e0_303 (b_5, (k2 : Int32).toNatClampNeg)) q_297 (b_5, (k2 : Int32).toNatClampNeg)) M0 b_5 (cfx M b_5) (va_up (va_up (va_up (va_up (cax M b_5) 2 (upd ((cax M b_5) 2) (k2 : Int32).toNatClampNeg (plN M_328 (some q_297)))) 3 (upd ((cax M b_5) 3) (k2 : Int32).toNatClampNeg (lfN 2 M_328 (some q_297)))) 4 (upd ((cax M b_5) 4) (k2 : Int32).toNatClampNeg (lfN 0 M_328 (some q_297)))) 60 (fun z => if z % 1000 = (k2 : Int32).toNatClampNeg then etN M_328 (some q_297) (z / 1000) else ((cax M b_5) 60) z))  hW i_349 i_339 hV (rA_of (j := 18) hM_356 rfl)) (cwV 0 hg (gV wd_379 wd_380 wd_381 wd_114 wd_382) rfl rfl rfl (by decide +kernel) ⟨(Nat.le_trans (Nat.le_of_ble_eq_true rfl) hRf), (Nat.le_trans (Nat.le_of_ble_eq_true rfl) hRl)⟩) ⟨PG.blind, pg_recv hK hP i_349.1 hM362 rfl, fun U hU hW => ⟨rfl, PG.at hPc hK hDc hN hU hW⟩⟩ rfl rfl hl.1 rfl (lv_room (Nat.le_of_ble_eq_true rfl)) dX11_leaf_82 ⟨(Nat.le_trans (Nat.le_of_ble_eq_true rfl) hRc), (Nat.le_trans (Nat.le_of_ble_eq_true rfl) hRs)⟩) hS (fun q _ h => hFc q h) hFc (fun M_369 t H_367 locs ht hvm hw hB hz1 hk1 hS => ?_)
                have hWb := hW
                obtain ⟨hW, hF2, gT10, hVP, hp_370⟩ := hw
                obtain ⟨hP1, hD1⟩ := hB
                rw [ht] at hP1
                obtain ⟨hP, hD⟩ := va_joinP (X := [(xa, (b11_1 x0 (nI x1) x2 (nI x3) x4 x5 x6 x7 x8 x9 x10))]) (cx := []) (wr := [(xa, (b11_1 x0 (nI x1) x2 (nI x3) x4 x5 x6 x7 x8 x9 x10))]) (rx := []) (pl := va_pl L M_354) (pl1 := va_pl L M_369) hP hD [] [0] rfl rfl (by decide) (by decide) hk1 hFc hP1 hD1
                have hP : va_P D vwCl ([(xa, (b11_1 x0 (nI x1) x2 (nI x3) x4 x5 x6 x7 x8 x9 x10))] ++ va_pl L M_369) H_367 := hP
                have hD : va_D A ([(xa, (b11_1 x0 (nI x1) x2 (nI x3) x4 x5 x6 x7 x8 x9 x10))] ++ va_pl L M_369) := hD
                have hM_371 : M_369 v11_12 = .inl (cy 18, 1000, .inr (.inr (.inr (.inr (f_359))))) := (hF2.at i_345 (by decide)).trans hM_355
                have hM_372 : M_369 b_5 = (b2_2 v11_0 v11_1 v11_2 v11_3 (nI v11_4) (nI v11_5) v11_6 v11_7 v11_8 (nI v11_9) v11_10 (nI v11_11) v11_12 v11_13 v11_14 v11_15 v11_16 v11_17 v11_18 v11_19) := (hF2.at i_339 (by decide)).trans hM_356
                have hM_373 : M_369 e0_303 = .inl (cy 14, 3, .inl (fun _ => 0)) := (hF2.at i_351 (by decide)).trans hM_357
                have hM_374 : M_369 q_297 = (b3_3 k3 e0_303 (nI 0)) := (hF2.at i_329 (by decide)).trans hM_358
                have hF : fr K0 L0 [10, 18] M0 M_369 := hF.trX hX0 hF2 (by decide)
                have hT10 : fT 10 K0 L0 [1, 2] M0 M_369 := hT10.trX hX0 gT10 (by decide)
                have hV : VC (va_up (va_up Bo e0_303 (b_5, (k2 : Int32).toNatClampNeg)) q_297 (b_5, (k2 : Int32).toNatClampNeg)) K L M0 M_369 b_5 (va_up (va_up (cfx M b_5) 19 (0 : Int)) 16 (0 : Int)) (va_up (va_up (va_up (va_up (cax M b_5) 2 (upd ((cax M b_5) 2) (k2 : Int32).toNatClampNeg (plN M_328 (some q_297)))) 3 (upd ((cax M b_5) 3) (k2 : Int32).toNatClampNeg (lfN 2 M_328 (some q_297)))) 4 (upd ((cax M b_5) 4) (k2 : Int32).toNatClampNeg (lfN 0 M_328 (some q_297)))) 60 (fun z => if z % 1000 = (k2 : Int32).toNatClampNeg then etN M_328 (some q_297) (z / 1000) else ((cax M b_5) 60) z)) := hVP
                refine lv_aload_n hx hb dX11_leaf_85 rfl (lv_at hl 1 rfl) ?_
                refine lv_iload hx hb dX11_leaf_86 (lv_at hl 5 rfl) ?_
                have hPc := hP.sub (ws' := [(xa, (b11_1 x0 (nI x1) x2 (nI x3) x4 x5 x6 x7 x8 x9 x10))]) [0] rfl
                have hDc := hD.sub (ws' := [(xa, (b11_1 x0 (nI x1) x2 (nI x3) x4 x5 x6 x7 x8 x9 x10))]) [0] (by decide) rfl
                have hKc := hK.sub (tys' := []) [] rfl
                have hFc := va_free (wc := [(xa, (b11_1 x0 (nI x1) x2 (nI x3) x4 x5 x6 x7 x8 x9 x10))]) hD hS hA [0] rfl
                refine va_calli (va_runV (As := [.int 3]) (rest := []) ⟨hx, hb, hml, hown, hg⟩ (k_accept l D H_367.size xa x0 (nI x1) x2 (nI x3) x4 x5 x6 x7 x8 x9 x10 3) (cwV 1 hg (gV wd_356 wd_357 wd_358 wd_3 wd_359) rfl rfl rfl (by decide +kernel) ⟨(Nat.le_trans (Nat.le_of_ble_eq_true rfl) hRf), (Nat.le_trans (Nat.le_of_ble_eq_true rfl) hRl)⟩) ⟨Pr.blind, va_recv hK hP (ci := 11) (q0 := 0) rfl rfl, fun U hU hW => ⟨rfl, Pr.at hPc hKc hDc hN hU hW⟩⟩ rfl rfl hl.1 rfl (lv_room (Nat.le_of_ble_eq_true rfl)) dX11_leaf_88 ⟨(Nat.le_trans (Nat.le_of_ble_eq_true rfl) hRc), (Nat.le_trans (Nat.le_of_ble_eq_true rfl) hRs)⟩) hS (fun q _ h => hFc q h) hFc (fun r_376 M_377 t H_375 locs ht hvm hw hB hz1 hk1 hS => ?_)
                have hp_378 := hw
                obtain ⟨hP1, hK1, hD1⟩ := hB
                rw [ht] at hP1
                obtain ⟨hP, hD⟩ := va_joinQ (X := [(xa, (b11_1 x0 (nI x1) x2 (nI x3) x4 x5 x6 x7 x8 x9 x10))]) (cx := [(xa, (b11_1 x0 (nI x1) x2 (nI x3) x4 x5 x6 x7 x8 x9 x10))]) (wr := []) (w1 := [(xa, (b11_1 x0 (nI x1) x2 (nI x3) x4 x5 x6 x7 x8 0 (-1)))]) (pl := va_pl L M_369) hP hD [0] [] rfl rfl (by decide) (by decide) hk1 hFc hP1 hD1
                have hP : va_P D vwCl ([(xa, (b11_1 x0 (nI x1) x2 (nI x3) x4 x5 x6 x7 x8 0 (-1)))] ++ va_pl L M_369) H_375 := hP
                have hD : va_D A ([(xa, (b11_1 x0 (nI x1) x2 (nI x3) x4 x5 x6 x7 x8 0 (-1)))] ++ va_pl L M_369) := hD
                have hq := Eq.symm hp_378
                subst hq
                refine W.widen (k := 2) (n := 9) (Nat.le_of_ble_eq_true rfl) (Nat.le_of_ble_eq_true rfl) ?_
                have hyes : okLf x1 SX k1 k2 k3 3 := by unfold okLf okH; refine ⟨⟨?_, ?_⟩, ?_, ?_, ?_, ?_, ?_, ?_⟩ <;> first | omega | assumption | decide
                have hpl1 : plN M_328 (some q_297) = 3 := by show nI (ALc (M_328 (rA 3 M_328 q_297 1))) = _; rw [rA_of (j := 1) hM_330 rfl, hM_332]; rfl
                have hpl2 : lfN 2 M_328 (some q_297) = 0 := cV_of (j := 2) hM_330 rfl
                have hpl3 : lfN 0 M_328 (some q_297) = k3 := cV_of (j := 0) hM_330 rfl
                rw [hpl1, hpl2, hpl3] at hV
                rw [hQ]
                exact W.iret (v := 3) hx hb hr (fun t ht hW9 => ⟨⟨3, (K, L, M_369), rfl, ⟨hX0, hW, hF, hT10, (by unfold anLf; rw [if_pos hyes])⟩, ⟨0, (⟨_, by unfold sxLf syLf; rw [if_pos hyes, if_pos hyes]; have hZ := hC00.fin hW00 i000 b1 hkn hb90 hV hX0 (by rw [hF.at i000 (by decide)]) (fun q iq => ⟨hp4 q iq, cR_c (fr.cv hF (by decide) q (hp4 q iq) 3 rfl)⟩) ((((hSM.leaf (d := k2.toNatClampNeg) (p := 3) (c := 0) (s := k3) (s' := k3) (fun _ => rfl) (by decide)).clr hT.1).up1)); exact hZ⟩), by rw [ht]; exact hP, hD⟩⟩, hS.F ht⟩) hS.2.2 dX11_leaf_91
              · have hz := rfl (a := 0)
                refine va_new (ci := 3) (fs := [.int 0, .null, .int 0]) (C := RX3) (T := TX3) (N := 3) hx hb hg inG3 tyX3 tyX3_ok hown (hg _ wd_592) (hg _ wd_593) (hg _ wd_39) hK hP hD hS hA rfl dfX3 (Nat.le_trans (Nat.le_of_ble_eq_true rfl) hRc) (Nat.le_trans (Nat.le_of_ble_eq_true rfl) hRs) dX11_leaf_66 (fun q_379 H_380 hP hD hS => ?_)
                have hP : va_P D vwCl ([(xa, (b11_1 x0 (nI x1) x2 (nI x3) x4 x5 x6 x7 x8 x9 x10)), (q_379, (b3_5 0 0))] ++ va_pl L M) H_380 := hP.swap
                have hD : va_D A ([(xa, (b11_1 x0 (nI x1) x2 (nI x3) x4 x5 x6 x7 x8 x9 x10)), (q_379, (b3_5 0 0))] ++ va_pl L M) := hD.swap
                refine W.widen (k := 1) (n := 3) (Nat.le_of_ble_eq_true rfl) (Nat.le_of_ble_eq_true rfl) ?_
                refine lv_dup hx hb dX11_leaf_69 rfl ?_
                refine lv_iload_n hx hb dX11_leaf_70 rfl (lv_at hl 4 rfl) ?_
                refine lv_iload hx hb dX11_leaf_71 (lv_at hl 5 rfl) ?_
                have hPc := hP.sub (ws' := [(q_379, (b3_5 0 0))]) [1] rfl
                have hDc := hD.sub (ws' := [(q_379, (b3_5 0 0))]) [1] (by decide) rfl
                have hKc := hK.sub (tys' := []) [] rfl
                have hFc := va_free (wc := [(q_379, (b3_5 0 0))]) hD hS hA [1] rfl
                refine va_callv (va_runI (As := [.int k3, .int 4]) (rest := [.ref q_379, .int k2, .ref v11_12]) ⟨hx, hb, hml, hown, hg⟩ (k_Leaf_4 l D H_380.size q_379 k3) (cwI 2 hg (gB wd_594) rfl rfl rfl (hg _ wd_39) (hg _ wd_595) (hg _ wd_596) rfl (by decide +kernel) ⟨(Nat.le_trans (Nat.le_of_ble_eq_true rfl) hRf), (Nat.le_trans (Nat.le_of_ble_eq_true rfl) hRl)⟩) ⟨Pr.blind, fun U hU hW => ⟨rfl, Pr.at hPc hKc hDc hN hU hW⟩⟩ rfl rfl hl.1 rfl (lv_room (Nat.le_of_ble_eq_true rfl)) dX11_leaf_73 ⟨(Nat.le_trans (Nat.le_of_ble_eq_true rfl) hRc), (Nat.le_trans (Nat.le_of_ble_eq_true rfl) hRs)⟩) hS (fun q _ h => hFc q h) hFc (fun M_383 t H_381 locs ht hvm hw hB hz1 hk1 hS => ?_)
                have hp_384 := hw
                obtain ⟨e0_385, c0_386, hP1, hK1, hD1⟩ := hB
                rw [ht] at hP1
                have hK1 := va_K.moved hvm.symm hK1
                obtain ⟨hP, hD⟩ := va_joinQ (X := [(xa, (b11_1 x0 (nI x1) x2 (nI x3) x4 x5 x6 x7 x8 x9 x10)), (q_379, (b3_5 0 0))]) (cx := [(q_379, (b3_5 0 0))]) (wr := [(xa, (b11_1 x0 (nI x1) x2 (nI x3) x4 x5 x6 x7 x8 x9 x10))]) (w1 := [(q_379, (b3_3 k3 e0_385 0)), (e0_385, .inl (c0_386, 4, .inl (fun _ => 0)))]) (pl := va_pl L M) hP hD [1] [0] rfl rfl (by decide) (by decide) hk1 hFc hP1 hD1
                have hP : va_P D vwCl ([(xa, (b11_1 x0 (nI x1) x2 (nI x3) x4 x5 x6 x7 x8 x9 x10)), (q_379, (b3_3 k3 e0_385 0)), (e0_385, .inl (c0_386, 4, .inl (fun _ => 0)))] ++ va_pl L M) H_381 := hP
                have hD : va_D A ([(xa, (b11_1 x0 (nI x1) x2 (nI x3) x4 x5 x6 x7 x8 x9 x10)), (q_379, (b3_3 k3 e0_385 0)), (e0_385, .inl (c0_386, 4, .inl (fun _ => 0)))] ++ va_pl L M) := hD
                have hK2 := hK.app hK1
                obtain rfl : c0_386 = cy 14 := cls_eq hK2 10 0 rfl rfl
                refine W.widen (k := 2) (n := 7) (Nat.le_of_ble_eq_true rfl) (Nat.le_of_ble_eq_true rfl) ?_
                have hP : va_P D vwCl (([(xa, (b11_1 x0 (nI x1) x2 (nI x3) x4 x5 x6 x7 x8 x9 x10)), (q_379, (b3_3 k3 e0_385 0))] ++ [(zrI cy 14 e0_385 4)]) ++ va_pl L M) H_381 := hP.part (cx := [(xa, (b11_1 x0 (nI x1) x2 (nI x3) x4 x5 x6 x7 x8 x9 x10)), (q_379, (b3_3 k3 e0_385 0))] ++ [(zrI cy 14 e0_385 4)]) [0, 1, 2] rfl
                have hD : va_D A (([(xa, (b11_1 x0 (nI x1) x2 (nI x3) x4 x5 x6 x7 x8 x9 x10)), (q_379, (b3_3 k3 e0_385 0))] ++ [(zrI cy 14 e0_385 4)]) ++ va_pl L M) := hD.part (cx := [(xa, (b11_1 x0 (nI x1) x2 (nI x3) x4 x5 x6 x7 x8 x9 x10)), (q_379, (b3_3 k3 e0_385 0))] ++ [(zrI cy 14 e0_385 4)]) [0, 1, 2] (by decide) rfl
                have hWa := hW
                obtain ⟨K9, L9, M_387, hx9, i_388, hW, hP, hD, hM_389, hfr9, hq9, hm9⟩ := adoptE2 53 4 hP hD hW (fun K' L' x i => (⟨_, rfl⟩ : gd_53 cy K' L' 4 _))
                have hn9 : ∀ b, isk K9 L9 b 2 0 → isk K L b 2 0 := fun b hb => (hm9 b hb.1).elim (fun z => absurd (hb.un (show isk K9 L9 b 53 4 by rw [z]; exact i_388)) (by decide)) (fun z => ⟨z, ((hx9 b z).2).symm.trans hb.2⟩)
                have ho9 : ∀ b, isk K9 L9 b 4 0 → isk K L b 4 0 := fun b hb => (hm9 b hb.1).elim (fun z => absurd (hb.un (show isk K9 L9 b 53 4 by rw [z]; exact i_388)) (by decide)) (fun z => ⟨z, ((hx9 b z).2).symm.trans hb.2⟩)
                have hV : VC (va_up Bo e0_385 (b_5, (k2 : Int32).toNatClampNeg)) K9 L9 M0 M_387 b_5 (cfx M b_5) (cax M b_5) := hV.ad (b_5, (k2 : Int32).toNatClampNeg) hWa hb_10 hx9 hfr9 hq9 hn9
                have hp4 : ∀ q, isk K9 L9 q 4 0 → isk K0 L0 q 4 0 := fun q iq => hp4 q (ho9 q iq)
                have hq0e0_385 : e0_385 ∉ L0 := fun z => hq9 (hX0 _ z).1
                have hM_391 : M_387 b_5 = (b2_2 v11_0 v11_1 v11_2 v11_3 (nI v11_4) (nI v11_5) v11_6 v11_7 v11_8 (nI v11_9) v11_10 (nI v11_11) v11_12 v11_13 v11_14 v11_15 v11_16 v11_17 v11_18 v11_19) := (hfr9 _ hb_10.1).trans hM11
                have hF : fr K0 L0 [10, 18] M0 M_387 := hF.adX hX0 hfr9
                have hT10 : fT 10 K0 L0 [1, 2] M0 M_387 := hT10.adX hX0 hfr9
                have hX0 := hX0.tr hx9
                have i_392 := i0.ext hx9
                have i_393 := i2.ext hx9
                have i_394 := i4.ext hx9
                have i_395 := i5.ext hx9
                have i_396 := i6.ext hx9
                have i_397 := i8.ext hx9
                have i_398 := hb_10.ext hx9
                have i_399 := h11_3.ext hx9
                have i_400 := h11_6.ext hx9
                have i_401 := h11_7.ext hx9
                have i_402 := h11_8.ext hx9
                have i_403 := h11_10.ext hx9
                have i_404 := h11_12.ext hx9
                have i_405 := h11_13.ext hx9
                have i_406 := h11_16.ext hx9
                have i_407 := h11_17.ext hx9
                have i_408 := h11_18.ext hx9
                have i_409 := h11_19.ext hx9
                obtain ⟨K, L, hK9, hL9⟩ : ∃ (K : Kp) (L : List Nat), K = K9 ∧ L = L9 := ⟨_, _, rfl, rfl⟩
                subst hK9
                subst hL9
                have hP : va_P D vwCl ([(xa, (b11_1 x0 (nI x1) x2 (nI x3) x4 x5 x6 x7 x8 x9 x10)), (q_379, (b3_3 k3 e0_385 0))] ++ va_pl L M_387) H_381 := hP
                have hD : va_D A ([(xa, (b11_1 x0 (nI x1) x2 (nI x3) x4 x5 x6 x7 x8 x9 x10)), (q_379, (b3_3 k3 e0_385 0))] ++ va_pl L M_387) := hD
                have hP : va_P D vwCl (([(xa, (b11_1 x0 (nI x1) x2 (nI x3) x4 x5 x6 x7 x8 x9 x10))] ++ [(q_379, (b3_3 k3 e0_385 0))]) ++ va_pl L M_387) H_381 := hP.part (cx := [(xa, (b11_1 x0 (nI x1) x2 (nI x3) x4 x5 x6 x7 x8 x9 x10))] ++ [(q_379, (b3_3 k3 e0_385 0))]) [0, 1] rfl
                have hD : va_D A (([(xa, (b11_1 x0 (nI x1) x2 (nI x3) x4 x5 x6 x7 x8 x9 x10))] ++ [(q_379, (b3_3 k3 e0_385 0))]) ++ va_pl L M_387) := hD.part (cx := [(xa, (b11_1 x0 (nI x1) x2 (nI x3) x4 x5 x6 x7 x8 x9 x10))] ++ [(q_379, (b3_3 k3 e0_385 0))]) [0, 1] (by decide) rfl
                have hWa := hW
                obtain ⟨K9, L9, M_410, hx9, i_411, hW, hP, hD, hM_412, hfr9, hq9, hm9⟩ := adoptE2 3 0 hP hD hW (fun K' L' x i => (⟨4, k3, e0_385, 0, rfl, i_388.ext x, (by omega), (by decide)⟩ : gd_3 K' L' _))
                have hn9 : ∀ b, isk K9 L9 b 2 0 → isk K L b 2 0 := fun b hb => (hm9 b hb.1).elim (fun z => absurd (hb.un (show isk K9 L9 b 3 0 by rw [z]; exact i_411)) (by decide)) (fun z => ⟨z, ((hx9 b z).2).symm.trans hb.2⟩)
                have ho9 : ∀ b, isk K9 L9 b 4 0 → isk K L b 4 0 := fun b hb => (hm9 b hb.1).elim (fun z => absurd (hb.un (show isk K9 L9 b 3 0 by rw [z]; exact i_411)) (by decide)) (fun z => ⟨z, ((hx9 b z).2).symm.trans hb.2⟩)
                have hV : VC (va_up (va_up Bo e0_385 (b_5, (k2 : Int32).toNatClampNeg)) q_379 (b_5, (k2 : Int32).toNatClampNeg)) K9 L9 M0 M_410 b_5 (cfx M b_5) (cax M b_5) := hV.ad (b_5, (k2 : Int32).toNatClampNeg) hWa i_398 hx9 hfr9 hq9 hn9
                have hp4 : ∀ q, isk K9 L9 q 4 0 → isk K0 L0 q 4 0 := fun q iq => hp4 q (ho9 q iq)
                have hq0q_379 : q_379 ∉ L0 := fun z => hq9 (hX0 _ z).1
                have hM_413 : M_410 b_5 = (b2_2 v11_0 v11_1 v11_2 v11_3 (nI v11_4) (nI v11_5) v11_6 v11_7 v11_8 (nI v11_9) v11_10 (nI v11_11) v11_12 v11_13 v11_14 v11_15 v11_16 v11_17 v11_18 v11_19) := (hfr9 _ i_398.1).trans hM_391
                have hM_414 : M_410 e0_385 = .inl (cy 14, 4, .inl (fun _ => 0)) := (hfr9 _ i_388.1).trans hM_389
                have hF : fr K0 L0 [10, 18] M0 M_410 := hF.adX hX0 hfr9
                have hT10 : fT 10 K0 L0 [1, 2] M0 M_410 := hT10.adX hX0 hfr9
                have hX0 := hX0.tr hx9
                have i_415 := i_392.ext hx9
                have i_416 := i_393.ext hx9
                have i_417 := i_394.ext hx9
                have i_418 := i_395.ext hx9
                have i_419 := i_396.ext hx9
                have i_420 := i_397.ext hx9
                have i_421 := i_398.ext hx9
                have i_422 := i_399.ext hx9
                have i_423 := i_400.ext hx9
                have i_424 := i_401.ext hx9
                have i_425 := i_402.ext hx9
                have i_426 := i_403.ext hx9
                have i_427 := i_404.ext hx9
                have i_428 := i_405.ext hx9
                have i_429 := i_406.ext hx9
                have i_430 := i_407.ext hx9
                have i_431 := i_408.ext hx9
                have i_432 := i_409.ext hx9
                have i_433 := i_388.ext hx9
                obtain ⟨K, L, hK9, hL9⟩ : ∃ (K : Kp) (L : List Nat), K = K9 ∧ L = L9 := ⟨_, _, rfl, rfl⟩
                subst hK9
                subst hL9
                have hP : va_P D vwCl ([(xa, (b11_1 x0 (nI x1) x2 (nI x3) x4 x5 x6 x7 x8 x9 x10))] ++ va_pl L M_410) H_381 := hP
                have hD : va_D A ([(xa, (b11_1 x0 (nI x1) x2 (nI x3) x4 x5 x6 x7 x8 x9 x10))] ++ va_pl L M_410) := hD
                obtain ⟨f434, hM434, hf434⟩ := hW.open_18 i_427
                refine pg_astq (r := (RX3, TX3, 3)) hx hb hK hP hD hS i_427.1 4 3 hM434 rfl i_411.1 hM_412 rfl (inbE k2 999 1000 (by decide) (by decide) c_47 (Int32.not_lt.mp c_48)) dX11_leaf_76 (fun H_435 locs hP hD hS => ?_)
                obtain ⟨M_436, eM_436⟩ : ∃ M1 : Hp, M1 = va_up M_410 v11_12 (.inl (cy 18, 1000, .inr (.inr (.inr (.inr (va_up f434 (k2 : Int32).toNatClampNeg (some q_379))))))) := ⟨_, rfl⟩
                have sM_436 : M_436 = sR M_410 v11_12 (k2 : Int32).toNatClampNeg (some q_379) := eM_436.trans (sR_of hM434)
                have hV : VC (va_up (va_up Bo e0_385 (b_5, (k2 : Int32).toNatClampNeg)) q_379 (b_5, (k2 : Int32).toNatClampNeg)) K L M0 M_436 b_5 (cfx M b_5) (va_up (va_up (va_up (va_up (cax M b_5) 2 (upd ((cax M b_5) 2) (k2 : Int32).toNatClampNeg (plN M_410 (some q_379)))) 3 (upd ((cax M b_5) 3) (k2 : Int32).toNatClampNeg (lfN 2 M_410 (some q_379)))) 4 (upd ((cax M b_5) 4) (k2 : Int32).toNatClampNeg (lfN 0 M_410 (some q_379)))) 60 (fun z => if z % 1000 = (k2 : Int32).toNatClampNeg then etN M_410 (some q_379) (z / 1000) else ((cax M b_5) 60) z)) := by rw [sM_436]; exact VC.r_lv hV hW i_421 (vp_lt (inbE k2 999 1000 (by decide) (by decide) c_47 (Int32.not_lt.mp c_48))) (rA_of (j := 12) hM_413 rfl) hM434 (fun q9 z9 => by cases z9; exact ⟨va_up_self _ _ _, by rw [rA_of (j := 1) hM_412 rfl, va_up_ne _ _ (i_433.neT i_411 (by decide))]; exact va_up_self _ _ _⟩)
                have hP : va_P D vwCl ([(xa, (b11_1 x0 (nI x1) x2 (nI x3) x4 x5 x6 x7 x8 x9 x10))] ++ va_pl L M_436) H_435 := by rw [eM_436]; exact hP
                have hD : va_D A ([(xa, (b11_1 x0 (nI x1) x2 (nI x3) x4 x5 x6 x7 x8 x9 x10))] ++ va_pl L M_436) := by rw [eM_436]; exact hD
                have hW : WOK cy K L M_436 := by rw [eM_436]; exact hW.up_18 i_427 ⟨_, rfl, (upN hf434 i_411)⟩
                have hF : fr K0 L0 [10, 18] M0 M_436 := by rw [eM_436]; exact hF.upX hX0 i_427 (by decide)
                have hT10 : fT 10 K0 L0 [1, 2] M0 M_436 := by rw [eM_436]; exact hT10.neX hX0 i_427 (by decide)
                have hM_437 : M_436 v11_12 = .inl (cy 18, 1000, .inr (.inr (.inr (.inr (va_up f434 (k2 : Int32).toNatClampNeg (some q_379)))))) := by rw [eM_436]; exact va_up_self _ _ _
                have hM_438 : M_436 b_5 = (b2_2 v11_0 v11_1 v11_2 v11_3 (nI v11_4) (nI v11_5) v11_6 v11_7 v11_8 (nI v11_9) v11_10 (nI v11_11) v11_12 v11_13 v11_14 v11_15 v11_16 v11_17 v11_18 v11_19) := by rw [eM_436, va_up_ne _ _ (i_421.neT i_427 (by decide))]; exact hM_413
                have hM_439 : M_436 e0_385 = .inl (cy 14, 4, .inl (fun _ => 0)) := by rw [eM_436, va_up_ne _ _ (i_433.neT i_427 (by decide))]; exact hM_414
                have hM_440 : M_436 q_379 = (b3_3 k3 e0_385 (nI 0)) := by rw [eM_436, va_up_ne _ _ (i_411.neT i_427 (by decide))]; exact hM_412
                have hf_442 : ∀ j, j < 1000 → iskN K L ((va_up f434 (k2 : Int32).toNatClampNeg (some q_379)) j) 3 0 := (upN hf434 i_411)
                obtain ⟨f_441, ef_441⟩ : ∃ f : Nat → Option Nat, f = va_up f434 (k2 : Int32).toNatClampNeg (some q_379) := ⟨_, rfl⟩
                rw [← ef_441] at hM_437 hf_442
                have hk_443 : f_441 (k2 : Int32).toNatClampNeg = some q_379 := by rw [ef_441]; exact va_up_self _ _ _
                clear ef_441
                refine lv_aload hx hb dX11_leaf_77 (lv_at hl 0 rfl) ?_
                refine pg_get (D := D) (ci := 2) (v := .ref v11_18) (C := RX2) (T := TX2) (N := 20) hx hb hg inG2 hown hK hP i_421.1 hM_438 rfl 18 (by decide) (hg _ wd_378) (fun _ h9 => h9) rfl dX11_leaf_79 ?_
                obtain ⟨v444_0, v444_1, v444_2, hM444, h444_0⟩ := hW.open_10 i_431
                have hPc : va_P D vwCl ([] ++ va_pl L M_436) H_435 := hP.part (cx := []) [] rfl
                have hDc : va_D A ([] ++ va_pl L M_436) := hD.part (cx := []) [] (by decide) rfl
                have hFc : ∀ q, va_A ([] ++ va_pl L M_436) H_435.size q → A q := pg_free hDc hS hA
                have hI_445 : (0 : Int) ≤ (k3 : Int32).toInt := inltI rfl rfl c_20
                have hI_446 : (k3 : Int32).toInt < (3 : Int) := inleI rfl rfl c_26
                have hI_447 : (0 : Int) ≤ (k2 : Int32).toInt := inltI rfl rfl c_47
                have hI_448 : (k2 : Int32).toInt ≤ (999 : Int) := inltI rfl rfl c_48
                refine va_callv (va_runV (As := []) (rest := []) ⟨hx, hb, hml, hown, hg⟩ (e_clear l D cy K L M_436 H_435.size v11_18 (va_up (va_up Bo e0_385 (b_5, (k2 : Int32).toNatClampNeg)) q_379 (b_5, (k2 : Int32).toNatClampNeg)) M0 b_5 (cfx M b_5) (va_up (va_up (va_up (va_up (cax M b_5) 2 (upd ((cax M b_5) 2) (k2 : Int32).toNatClampNeg (plN M_410 (some q_379)))) 3 (upd ((cax M b_5) 3) (k2 : Int32).toNatClampNeg (lfN 2 M_410 (some q_379)))) 4 (upd ((cax M b_5) 4) (k2 : Int32).toNatClampNeg (lfN 0 M_410 (some q_379)))) 60 (fun z => if z % 1000 = (k2 : Int32).toNatClampNeg then etN M_410 (some q_379) (z / 1000) else ((cax M b_5) 60) z))  hW i_431 i_421 hV (rA_of (j := 18) hM_438 rfl)) (cwV 0 hg (gV wd_379 wd_380 wd_381 wd_114 wd_382) rfl rfl rfl (by decide +kernel) ⟨(Nat.le_trans (Nat.le_of_ble_eq_true rfl) hRf), (Nat.le_trans (Nat.le_of_ble_eq_true rfl) hRl)⟩) ⟨PG.blind, pg_recv hK hP i_431.1 hM444 rfl, fun U hU hW => ⟨rfl, PG.at hPc hK hDc hN hU hW⟩⟩ rfl rfl hl.1 rfl (lv_room (Nat.le_of_ble_eq_true rfl)) dX11_leaf_82 ⟨(Nat.le_trans (Nat.le_of_ble_eq_true rfl) hRc), (Nat.le_trans (Nat.le_of_ble_eq_true rfl) hRs)⟩) hS (fun q _ h => hFc q h) hFc (fun M_451 t H_449 locs ht hvm hw hB hz1 hk1 hS => ?_)
                have hWb := hW
                obtain ⟨hW, hF2, gT10, hVP, hp_452⟩ := hw
                obtain ⟨hP1, hD1⟩ := hB
                rw [ht] at hP1
                obtain ⟨hP, hD⟩ := va_joinP (X := [(xa, (b11_1 x0 (nI x1) x2 (nI x3) x4 x5 x6 x7 x8 x9 x10))]) (cx := []) (wr := [(xa, (b11_1 x0 (nI x1) x2 (nI x3) x4 x5 x6 x7 x8 x9 x10))]) (rx := []) (pl := va_pl L M_436) (pl1 := va_pl L M_451) hP hD [] [0] rfl rfl (by decide) (by decide) hk1 hFc hP1 hD1
                have hP : va_P D vwCl ([(xa, (b11_1 x0 (nI x1) x2 (nI x3) x4 x5 x6 x7 x8 x9 x10))] ++ va_pl L M_451) H_449 := hP
                have hD : va_D A ([(xa, (b11_1 x0 (nI x1) x2 (nI x3) x4 x5 x6 x7 x8 x9 x10))] ++ va_pl L M_451) := hD
                have hM_453 : M_451 v11_12 = .inl (cy 18, 1000, .inr (.inr (.inr (.inr (f_441))))) := (hF2.at i_427 (by decide)).trans hM_437
                have hM_454 : M_451 b_5 = (b2_2 v11_0 v11_1 v11_2 v11_3 (nI v11_4) (nI v11_5) v11_6 v11_7 v11_8 (nI v11_9) v11_10 (nI v11_11) v11_12 v11_13 v11_14 v11_15 v11_16 v11_17 v11_18 v11_19) := (hF2.at i_421 (by decide)).trans hM_438
                have hM_455 : M_451 e0_385 = .inl (cy 14, 4, .inl (fun _ => 0)) := (hF2.at i_433 (by decide)).trans hM_439
                have hM_456 : M_451 q_379 = (b3_3 k3 e0_385 (nI 0)) := (hF2.at i_411 (by decide)).trans hM_440
                have hF : fr K0 L0 [10, 18] M0 M_451 := hF.trX hX0 hF2 (by decide)
                have hT10 : fT 10 K0 L0 [1, 2] M0 M_451 := hT10.trX hX0 gT10 (by decide)
                have hV : VC (va_up (va_up Bo e0_385 (b_5, (k2 : Int32).toNatClampNeg)) q_379 (b_5, (k2 : Int32).toNatClampNeg)) K L M0 M_451 b_5 (va_up (va_up (cfx M b_5) 19 (0 : Int)) 16 (0 : Int)) (va_up (va_up (va_up (va_up (cax M b_5) 2 (upd ((cax M b_5) 2) (k2 : Int32).toNatClampNeg (plN M_410 (some q_379)))) 3 (upd ((cax M b_5) 3) (k2 : Int32).toNatClampNeg (lfN 2 M_410 (some q_379)))) 4 (upd ((cax M b_5) 4) (k2 : Int32).toNatClampNeg (lfN 0 M_410 (some q_379)))) 60 (fun z => if z % 1000 = (k2 : Int32).toNatClampNeg then etN M_410 (some q_379) (z / 1000) else ((cax M b_5) 60) z)) := hVP
                refine lv_aload_n hx hb dX11_leaf_85 rfl (lv_at hl 1 rfl) ?_
                refine lv_iload hx hb dX11_leaf_86 (lv_at hl 5 rfl) ?_
                have hPc := hP.sub (ws' := [(xa, (b11_1 x0 (nI x1) x2 (nI x3) x4 x5 x6 x7 x8 x9 x10))]) [0] rfl
                have hDc := hD.sub (ws' := [(xa, (b11_1 x0 (nI x1) x2 (nI x3) x4 x5 x6 x7 x8 x9 x10))]) [0] (by decide) rfl
                have hKc := hK.sub (tys' := []) [] rfl
                have hFc := va_free (wc := [(xa, (b11_1 x0 (nI x1) x2 (nI x3) x4 x5 x6 x7 x8 x9 x10))]) hD hS hA [0] rfl
                refine va_calli (va_runV (As := [.int 4]) (rest := []) ⟨hx, hb, hml, hown, hg⟩ (k_accept l D H_449.size xa x0 (nI x1) x2 (nI x3) x4 x5 x6 x7 x8 x9 x10 4) (cwV 1 hg (gV wd_356 wd_357 wd_358 wd_3 wd_359) rfl rfl rfl (by decide +kernel) ⟨(Nat.le_trans (Nat.le_of_ble_eq_true rfl) hRf), (Nat.le_trans (Nat.le_of_ble_eq_true rfl) hRl)⟩) ⟨Pr.blind, va_recv hK hP (ci := 11) (q0 := 0) rfl rfl, fun U hU hW => ⟨rfl, Pr.at hPc hKc hDc hN hU hW⟩⟩ rfl rfl hl.1 rfl (lv_room (Nat.le_of_ble_eq_true rfl)) dX11_leaf_88 ⟨(Nat.le_trans (Nat.le_of_ble_eq_true rfl) hRc), (Nat.le_trans (Nat.le_of_ble_eq_true rfl) hRs)⟩) hS (fun q _ h => hFc q h) hFc (fun r_458 M_459 t H_457 locs ht hvm hw hB hz1 hk1 hS => ?_)
                have hp_460 := hw
                obtain ⟨hP1, hK1, hD1⟩ := hB
                rw [ht] at hP1
                obtain ⟨hP, hD⟩ := va_joinQ (X := [(xa, (b11_1 x0 (nI x1) x2 (nI x3) x4 x5 x6 x7 x8 x9 x10))]) (cx := [(xa, (b11_1 x0 (nI x1) x2 (nI x3) x4 x5 x6 x7 x8 x9 x10))]) (wr := []) (w1 := [(xa, (b11_1 x0 (nI x1) x2 (nI x3) x4 x5 x6 x7 x8 0 (-1)))]) (pl := va_pl L M_451) hP hD [0] [] rfl rfl (by decide) (by decide) hk1 hFc hP1 hD1
                have hP : va_P D vwCl ([(xa, (b11_1 x0 (nI x1) x2 (nI x3) x4 x5 x6 x7 x8 0 (-1)))] ++ va_pl L M_451) H_457 := hP
                have hD : va_D A ([(xa, (b11_1 x0 (nI x1) x2 (nI x3) x4 x5 x6 x7 x8 0 (-1)))] ++ va_pl L M_451) := hD
                have hq := Eq.symm hp_460
                subst hq
                refine W.widen (k := 2) (n := 9) (Nat.le_of_ble_eq_true rfl) (Nat.le_of_ble_eq_true rfl) ?_
                have hyes : okLf x1 SX k1 k2 k3 4 := by unfold okLf okH; refine ⟨⟨?_, ?_⟩, ?_, ?_, ?_, ?_, ?_, ?_⟩ <;> first | omega | assumption | decide
                have hpl1 : plN M_410 (some q_379) = 4 := by show nI (ALc (M_410 (rA 3 M_410 q_379 1))) = _; rw [rA_of (j := 1) hM_412 rfl, hM_414]; rfl
                have hpl2 : lfN 2 M_410 (some q_379) = 0 := cV_of (j := 2) hM_412 rfl
                have hpl3 : lfN 0 M_410 (some q_379) = k3 := cV_of (j := 0) hM_412 rfl
                rw [hpl1, hpl2, hpl3] at hV
                rw [hQ]
                exact W.iret (v := 4) hx hb hr (fun t ht hW9 => ⟨⟨4, (K, L, M_451), rfl, ⟨hX0, hW, hF, hT10, (by unfold anLf; rw [if_pos hyes])⟩, ⟨0, (⟨_, by unfold sxLf syLf; rw [if_pos hyes, if_pos hyes]; have hZ := hC00.fin hW00 i000 b1 hkn hb90 hV hX0 (by rw [hF.at i000 (by decide)]) (fun q iq => ⟨hp4 q iq, cR_c (fr.cv hF (by decide) q (hp4 q iq) 3 rfl)⟩) ((((hSM.leaf (d := k2.toNatClampNeg) (p := 4) (c := 0) (s := k3) (s' := k3) (fun _ => rfl) (by decide)).clr hT.1).up1)); exact hZ⟩), by rw [ht]; exact hP, hD⟩⟩, hS.F ht⟩) hS.2.2 dX11_leaf_91
              · have hz := rfl (a := 0)
                refine va_new (ci := 3) (fs := [.int 0, .null, .int 0]) (C := RX3) (T := TX3) (N := 3) hx hb hg inG3 tyX3 tyX3_ok hown (hg _ wd_592) (hg _ wd_593) (hg _ wd_39) hK hP hD hS hA rfl dfX3 (Nat.le_trans (Nat.le_of_ble_eq_true rfl) hRc) (Nat.le_trans (Nat.le_of_ble_eq_true rfl) hRs) dX11_leaf_66 (fun q_461 H_462 hP hD hS => ?_)
                have hP : va_P D vwCl ([(xa, (b11_1 x0 (nI x1) x2 (nI x3) x4 x5 x6 x7 x8 x9 x10)), (q_461, (b3_5 0 0))] ++ va_pl L M) H_462 := hP.swap
                have hD : va_D A ([(xa, (b11_1 x0 (nI x1) x2 (nI x3) x4 x5 x6 x7 x8 x9 x10)), (q_461, (b3_5 0 0))] ++ va_pl L M) := hD.swap
                refine W.widen (k := 1) (n := 3) (Nat.le_of_ble_eq_true rfl) (Nat.le_of_ble_eq_true rfl) ?_
                refine lv_dup hx hb dX11_leaf_69 rfl ?_
                refine lv_iload_n hx hb dX11_leaf_70 rfl (lv_at hl 4 rfl) ?_
                refine lv_iload hx hb dX11_leaf_71 (lv_at hl 5 rfl) ?_
                have hPc := hP.sub (ws' := [(q_461, (b3_5 0 0))]) [1] rfl
                have hDc := hD.sub (ws' := [(q_461, (b3_5 0 0))]) [1] (by decide) rfl
                have hKc := hK.sub (tys' := []) [] rfl
                have hFc := va_free (wc := [(q_461, (b3_5 0 0))]) hD hS hA [1] rfl
                refine va_callv (va_runI (As := [.int k3, .int 5]) (rest := [.ref q_461, .int k2, .ref v11_12]) ⟨hx, hb, hml, hown, hg⟩ (k_Leaf_5 l D H_462.size q_461 k3) (cwI 2 hg (gB wd_594) rfl rfl rfl (hg _ wd_39) (hg _ wd_595) (hg _ wd_596) rfl (by decide +kernel) ⟨(Nat.le_trans (Nat.le_of_ble_eq_true rfl) hRf), (Nat.le_trans (Nat.le_of_ble_eq_true rfl) hRl)⟩) ⟨Pr.blind, fun U hU hW => ⟨rfl, Pr.at hPc hKc hDc hN hU hW⟩⟩ rfl rfl hl.1 rfl (lv_room (Nat.le_of_ble_eq_true rfl)) dX11_leaf_73 ⟨(Nat.le_trans (Nat.le_of_ble_eq_true rfl) hRc), (Nat.le_trans (Nat.le_of_ble_eq_true rfl) hRs)⟩) hS (fun q _ h => hFc q h) hFc (fun M_465 t H_463 locs ht hvm hw hB hz1 hk1 hS => ?_)
                have hp_466 := hw
                obtain ⟨e0_467, c0_468, hP1, hK1, hD1⟩ := hB
                rw [ht] at hP1
                have hK1 := va_K.moved hvm.symm hK1
                obtain ⟨hP, hD⟩ := va_joinQ (X := [(xa, (b11_1 x0 (nI x1) x2 (nI x3) x4 x5 x6 x7 x8 x9 x10)), (q_461, (b3_5 0 0))]) (cx := [(q_461, (b3_5 0 0))]) (wr := [(xa, (b11_1 x0 (nI x1) x2 (nI x3) x4 x5 x6 x7 x8 x9 x10))]) (w1 := [(q_461, (b3_3 k3 e0_467 0)), (e0_467, .inl (c0_468, 5, .inl (fun _ => 0)))]) (pl := va_pl L M) hP hD [1] [0] rfl rfl (by decide) (by decide) hk1 hFc hP1 hD1
                have hP : va_P D vwCl ([(xa, (b11_1 x0 (nI x1) x2 (nI x3) x4 x5 x6 x7 x8 x9 x10)), (q_461, (b3_3 k3 e0_467 0)), (e0_467, .inl (c0_468, 5, .inl (fun _ => 0)))] ++ va_pl L M) H_463 := hP
                have hD : va_D A ([(xa, (b11_1 x0 (nI x1) x2 (nI x3) x4 x5 x6 x7 x8 x9 x10)), (q_461, (b3_3 k3 e0_467 0)), (e0_467, .inl (c0_468, 5, .inl (fun _ => 0)))] ++ va_pl L M) := hD
                have hK2 := hK.app hK1
                obtain rfl : c0_468 = cy 14 := cls_eq hK2 10 0 rfl rfl
                refine W.widen (k := 2) (n := 8) (Nat.le_of_ble_eq_true rfl) (Nat.le_of_ble_eq_true rfl) ?_
                have hP : va_P D vwCl (([(xa, (b11_1 x0 (nI x1) x2 (nI x3) x4 x5 x6 x7 x8 x9 x10)), (q_461, (b3_3 k3 e0_467 0))] ++ [(zrI cy 14 e0_467 5)]) ++ va_pl L M) H_463 := hP.part (cx := [(xa, (b11_1 x0 (nI x1) x2 (nI x3) x4 x5 x6 x7 x8 x9 x10)), (q_461, (b3_3 k3 e0_467 0))] ++ [(zrI cy 14 e0_467 5)]) [0, 1, 2] rfl
                have hD : va_D A (([(xa, (b11_1 x0 (nI x1) x2 (nI x3) x4 x5 x6 x7 x8 x9 x10)), (q_461, (b3_3 k3 e0_467 0))] ++ [(zrI cy 14 e0_467 5)]) ++ va_pl L M) := hD.part (cx := [(xa, (b11_1 x0 (nI x1) x2 (nI x3) x4 x5 x6 x7 x8 x9 x10)), (q_461, (b3_3 k3 e0_467 0))] ++ [(zrI cy 14 e0_467 5)]) [0, 1, 2] (by decide) rfl
                have hWa := hW
                obtain ⟨K9, L9, M_469, hx9, i_470, hW, hP, hD, hM_471, hfr9, hq9, hm9⟩ := adoptE2 53 5 hP hD hW (fun K' L' x i => (⟨_, rfl⟩ : gd_53 cy K' L' 5 _))
                have hn9 : ∀ b, isk K9 L9 b 2 0 → isk K L b 2 0 := fun b hb => (hm9 b hb.1).elim (fun z => absurd (hb.un (show isk K9 L9 b 53 5 by rw [z]; exact i_470)) (by decide)) (fun z => ⟨z, ((hx9 b z).2).symm.trans hb.2⟩)
                have ho9 : ∀ b, isk K9 L9 b 4 0 → isk K L b 4 0 := fun b hb => (hm9 b hb.1).elim (fun z => absurd (hb.un (show isk K9 L9 b 53 5 by rw [z]; exact i_470)) (by decide)) (fun z => ⟨z, ((hx9 b z).2).symm.trans hb.2⟩)
                have hV : VC (va_up Bo e0_467 (b_5, (k2 : Int32).toNatClampNeg)) K9 L9 M0 M_469 b_5 (cfx M b_5) (cax M b_5) := hV.ad (b_5, (k2 : Int32).toNatClampNeg) hWa hb_10 hx9 hfr9 hq9 hn9
                have hp4 : ∀ q, isk K9 L9 q 4 0 → isk K0 L0 q 4 0 := fun q iq => hp4 q (ho9 q iq)
                have hq0e0_467 : e0_467 ∉ L0 := fun z => hq9 (hX0 _ z).1
                have hM_473 : M_469 b_5 = (b2_2 v11_0 v11_1 v11_2 v11_3 (nI v11_4) (nI v11_5) v11_6 v11_7 v11_8 (nI v11_9) v11_10 (nI v11_11) v11_12 v11_13 v11_14 v11_15 v11_16 v11_17 v11_18 v11_19) := (hfr9 _ hb_10.1).trans hM11
                have hF : fr K0 L0 [10, 18] M0 M_469 := hF.adX hX0 hfr9
                have hT10 : fT 10 K0 L0 [1, 2] M0 M_469 := hT10.adX hX0 hfr9
                have hX0 := hX0.tr hx9
                have i_474 := i0.ext hx9
                have i_475 := i2.ext hx9
                have i_476 := i4.ext hx9
                have i_477 := i5.ext hx9
                have i_478 := i6.ext hx9
                have i_479 := i8.ext hx9
                have i_480 := hb_10.ext hx9
                have i_481 := h11_3.ext hx9
                have i_482 := h11_6.ext hx9
                have i_483 := h11_7.ext hx9
                have i_484 := h11_8.ext hx9
                have i_485 := h11_10.ext hx9
                have i_486 := h11_12.ext hx9
                have i_487 := h11_13.ext hx9
                have i_488 := h11_16.ext hx9
                have i_489 := h11_17.ext hx9
                have i_490 := h11_18.ext hx9
                have i_491 := h11_19.ext hx9
                obtain ⟨K, L, hK9, hL9⟩ : ∃ (K : Kp) (L : List Nat), K = K9 ∧ L = L9 := ⟨_, _, rfl, rfl⟩
                subst hK9
                subst hL9
                have hP : va_P D vwCl ([(xa, (b11_1 x0 (nI x1) x2 (nI x3) x4 x5 x6 x7 x8 x9 x10)), (q_461, (b3_3 k3 e0_467 0))] ++ va_pl L M_469) H_463 := hP
                have hD : va_D A ([(xa, (b11_1 x0 (nI x1) x2 (nI x3) x4 x5 x6 x7 x8 x9 x10)), (q_461, (b3_3 k3 e0_467 0))] ++ va_pl L M_469) := hD
                have hP : va_P D vwCl (([(xa, (b11_1 x0 (nI x1) x2 (nI x3) x4 x5 x6 x7 x8 x9 x10))] ++ [(q_461, (b3_3 k3 e0_467 0))]) ++ va_pl L M_469) H_463 := hP.part (cx := [(xa, (b11_1 x0 (nI x1) x2 (nI x3) x4 x5 x6 x7 x8 x9 x10))] ++ [(q_461, (b3_3 k3 e0_467 0))]) [0, 1] rfl
                have hD : va_D A (([(xa, (b11_1 x0 (nI x1) x2 (nI x3) x4 x5 x6 x7 x8 x9 x10))] ++ [(q_461, (b3_3 k3 e0_467 0))]) ++ va_pl L M_469) := hD.part (cx := [(xa, (b11_1 x0 (nI x1) x2 (nI x3) x4 x5 x6 x7 x8 x9 x10))] ++ [(q_461, (b3_3 k3 e0_467 0))]) [0, 1] (by decide) rfl
                have hWa := hW
                obtain ⟨K9, L9, M_492, hx9, i_493, hW, hP, hD, hM_494, hfr9, hq9, hm9⟩ := adoptE2 3 0 hP hD hW (fun K' L' x i => (⟨5, k3, e0_467, 0, rfl, i_470.ext x, (by omega), (by decide)⟩ : gd_3 K' L' _))
                have hn9 : ∀ b, isk K9 L9 b 2 0 → isk K L b 2 0 := fun b hb => (hm9 b hb.1).elim (fun z => absurd (hb.un (show isk K9 L9 b 3 0 by rw [z]; exact i_493)) (by decide)) (fun z => ⟨z, ((hx9 b z).2).symm.trans hb.2⟩)
                have ho9 : ∀ b, isk K9 L9 b 4 0 → isk K L b 4 0 := fun b hb => (hm9 b hb.1).elim (fun z => absurd (hb.un (show isk K9 L9 b 3 0 by rw [z]; exact i_493)) (by decide)) (fun z => ⟨z, ((hx9 b z).2).symm.trans hb.2⟩)
                have hV : VC (va_up (va_up Bo e0_467 (b_5, (k2 : Int32).toNatClampNeg)) q_461 (b_5, (k2 : Int32).toNatClampNeg)) K9 L9 M0 M_492 b_5 (cfx M b_5) (cax M b_5) := hV.ad (b_5, (k2 : Int32).toNatClampNeg) hWa i_480 hx9 hfr9 hq9 hn9
                have hp4 : ∀ q, isk K9 L9 q 4 0 → isk K0 L0 q 4 0 := fun q iq => hp4 q (ho9 q iq)
                have hq0q_461 : q_461 ∉ L0 := fun z => hq9 (hX0 _ z).1
                have hM_495 : M_492 b_5 = (b2_2 v11_0 v11_1 v11_2 v11_3 (nI v11_4) (nI v11_5) v11_6 v11_7 v11_8 (nI v11_9) v11_10 (nI v11_11) v11_12 v11_13 v11_14 v11_15 v11_16 v11_17 v11_18 v11_19) := (hfr9 _ i_480.1).trans hM_473
                have hM_496 : M_492 e0_467 = .inl (cy 14, 5, .inl (fun _ => 0)) := (hfr9 _ i_470.1).trans hM_471
                have hF : fr K0 L0 [10, 18] M0 M_492 := hF.adX hX0 hfr9
                have hT10 : fT 10 K0 L0 [1, 2] M0 M_492 := hT10.adX hX0 hfr9
                have hX0 := hX0.tr hx9
                have i_497 := i_474.ext hx9
                have i_498 := i_475.ext hx9
                have i_499 := i_476.ext hx9
                have i_500 := i_477.ext hx9
                have i_501 := i_478.ext hx9
                have i_502 := i_479.ext hx9
                have i_503 := i_480.ext hx9
                have i_504 := i_481.ext hx9
                have i_505 := i_482.ext hx9
                have i_506 := i_483.ext hx9
                have i_507 := i_484.ext hx9
                have i_508 := i_485.ext hx9
                have i_509 := i_486.ext hx9
                have i_510 := i_487.ext hx9
                have i_511 := i_488.ext hx9
                have i_512 := i_489.ext hx9
                have i_513 := i_490.ext hx9
                have i_514 := i_491.ext hx9
                have i_515 := i_470.ext hx9
                obtain ⟨K, L, hK9, hL9⟩ : ∃ (K : Kp) (L : List Nat), K = K9 ∧ L = L9 := ⟨_, _, rfl, rfl⟩
                subst hK9
                subst hL9
                have hP : va_P D vwCl ([(xa, (b11_1 x0 (nI x1) x2 (nI x3) x4 x5 x6 x7 x8 x9 x10))] ++ va_pl L M_492) H_463 := hP
                have hD : va_D A ([(xa, (b11_1 x0 (nI x1) x2 (nI x3) x4 x5 x6 x7 x8 x9 x10))] ++ va_pl L M_492) := hD
                obtain ⟨f516, hM516, hf516⟩ := hW.open_18 i_509
                refine pg_astq (r := (RX3, TX3, 3)) hx hb hK hP hD hS i_509.1 4 3 hM516 rfl i_493.1 hM_494 rfl (inbE k2 999 1000 (by decide) (by decide) c_47 (Int32.not_lt.mp c_48)) dX11_leaf_76 (fun H_517 locs hP hD hS => ?_)
                obtain ⟨M_518, eM_518⟩ : ∃ M1 : Hp, M1 = va_up M_492 v11_12 (.inl (cy 18, 1000, .inr (.inr (.inr (.inr (va_up f516 (k2 : Int32).toNatClampNeg (some q_461))))))) := ⟨_, rfl⟩
                have sM_518 : M_518 = sR M_492 v11_12 (k2 : Int32).toNatClampNeg (some q_461) := eM_518.trans (sR_of hM516)
                have hV : VC (va_up (va_up Bo e0_467 (b_5, (k2 : Int32).toNatClampNeg)) q_461 (b_5, (k2 : Int32).toNatClampNeg)) K L M0 M_518 b_5 (cfx M b_5) (va_up (va_up (va_up (va_up (cax M b_5) 2 (upd ((cax M b_5) 2) (k2 : Int32).toNatClampNeg (plN M_492 (some q_461)))) 3 (upd ((cax M b_5) 3) (k2 : Int32).toNatClampNeg (lfN 2 M_492 (some q_461)))) 4 (upd ((cax M b_5) 4) (k2 : Int32).toNatClampNeg (lfN 0 M_492 (some q_461)))) 60 (fun z => if z % 1000 = (k2 : Int32).toNatClampNeg then etN M_492 (some q_461) (z / 1000) else ((cax M b_5) 60) z)) := by rw [sM_518]; exact VC.r_lv hV hW i_503 (vp_lt (inbE k2 999 1000 (by decide) (by decide) c_47 (Int32.not_lt.mp c_48))) (rA_of (j := 12) hM_495 rfl) hM516 (fun q9 z9 => by cases z9; exact ⟨va_up_self _ _ _, by rw [rA_of (j := 1) hM_494 rfl, va_up_ne _ _ (i_515.neT i_493 (by decide))]; exact va_up_self _ _ _⟩)
                have hP : va_P D vwCl ([(xa, (b11_1 x0 (nI x1) x2 (nI x3) x4 x5 x6 x7 x8 x9 x10))] ++ va_pl L M_518) H_517 := by rw [eM_518]; exact hP
                have hD : va_D A ([(xa, (b11_1 x0 (nI x1) x2 (nI x3) x4 x5 x6 x7 x8 x9 x10))] ++ va_pl L M_518) := by rw [eM_518]; exact hD
                have hW : WOK cy K L M_518 := by rw [eM_518]; exact hW.up_18 i_509 ⟨_, rfl, (upN hf516 i_493)⟩
                have hF : fr K0 L0 [10, 18] M0 M_518 := by rw [eM_518]; exact hF.upX hX0 i_509 (by decide)
                have hT10 : fT 10 K0 L0 [1, 2] M0 M_518 := by rw [eM_518]; exact hT10.neX hX0 i_509 (by decide)
                have hM_519 : M_518 v11_12 = .inl (cy 18, 1000, .inr (.inr (.inr (.inr (va_up f516 (k2 : Int32).toNatClampNeg (some q_461)))))) := by rw [eM_518]; exact va_up_self _ _ _
                have hM_520 : M_518 b_5 = (b2_2 v11_0 v11_1 v11_2 v11_3 (nI v11_4) (nI v11_5) v11_6 v11_7 v11_8 (nI v11_9) v11_10 (nI v11_11) v11_12 v11_13 v11_14 v11_15 v11_16 v11_17 v11_18 v11_19) := by rw [eM_518, va_up_ne _ _ (i_503.neT i_509 (by decide))]; exact hM_495
                have hM_521 : M_518 e0_467 = .inl (cy 14, 5, .inl (fun _ => 0)) := by rw [eM_518, va_up_ne _ _ (i_515.neT i_509 (by decide))]; exact hM_496
                have hM_522 : M_518 q_461 = (b3_3 k3 e0_467 (nI 0)) := by rw [eM_518, va_up_ne _ _ (i_493.neT i_509 (by decide))]; exact hM_494
                have hf_524 : ∀ j, j < 1000 → iskN K L ((va_up f516 (k2 : Int32).toNatClampNeg (some q_461)) j) 3 0 := (upN hf516 i_493)
                obtain ⟨f_523, ef_523⟩ : ∃ f : Nat → Option Nat, f = va_up f516 (k2 : Int32).toNatClampNeg (some q_461) := ⟨_, rfl⟩
                rw [← ef_523] at hM_519 hf_524
                have hk_525 : f_523 (k2 : Int32).toNatClampNeg = some q_461 := by rw [ef_523]; exact va_up_self _ _ _
                clear ef_523
                refine lv_aload hx hb dX11_leaf_77 (lv_at hl 0 rfl) ?_
                refine pg_get (D := D) (ci := 2) (v := .ref v11_18) (C := RX2) (T := TX2) (N := 20) hx hb hg inG2 hown hK hP i_503.1 hM_520 rfl 18 (by decide) (hg _ wd_378) (fun _ h9 => h9) rfl dX11_leaf_79 ?_
                obtain ⟨v526_0, v526_1, v526_2, hM526, h526_0⟩ := hW.open_10 i_513
                have hPc : va_P D vwCl ([] ++ va_pl L M_518) H_517 := hP.part (cx := []) [] rfl
                have hDc : va_D A ([] ++ va_pl L M_518) := hD.part (cx := []) [] (by decide) rfl
                have hFc : ∀ q, va_A ([] ++ va_pl L M_518) H_517.size q → A q := pg_free hDc hS hA
                have hI_527 : (0 : Int) ≤ (k3 : Int32).toInt := inltI rfl rfl c_20
                have hI_528 : (k3 : Int32).toInt < (3 : Int) := inleI rfl rfl c_26
                have hI_529 : (0 : Int) ≤ (k2 : Int32).toInt := inltI rfl rfl c_47
                have hI_530 : (k2 : Int32).toInt ≤ (999 : Int) := inltI rfl rfl c_48
                refine va_callv (va_runV (As := []) (rest := []) ⟨hx, hb, hml, hown, hg⟩ (e_clear l D cy K L M_518 H_517.size v11_18 (va_up (va_up Bo e0_467 (b_5, (k2 : Int32).toNatClampNeg)) q_461 (b_5, (k2 : Int32).toNatClampNeg)) M0 b_5 (cfx M b_5) (va_up (va_up (va_up (va_up (cax M b_5) 2 (upd ((cax M b_5) 2) (k2 : Int32).toNatClampNeg (plN M_492 (some q_461)))) 3 (upd ((cax M b_5) 3) (k2 : Int32).toNatClampNeg (lfN 2 M_492 (some q_461)))) 4 (upd ((cax M b_5) 4) (k2 : Int32).toNatClampNeg (lfN 0 M_492 (some q_461)))) 60 (fun z => if z % 1000 = (k2 : Int32).toNatClampNeg then etN M_492 (some q_461) (z / 1000) else ((cax M b_5) 60) z))  hW i_513 i_503 hV (rA_of (j := 18) hM_520 rfl)) (cwV 0 hg (gV wd_379 wd_380 wd_381 wd_114 wd_382) rfl rfl rfl (by decide +kernel) ⟨(Nat.le_trans (Nat.le_of_ble_eq_true rfl) hRf), (Nat.le_trans (Nat.le_of_ble_eq_true rfl) hRl)⟩) ⟨PG.blind, pg_recv hK hP i_513.1 hM526 rfl, fun U hU hW => ⟨rfl, PG.at hPc hK hDc hN hU hW⟩⟩ rfl rfl hl.1 rfl (lv_room (Nat.le_of_ble_eq_true rfl)) dX11_leaf_82 ⟨(Nat.le_trans (Nat.le_of_ble_eq_true rfl) hRc), (Nat.le_trans (Nat.le_of_ble_eq_true rfl) hRs)⟩) hS (fun q _ h => hFc q h) hFc (fun M_533 t H_531 locs ht hvm hw hB hz1 hk1 hS => ?_)
                have hWb := hW
                obtain ⟨hW, hF2, gT10, hVP, hp_534⟩ := hw
                obtain ⟨hP1, hD1⟩ := hB
                rw [ht] at hP1
                obtain ⟨hP, hD⟩ := va_joinP (X := [(xa, (b11_1 x0 (nI x1) x2 (nI x3) x4 x5 x6 x7 x8 x9 x10))]) (cx := []) (wr := [(xa, (b11_1 x0 (nI x1) x2 (nI x3) x4 x5 x6 x7 x8 x9 x10))]) (rx := []) (pl := va_pl L M_518) (pl1 := va_pl L M_533) hP hD [] [0] rfl rfl (by decide) (by decide) hk1 hFc hP1 hD1
                have hP : va_P D vwCl ([(xa, (b11_1 x0 (nI x1) x2 (nI x3) x4 x5 x6 x7 x8 x9 x10))] ++ va_pl L M_533) H_531 := hP
                have hD : va_D A ([(xa, (b11_1 x0 (nI x1) x2 (nI x3) x4 x5 x6 x7 x8 x9 x10))] ++ va_pl L M_533) := hD
                have hM_535 : M_533 v11_12 = .inl (cy 18, 1000, .inr (.inr (.inr (.inr (f_523))))) := (hF2.at i_509 (by decide)).trans hM_519
                have hM_536 : M_533 b_5 = (b2_2 v11_0 v11_1 v11_2 v11_3 (nI v11_4) (nI v11_5) v11_6 v11_7 v11_8 (nI v11_9) v11_10 (nI v11_11) v11_12 v11_13 v11_14 v11_15 v11_16 v11_17 v11_18 v11_19) := (hF2.at i_503 (by decide)).trans hM_520
                have hM_537 : M_533 e0_467 = .inl (cy 14, 5, .inl (fun _ => 0)) := (hF2.at i_515 (by decide)).trans hM_521
                have hM_538 : M_533 q_461 = (b3_3 k3 e0_467 (nI 0)) := (hF2.at i_493 (by decide)).trans hM_522
                have hF : fr K0 L0 [10, 18] M0 M_533 := hF.trX hX0 hF2 (by decide)
                have hT10 : fT 10 K0 L0 [1, 2] M0 M_533 := hT10.trX hX0 gT10 (by decide)
                have hV : VC (va_up (va_up Bo e0_467 (b_5, (k2 : Int32).toNatClampNeg)) q_461 (b_5, (k2 : Int32).toNatClampNeg)) K L M0 M_533 b_5 (va_up (va_up (cfx M b_5) 19 (0 : Int)) 16 (0 : Int)) (va_up (va_up (va_up (va_up (cax M b_5) 2 (upd ((cax M b_5) 2) (k2 : Int32).toNatClampNeg (plN M_492 (some q_461)))) 3 (upd ((cax M b_5) 3) (k2 : Int32).toNatClampNeg (lfN 2 M_492 (some q_461)))) 4 (upd ((cax M b_5) 4) (k2 : Int32).toNatClampNeg (lfN 0 M_492 (some q_461)))) 60 (fun z => if z % 1000 = (k2 : Int32).toNatClampNeg then etN M_492 (some q_461) (z / 1000) else ((cax M b_5) 60) z)) := hVP
                refine lv_aload_n hx hb dX11_leaf_85 rfl (lv_at hl 1 rfl) ?_
                refine lv_iload hx hb dX11_leaf_86 (lv_at hl 5 rfl) ?_
                have hPc := hP.sub (ws' := [(xa, (b11_1 x0 (nI x1) x2 (nI x3) x4 x5 x6 x7 x8 x9 x10))]) [0] rfl
                have hDc := hD.sub (ws' := [(xa, (b11_1 x0 (nI x1) x2 (nI x3) x4 x5 x6 x7 x8 x9 x10))]) [0] (by decide) rfl
                have hKc := hK.sub (tys' := []) [] rfl
                have hFc := va_free (wc := [(xa, (b11_1 x0 (nI x1) x2 (nI x3) x4 x5 x6 x7 x8 x9 x10))]) hD hS hA [0] rfl
                refine va_calli (va_runV (As := [.int 5]) (rest := []) ⟨hx, hb, hml, hown, hg⟩ (k_accept l D H_531.size xa x0 (nI x1) x2 (nI x3) x4 x5 x6 x7 x8 x9 x10 5) (cwV 1 hg (gV wd_356 wd_357 wd_358 wd_3 wd_359) rfl rfl rfl (by decide +kernel) ⟨(Nat.le_trans (Nat.le_of_ble_eq_true rfl) hRf), (Nat.le_trans (Nat.le_of_ble_eq_true rfl) hRl)⟩) ⟨Pr.blind, va_recv hK hP (ci := 11) (q0 := 0) rfl rfl, fun U hU hW => ⟨rfl, Pr.at hPc hKc hDc hN hU hW⟩⟩ rfl rfl hl.1 rfl (lv_room (Nat.le_of_ble_eq_true rfl)) dX11_leaf_88 ⟨(Nat.le_trans (Nat.le_of_ble_eq_true rfl) hRc), (Nat.le_trans (Nat.le_of_ble_eq_true rfl) hRs)⟩) hS (fun q _ h => hFc q h) hFc (fun r_540 M_541 t H_539 locs ht hvm hw hB hz1 hk1 hS => ?_)
                have hp_542 := hw
                obtain ⟨hP1, hK1, hD1⟩ := hB
                rw [ht] at hP1
                obtain ⟨hP, hD⟩ := va_joinQ (X := [(xa, (b11_1 x0 (nI x1) x2 (nI x3) x4 x5 x6 x7 x8 x9 x10))]) (cx := [(xa, (b11_1 x0 (nI x1) x2 (nI x3) x4 x5 x6 x7 x8 x9 x10))]) (wr := []) (w1 := [(xa, (b11_1 x0 (nI x1) x2 (nI x3) x4 x5 x6 x7 x8 0 (-1)))]) (pl := va_pl L M_533) hP hD [0] [] rfl rfl (by decide) (by decide) hk1 hFc hP1 hD1
                have hP : va_P D vwCl ([(xa, (b11_1 x0 (nI x1) x2 (nI x3) x4 x5 x6 x7 x8 0 (-1)))] ++ va_pl L M_533) H_539 := hP
                have hD : va_D A ([(xa, (b11_1 x0 (nI x1) x2 (nI x3) x4 x5 x6 x7 x8 0 (-1)))] ++ va_pl L M_533) := hD
                have hq := Eq.symm hp_542
                subst hq
                refine W.widen (k := 2) (n := 9) (Nat.le_of_ble_eq_true rfl) (Nat.le_of_ble_eq_true rfl) ?_
                have hyes : okLf x1 SX k1 k2 k3 5 := by unfold okLf okH; refine ⟨⟨?_, ?_⟩, ?_, ?_, ?_, ?_, ?_, ?_⟩ <;> first | omega | assumption | decide
                have hpl1 : plN M_492 (some q_461) = 5 := by show nI (ALc (M_492 (rA 3 M_492 q_461 1))) = _; rw [rA_of (j := 1) hM_494 rfl, hM_496]; rfl
                have hpl2 : lfN 2 M_492 (some q_461) = 0 := cV_of (j := 2) hM_494 rfl
                have hpl3 : lfN 0 M_492 (some q_461) = k3 := cV_of (j := 0) hM_494 rfl
                rw [hpl1, hpl2, hpl3] at hV
                rw [hQ]
                exact W.iret (v := 5) hx hb hr (fun t ht hW9 => ⟨⟨5, (K, L, M_533), rfl, ⟨hX0, hW, hF, hT10, (by unfold anLf; rw [if_pos hyes])⟩, ⟨0, (⟨_, by unfold sxLf syLf; rw [if_pos hyes, if_pos hyes]; have hZ := hC00.fin hW00 i000 b1 hkn hb90 hV hX0 (by rw [hF.at i000 (by decide)]) (fun q iq => ⟨hp4 q iq, cR_c (fr.cv hF (by decide) q (hp4 q iq) 3 rfl)⟩) ((((hSM.leaf (d := k2.toNatClampNeg) (p := 5) (c := 0) (s := k3) (s' := k3) (fun _ => rfl) (by decide)).clr hT.1).up1)); exact hZ⟩), by rw [ht]; exact hP, hD⟩⟩, hS.F ht⟩) hS.2.2 dX11_leaf_91
              · have hz := rfl (a := 0)
                refine va_new (ci := 3) (fs := [.int 0, .null, .int 0]) (C := RX3) (T := TX3) (N := 3) hx hb hg inG3 tyX3 tyX3_ok hown (hg _ wd_592) (hg _ wd_593) (hg _ wd_39) hK hP hD hS hA rfl dfX3 (Nat.le_trans (Nat.le_of_ble_eq_true rfl) hRc) (Nat.le_trans (Nat.le_of_ble_eq_true rfl) hRs) dX11_leaf_66 (fun q_543 H_544 hP hD hS => ?_)
                have hP : va_P D vwCl ([(xa, (b11_1 x0 (nI x1) x2 (nI x3) x4 x5 x6 x7 x8 x9 x10)), (q_543, (b3_5 0 0))] ++ va_pl L M) H_544 := hP.swap
                have hD : va_D A ([(xa, (b11_1 x0 (nI x1) x2 (nI x3) x4 x5 x6 x7 x8 x9 x10)), (q_543, (b3_5 0 0))] ++ va_pl L M) := hD.swap
                refine W.widen (k := 1) (n := 3) (Nat.le_of_ble_eq_true rfl) (Nat.le_of_ble_eq_true rfl) ?_
                refine lv_dup hx hb dX11_leaf_69 rfl ?_
                refine lv_iload_n hx hb dX11_leaf_70 rfl (lv_at hl 4 rfl) ?_
                refine lv_iload hx hb dX11_leaf_71 (lv_at hl 5 rfl) ?_
                have hPc := hP.sub (ws' := [(q_543, (b3_5 0 0))]) [1] rfl
                have hDc := hD.sub (ws' := [(q_543, (b3_5 0 0))]) [1] (by decide) rfl
                have hKc := hK.sub (tys' := []) [] rfl
                have hFc := va_free (wc := [(q_543, (b3_5 0 0))]) hD hS hA [1] rfl
                refine va_callv (va_runI (As := [.int k3, .int 6]) (rest := [.ref q_543, .int k2, .ref v11_12]) ⟨hx, hb, hml, hown, hg⟩ (k_Leaf_6 l D H_544.size q_543 k3) (cwI 2 hg (gB wd_594) rfl rfl rfl (hg _ wd_39) (hg _ wd_595) (hg _ wd_596) rfl (by decide +kernel) ⟨(Nat.le_trans (Nat.le_of_ble_eq_true rfl) hRf), (Nat.le_trans (Nat.le_of_ble_eq_true rfl) hRl)⟩) ⟨Pr.blind, fun U hU hW => ⟨rfl, Pr.at hPc hKc hDc hN hU hW⟩⟩ rfl rfl hl.1 rfl (lv_room (Nat.le_of_ble_eq_true rfl)) dX11_leaf_73 ⟨(Nat.le_trans (Nat.le_of_ble_eq_true rfl) hRc), (Nat.le_trans (Nat.le_of_ble_eq_true rfl) hRs)⟩) hS (fun q _ h => hFc q h) hFc (fun M_547 t H_545 locs ht hvm hw hB hz1 hk1 hS => ?_)
                have hp_548 := hw
                obtain ⟨e0_549, c0_550, hP1, hK1, hD1⟩ := hB
                rw [ht] at hP1
                have hK1 := va_K.moved hvm.symm hK1
                obtain ⟨hP, hD⟩ := va_joinQ (X := [(xa, (b11_1 x0 (nI x1) x2 (nI x3) x4 x5 x6 x7 x8 x9 x10)), (q_543, (b3_5 0 0))]) (cx := [(q_543, (b3_5 0 0))]) (wr := [(xa, (b11_1 x0 (nI x1) x2 (nI x3) x4 x5 x6 x7 x8 x9 x10))]) (w1 := [(q_543, (b3_3 k3 e0_549 0)), (e0_549, .inl (c0_550, 6, .inl (fun _ => 0)))]) (pl := va_pl L M) hP hD [1] [0] rfl rfl (by decide) (by decide) hk1 hFc hP1 hD1
                have hP : va_P D vwCl ([(xa, (b11_1 x0 (nI x1) x2 (nI x3) x4 x5 x6 x7 x8 x9 x10)), (q_543, (b3_3 k3 e0_549 0)), (e0_549, .inl (c0_550, 6, .inl (fun _ => 0)))] ++ va_pl L M) H_545 := hP
                have hD : va_D A ([(xa, (b11_1 x0 (nI x1) x2 (nI x3) x4 x5 x6 x7 x8 x9 x10)), (q_543, (b3_3 k3 e0_549 0)), (e0_549, .inl (c0_550, 6, .inl (fun _ => 0)))] ++ va_pl L M) := hD
                have hK2 := hK.app hK1
                obtain rfl : c0_550 = cy 14 := cls_eq hK2 10 0 rfl rfl
                refine W.widen (k := 2) (n := 9) (Nat.le_of_ble_eq_true rfl) (Nat.le_of_ble_eq_true rfl) ?_
                have hP : va_P D vwCl (([(xa, (b11_1 x0 (nI x1) x2 (nI x3) x4 x5 x6 x7 x8 x9 x10)), (q_543, (b3_3 k3 e0_549 0))] ++ [(zrI cy 14 e0_549 6)]) ++ va_pl L M) H_545 := hP.part (cx := [(xa, (b11_1 x0 (nI x1) x2 (nI x3) x4 x5 x6 x7 x8 x9 x10)), (q_543, (b3_3 k3 e0_549 0))] ++ [(zrI cy 14 e0_549 6)]) [0, 1, 2] rfl
                have hD : va_D A (([(xa, (b11_1 x0 (nI x1) x2 (nI x3) x4 x5 x6 x7 x8 x9 x10)), (q_543, (b3_3 k3 e0_549 0))] ++ [(zrI cy 14 e0_549 6)]) ++ va_pl L M) := hD.part (cx := [(xa, (b11_1 x0 (nI x1) x2 (nI x3) x4 x5 x6 x7 x8 x9 x10)), (q_543, (b3_3 k3 e0_549 0))] ++ [(zrI cy 14 e0_549 6)]) [0, 1, 2] (by decide) rfl
                have hWa := hW
                obtain ⟨K9, L9, M_551, hx9, i_552, hW, hP, hD, hM_553, hfr9, hq9, hm9⟩ := adoptE2 53 6 hP hD hW (fun K' L' x i => (⟨_, rfl⟩ : gd_53 cy K' L' 6 _))
                have hn9 : ∀ b, isk K9 L9 b 2 0 → isk K L b 2 0 := fun b hb => (hm9 b hb.1).elim (fun z => absurd (hb.un (show isk K9 L9 b 53 6 by rw [z]; exact i_552)) (by decide)) (fun z => ⟨z, ((hx9 b z).2).symm.trans hb.2⟩)
                have ho9 : ∀ b, isk K9 L9 b 4 0 → isk K L b 4 0 := fun b hb => (hm9 b hb.1).elim (fun z => absurd (hb.un (show isk K9 L9 b 53 6 by rw [z]; exact i_552)) (by decide)) (fun z => ⟨z, ((hx9 b z).2).symm.trans hb.2⟩)
                have hV : VC (va_up Bo e0_549 (b_5, (k2 : Int32).toNatClampNeg)) K9 L9 M0 M_551 b_5 (cfx M b_5) (cax M b_5) := hV.ad (b_5, (k2 : Int32).toNatClampNeg) hWa hb_10 hx9 hfr9 hq9 hn9
                have hp4 : ∀ q, isk K9 L9 q 4 0 → isk K0 L0 q 4 0 := fun q iq => hp4 q (ho9 q iq)
                have hq0e0_549 : e0_549 ∉ L0 := fun z => hq9 (hX0 _ z).1
                have hM_555 : M_551 b_5 = (b2_2 v11_0 v11_1 v11_2 v11_3 (nI v11_4) (nI v11_5) v11_6 v11_7 v11_8 (nI v11_9) v11_10 (nI v11_11) v11_12 v11_13 v11_14 v11_15 v11_16 v11_17 v11_18 v11_19) := (hfr9 _ hb_10.1).trans hM11
                have hF : fr K0 L0 [10, 18] M0 M_551 := hF.adX hX0 hfr9
                have hT10 : fT 10 K0 L0 [1, 2] M0 M_551 := hT10.adX hX0 hfr9
                have hX0 := hX0.tr hx9
                have i_556 := i0.ext hx9
                have i_557 := i2.ext hx9
                have i_558 := i4.ext hx9
                have i_559 := i5.ext hx9
                have i_560 := i6.ext hx9
                have i_561 := i8.ext hx9
                have i_562 := hb_10.ext hx9
                have i_563 := h11_3.ext hx9
                have i_564 := h11_6.ext hx9
                have i_565 := h11_7.ext hx9
                have i_566 := h11_8.ext hx9
                have i_567 := h11_10.ext hx9
                have i_568 := h11_12.ext hx9
                have i_569 := h11_13.ext hx9
                have i_570 := h11_16.ext hx9
                have i_571 := h11_17.ext hx9
                have i_572 := h11_18.ext hx9
                have i_573 := h11_19.ext hx9
                obtain ⟨K, L, hK9, hL9⟩ : ∃ (K : Kp) (L : List Nat), K = K9 ∧ L = L9 := ⟨_, _, rfl, rfl⟩
                subst hK9
                subst hL9
                have hP : va_P D vwCl ([(xa, (b11_1 x0 (nI x1) x2 (nI x3) x4 x5 x6 x7 x8 x9 x10)), (q_543, (b3_3 k3 e0_549 0))] ++ va_pl L M_551) H_545 := hP
                have hD : va_D A ([(xa, (b11_1 x0 (nI x1) x2 (nI x3) x4 x5 x6 x7 x8 x9 x10)), (q_543, (b3_3 k3 e0_549 0))] ++ va_pl L M_551) := hD
                have hP : va_P D vwCl (([(xa, (b11_1 x0 (nI x1) x2 (nI x3) x4 x5 x6 x7 x8 x9 x10))] ++ [(q_543, (b3_3 k3 e0_549 0))]) ++ va_pl L M_551) H_545 := hP.part (cx := [(xa, (b11_1 x0 (nI x1) x2 (nI x3) x4 x5 x6 x7 x8 x9 x10))] ++ [(q_543, (b3_3 k3 e0_549 0))]) [0, 1] rfl
                have hD : va_D A (([(xa, (b11_1 x0 (nI x1) x2 (nI x3) x4 x5 x6 x7 x8 x9 x10))] ++ [(q_543, (b3_3 k3 e0_549 0))]) ++ va_pl L M_551) := hD.part (cx := [(xa, (b11_1 x0 (nI x1) x2 (nI x3) x4 x5 x6 x7 x8 x9 x10))] ++ [(q_543, (b3_3 k3 e0_549 0))]) [0, 1] (by decide) rfl
                have hWa := hW
                obtain ⟨K9, L9, M_574, hx9, i_575, hW, hP, hD, hM_576, hfr9, hq9, hm9⟩ := adoptE2 3 0 hP hD hW (fun K' L' x i => (⟨6, k3, e0_549, 0, rfl, i_552.ext x, (by omega), (by decide)⟩ : gd_3 K' L' _))
                have hn9 : ∀ b, isk K9 L9 b 2 0 → isk K L b 2 0 := fun b hb => (hm9 b hb.1).elim (fun z => absurd (hb.un (show isk K9 L9 b 3 0 by rw [z]; exact i_575)) (by decide)) (fun z => ⟨z, ((hx9 b z).2).symm.trans hb.2⟩)
                have ho9 : ∀ b, isk K9 L9 b 4 0 → isk K L b 4 0 := fun b hb => (hm9 b hb.1).elim (fun z => absurd (hb.un (show isk K9 L9 b 3 0 by rw [z]; exact i_575)) (by decide)) (fun z => ⟨z, ((hx9 b z).2).symm.trans hb.2⟩)
                have hV : VC (va_up (va_up Bo e0_549 (b_5, (k2 : Int32).toNatClampNeg)) q_543 (b_5, (k2 : Int32).toNatClampNeg)) K9 L9 M0 M_574 b_5 (cfx M b_5) (cax M b_5) := hV.ad (b_5, (k2 : Int32).toNatClampNeg) hWa i_562 hx9 hfr9 hq9 hn9
                have hp4 : ∀ q, isk K9 L9 q 4 0 → isk K0 L0 q 4 0 := fun q iq => hp4 q (ho9 q iq)
                have hq0q_543 : q_543 ∉ L0 := fun z => hq9 (hX0 _ z).1
                have hM_577 : M_574 b_5 = (b2_2 v11_0 v11_1 v11_2 v11_3 (nI v11_4) (nI v11_5) v11_6 v11_7 v11_8 (nI v11_9) v11_10 (nI v11_11) v11_12 v11_13 v11_14 v11_15 v11_16 v11_17 v11_18 v11_19) := (hfr9 _ i_562.1).trans hM_555
                have hM_578 : M_574 e0_549 = .inl (cy 14, 6, .inl (fun _ => 0)) := (hfr9 _ i_552.1).trans hM_553
                have hF : fr K0 L0 [10, 18] M0 M_574 := hF.adX hX0 hfr9
                have hT10 : fT 10 K0 L0 [1, 2] M0 M_574 := hT10.adX hX0 hfr9
                have hX0 := hX0.tr hx9
                have i_579 := i_556.ext hx9
                have i_580 := i_557.ext hx9
                have i_581 := i_558.ext hx9
                have i_582 := i_559.ext hx9
                have i_583 := i_560.ext hx9
                have i_584 := i_561.ext hx9
                have i_585 := i_562.ext hx9
                have i_586 := i_563.ext hx9
                have i_587 := i_564.ext hx9
                have i_588 := i_565.ext hx9
                have i_589 := i_566.ext hx9
                have i_590 := i_567.ext hx9
                have i_591 := i_568.ext hx9
                have i_592 := i_569.ext hx9
                have i_593 := i_570.ext hx9
                have i_594 := i_571.ext hx9
                have i_595 := i_572.ext hx9
                have i_596 := i_573.ext hx9
                have i_597 := i_552.ext hx9
                obtain ⟨K, L, hK9, hL9⟩ : ∃ (K : Kp) (L : List Nat), K = K9 ∧ L = L9 := ⟨_, _, rfl, rfl⟩
                subst hK9
                subst hL9
                have hP : va_P D vwCl ([(xa, (b11_1 x0 (nI x1) x2 (nI x3) x4 x5 x6 x7 x8 x9 x10))] ++ va_pl L M_574) H_545 := hP
                have hD : va_D A ([(xa, (b11_1 x0 (nI x1) x2 (nI x3) x4 x5 x6 x7 x8 x9 x10))] ++ va_pl L M_574) := hD
                obtain ⟨f598, hM598, hf598⟩ := hW.open_18 i_591
                refine pg_astq (r := (RX3, TX3, 3)) hx hb hK hP hD hS i_591.1 4 3 hM598 rfl i_575.1 hM_576 rfl (inbE k2 999 1000 (by decide) (by decide) c_47 (Int32.not_lt.mp c_48)) dX11_leaf_76 (fun H_599 locs hP hD hS => ?_)
                obtain ⟨M_600, eM_600⟩ : ∃ M1 : Hp, M1 = va_up M_574 v11_12 (.inl (cy 18, 1000, .inr (.inr (.inr (.inr (va_up f598 (k2 : Int32).toNatClampNeg (some q_543))))))) := ⟨_, rfl⟩
                have sM_600 : M_600 = sR M_574 v11_12 (k2 : Int32).toNatClampNeg (some q_543) := eM_600.trans (sR_of hM598)
                have hV : VC (va_up (va_up Bo e0_549 (b_5, (k2 : Int32).toNatClampNeg)) q_543 (b_5, (k2 : Int32).toNatClampNeg)) K L M0 M_600 b_5 (cfx M b_5) (va_up (va_up (va_up (va_up (cax M b_5) 2 (upd ((cax M b_5) 2) (k2 : Int32).toNatClampNeg (plN M_574 (some q_543)))) 3 (upd ((cax M b_5) 3) (k2 : Int32).toNatClampNeg (lfN 2 M_574 (some q_543)))) 4 (upd ((cax M b_5) 4) (k2 : Int32).toNatClampNeg (lfN 0 M_574 (some q_543)))) 60 (fun z => if z % 1000 = (k2 : Int32).toNatClampNeg then etN M_574 (some q_543) (z / 1000) else ((cax M b_5) 60) z)) := by rw [sM_600]; exact VC.r_lv hV hW i_585 (vp_lt (inbE k2 999 1000 (by decide) (by decide) c_47 (Int32.not_lt.mp c_48))) (rA_of (j := 12) hM_577 rfl) hM598 (fun q9 z9 => by cases z9; exact ⟨va_up_self _ _ _, by rw [rA_of (j := 1) hM_576 rfl, va_up_ne _ _ (i_597.neT i_575 (by decide))]; exact va_up_self _ _ _⟩)
                have hP : va_P D vwCl ([(xa, (b11_1 x0 (nI x1) x2 (nI x3) x4 x5 x6 x7 x8 x9 x10))] ++ va_pl L M_600) H_599 := by rw [eM_600]; exact hP
                have hD : va_D A ([(xa, (b11_1 x0 (nI x1) x2 (nI x3) x4 x5 x6 x7 x8 x9 x10))] ++ va_pl L M_600) := by rw [eM_600]; exact hD
                have hW : WOK cy K L M_600 := by rw [eM_600]; exact hW.up_18 i_591 ⟨_, rfl, (upN hf598 i_575)⟩
                have hF : fr K0 L0 [10, 18] M0 M_600 := by rw [eM_600]; exact hF.upX hX0 i_591 (by decide)
                have hT10 : fT 10 K0 L0 [1, 2] M0 M_600 := by rw [eM_600]; exact hT10.neX hX0 i_591 (by decide)
                have hM_601 : M_600 v11_12 = .inl (cy 18, 1000, .inr (.inr (.inr (.inr (va_up f598 (k2 : Int32).toNatClampNeg (some q_543)))))) := by rw [eM_600]; exact va_up_self _ _ _
                have hM_602 : M_600 b_5 = (b2_2 v11_0 v11_1 v11_2 v11_3 (nI v11_4) (nI v11_5) v11_6 v11_7 v11_8 (nI v11_9) v11_10 (nI v11_11) v11_12 v11_13 v11_14 v11_15 v11_16 v11_17 v11_18 v11_19) := by rw [eM_600, va_up_ne _ _ (i_585.neT i_591 (by decide))]; exact hM_577
                have hM_603 : M_600 e0_549 = .inl (cy 14, 6, .inl (fun _ => 0)) := by rw [eM_600, va_up_ne _ _ (i_597.neT i_591 (by decide))]; exact hM_578
                have hM_604 : M_600 q_543 = (b3_3 k3 e0_549 (nI 0)) := by rw [eM_600, va_up_ne _ _ (i_575.neT i_591 (by decide))]; exact hM_576
                have hf_606 : ∀ j, j < 1000 → iskN K L ((va_up f598 (k2 : Int32).toNatClampNeg (some q_543)) j) 3 0 := (upN hf598 i_575)
                obtain ⟨f_605, ef_605⟩ : ∃ f : Nat → Option Nat, f = va_up f598 (k2 : Int32).toNatClampNeg (some q_543) := ⟨_, rfl⟩
                rw [← ef_605] at hM_601 hf_606
                have hk_607 : f_605 (k2 : Int32).toNatClampNeg = some q_543 := by rw [ef_605]; exact va_up_self _ _ _
                clear ef_605
                refine lv_aload hx hb dX11_leaf_77 (lv_at hl 0 rfl) ?_
                refine pg_get (D := D) (ci := 2) (v := .ref v11_18) (C := RX2) (T := TX2) (N := 20) hx hb hg inG2 hown hK hP i_585.1 hM_602 rfl 18 (by decide) (hg _ wd_378) (fun _ h9 => h9) rfl dX11_leaf_79 ?_
                obtain ⟨v608_0, v608_1, v608_2, hM608, h608_0⟩ := hW.open_10 i_595
                have hPc : va_P D vwCl ([] ++ va_pl L M_600) H_599 := hP.part (cx := []) [] rfl
                have hDc : va_D A ([] ++ va_pl L M_600) := hD.part (cx := []) [] (by decide) rfl
                have hFc : ∀ q, va_A ([] ++ va_pl L M_600) H_599.size q → A q := pg_free hDc hS hA
                have hI_609 : (0 : Int) ≤ (k3 : Int32).toInt := inltI rfl rfl c_20
                have hI_610 : (k3 : Int32).toInt < (3 : Int) := inleI rfl rfl c_26
                have hI_611 : (0 : Int) ≤ (k2 : Int32).toInt := inltI rfl rfl c_47
                have hI_612 : (k2 : Int32).toInt ≤ (999 : Int) := inltI rfl rfl c_48
                refine va_callv (va_runV (As := []) (rest := []) ⟨hx, hb, hml, hown, hg⟩ (e_clear l D cy K L M_600 H_599.size v11_18 (va_up (va_up Bo e0_549 (b_5, (k2 : Int32).toNatClampNeg)) q_543 (b_5, (k2 : Int32).toNatClampNeg)) M0 b_5 (cfx M b_5) (va_up (va_up (va_up (va_up (cax M b_5) 2 (upd ((cax M b_5) 2) (k2 : Int32).toNatClampNeg (plN M_574 (some q_543)))) 3 (upd ((cax M b_5) 3) (k2 : Int32).toNatClampNeg (lfN 2 M_574 (some q_543)))) 4 (upd ((cax M b_5) 4) (k2 : Int32).toNatClampNeg (lfN 0 M_574 (some q_543)))) 60 (fun z => if z % 1000 = (k2 : Int32).toNatClampNeg then etN M_574 (some q_543) (z / 1000) else ((cax M b_5) 60) z))  hW i_595 i_585 hV (rA_of (j := 18) hM_602 rfl)) (cwV 0 hg (gV wd_379 wd_380 wd_381 wd_114 wd_382) rfl rfl rfl (by decide +kernel) ⟨(Nat.le_trans (Nat.le_of_ble_eq_true rfl) hRf), (Nat.le_trans (Nat.le_of_ble_eq_true rfl) hRl)⟩) ⟨PG.blind, pg_recv hK hP i_595.1 hM608 rfl, fun U hU hW => ⟨rfl, PG.at hPc hK hDc hN hU hW⟩⟩ rfl rfl hl.1 rfl (lv_room (Nat.le_of_ble_eq_true rfl)) dX11_leaf_82 ⟨(Nat.le_trans (Nat.le_of_ble_eq_true rfl) hRc), (Nat.le_trans (Nat.le_of_ble_eq_true rfl) hRs)⟩) hS (fun q _ h => hFc q h) hFc (fun M_615 t H_613 locs ht hvm hw hB hz1 hk1 hS => ?_)
                have hWb := hW
                obtain ⟨hW, hF2, gT10, hVP, hp_616⟩ := hw
                obtain ⟨hP1, hD1⟩ := hB
                rw [ht] at hP1
                obtain ⟨hP, hD⟩ := va_joinP (X := [(xa, (b11_1 x0 (nI x1) x2 (nI x3) x4 x5 x6 x7 x8 x9 x10))]) (cx := []) (wr := [(xa, (b11_1 x0 (nI x1) x2 (nI x3) x4 x5 x6 x7 x8 x9 x10))]) (rx := []) (pl := va_pl L M_600) (pl1 := va_pl L M_615) hP hD [] [0] rfl rfl (by decide) (by decide) hk1 hFc hP1 hD1
                have hP : va_P D vwCl ([(xa, (b11_1 x0 (nI x1) x2 (nI x3) x4 x5 x6 x7 x8 x9 x10))] ++ va_pl L M_615) H_613 := hP
                have hD : va_D A ([(xa, (b11_1 x0 (nI x1) x2 (nI x3) x4 x5 x6 x7 x8 x9 x10))] ++ va_pl L M_615) := hD
                have hM_617 : M_615 v11_12 = .inl (cy 18, 1000, .inr (.inr (.inr (.inr (f_605))))) := (hF2.at i_591 (by decide)).trans hM_601
                have hM_618 : M_615 b_5 = (b2_2 v11_0 v11_1 v11_2 v11_3 (nI v11_4) (nI v11_5) v11_6 v11_7 v11_8 (nI v11_9) v11_10 (nI v11_11) v11_12 v11_13 v11_14 v11_15 v11_16 v11_17 v11_18 v11_19) := (hF2.at i_585 (by decide)).trans hM_602
                have hM_619 : M_615 e0_549 = .inl (cy 14, 6, .inl (fun _ => 0)) := (hF2.at i_597 (by decide)).trans hM_603
                have hM_620 : M_615 q_543 = (b3_3 k3 e0_549 (nI 0)) := (hF2.at i_575 (by decide)).trans hM_604
                have hF : fr K0 L0 [10, 18] M0 M_615 := hF.trX hX0 hF2 (by decide)
                have hT10 : fT 10 K0 L0 [1, 2] M0 M_615 := hT10.trX hX0 gT10 (by decide)
                have hV : VC (va_up (va_up Bo e0_549 (b_5, (k2 : Int32).toNatClampNeg)) q_543 (b_5, (k2 : Int32).toNatClampNeg)) K L M0 M_615 b_5 (va_up (va_up (cfx M b_5) 19 (0 : Int)) 16 (0 : Int)) (va_up (va_up (va_up (va_up (cax M b_5) 2 (upd ((cax M b_5) 2) (k2 : Int32).toNatClampNeg (plN M_574 (some q_543)))) 3 (upd ((cax M b_5) 3) (k2 : Int32).toNatClampNeg (lfN 2 M_574 (some q_543)))) 4 (upd ((cax M b_5) 4) (k2 : Int32).toNatClampNeg (lfN 0 M_574 (some q_543)))) 60 (fun z => if z % 1000 = (k2 : Int32).toNatClampNeg then etN M_574 (some q_543) (z / 1000) else ((cax M b_5) 60) z)) := hVP
                refine lv_aload_n hx hb dX11_leaf_85 rfl (lv_at hl 1 rfl) ?_
                refine lv_iload hx hb dX11_leaf_86 (lv_at hl 5 rfl) ?_
                have hPc := hP.sub (ws' := [(xa, (b11_1 x0 (nI x1) x2 (nI x3) x4 x5 x6 x7 x8 x9 x10))]) [0] rfl
                have hDc := hD.sub (ws' := [(xa, (b11_1 x0 (nI x1) x2 (nI x3) x4 x5 x6 x7 x8 x9 x10))]) [0] (by decide) rfl
                have hKc := hK.sub (tys' := []) [] rfl
                have hFc := va_free (wc := [(xa, (b11_1 x0 (nI x1) x2 (nI x3) x4 x5 x6 x7 x8 x9 x10))]) hD hS hA [0] rfl
                refine va_calli (va_runV (As := [.int 6]) (rest := []) ⟨hx, hb, hml, hown, hg⟩ (k_accept l D H_613.size xa x0 (nI x1) x2 (nI x3) x4 x5 x6 x7 x8 x9 x10 6) (cwV 1 hg (gV wd_356 wd_357 wd_358 wd_3 wd_359) rfl rfl rfl (by decide +kernel) ⟨(Nat.le_trans (Nat.le_of_ble_eq_true rfl) hRf), (Nat.le_trans (Nat.le_of_ble_eq_true rfl) hRl)⟩) ⟨Pr.blind, va_recv hK hP (ci := 11) (q0 := 0) rfl rfl, fun U hU hW => ⟨rfl, Pr.at hPc hKc hDc hN hU hW⟩⟩ rfl rfl hl.1 rfl (lv_room (Nat.le_of_ble_eq_true rfl)) dX11_leaf_88 ⟨(Nat.le_trans (Nat.le_of_ble_eq_true rfl) hRc), (Nat.le_trans (Nat.le_of_ble_eq_true rfl) hRs)⟩) hS (fun q _ h => hFc q h) hFc (fun r_622 M_623 t H_621 locs ht hvm hw hB hz1 hk1 hS => ?_)
                have hp_624 := hw
                obtain ⟨hP1, hK1, hD1⟩ := hB
                rw [ht] at hP1
                obtain ⟨hP, hD⟩ := va_joinQ (X := [(xa, (b11_1 x0 (nI x1) x2 (nI x3) x4 x5 x6 x7 x8 x9 x10))]) (cx := [(xa, (b11_1 x0 (nI x1) x2 (nI x3) x4 x5 x6 x7 x8 x9 x10))]) (wr := []) (w1 := [(xa, (b11_1 x0 (nI x1) x2 (nI x3) x4 x5 x6 x7 x8 0 (-1)))]) (pl := va_pl L M_615) hP hD [0] [] rfl rfl (by decide) (by decide) hk1 hFc hP1 hD1
                have hP : va_P D vwCl ([(xa, (b11_1 x0 (nI x1) x2 (nI x3) x4 x5 x6 x7 x8 0 (-1)))] ++ va_pl L M_615) H_621 := hP
                have hD : va_D A ([(xa, (b11_1 x0 (nI x1) x2 (nI x3) x4 x5 x6 x7 x8 0 (-1)))] ++ va_pl L M_615) := hD
                have hq := Eq.symm hp_624
                subst hq
                have hyes : okLf x1 SX k1 k2 k3 6 := by unfold okLf okH; refine ⟨⟨?_, ?_⟩, ?_, ?_, ?_, ?_, ?_, ?_⟩ <;> first | omega | assumption | decide
                have hpl1 : plN M_574 (some q_543) = 6 := by show nI (ALc (M_574 (rA 3 M_574 q_543 1))) = _; rw [rA_of (j := 1) hM_576 rfl, hM_578]; rfl
                have hpl2 : lfN 2 M_574 (some q_543) = 0 := cV_of (j := 2) hM_576 rfl
                have hpl3 : lfN 0 M_574 (some q_543) = k3 := cV_of (j := 0) hM_576 rfl
                rw [hpl1, hpl2, hpl3] at hV
                rw [hQ]
                exact W.iret (v := 6) hx hb hr (fun t ht hW9 => ⟨⟨6, (K, L, M_615), rfl, ⟨hX0, hW, hF, hT10, (by unfold anLf; rw [if_pos hyes])⟩, ⟨0, (⟨_, by unfold sxLf syLf; rw [if_pos hyes, if_pos hyes]; have hZ := hC00.fin hW00 i000 b1 hkn hb90 hV hX0 (by rw [hF.at i000 (by decide)]) (fun q iq => ⟨hp4 q iq, cR_c (fr.cv hF (by decide) q (hp4 q iq) 3 rfl)⟩) ((((hSM.leaf (d := k2.toNatClampNeg) (p := 6) (c := 0) (s := k3) (s' := k3) (fun _ => rfl) (by decide)).clr hT.1).up1)); exact hZ⟩), by rw [ht]; exact hP, hD⟩⟩, hS.F ht⟩) hS.2.2 dX11_leaf_91
            · have hz := rfl (a := 0)
              refine lv_if_ne (tgt := 60) hx hb dX11_leaf_51 (by decide) (fun c_625 => absurd c_625 (by decide)) (fun _ => ?_)
              refine lv_aload_n hx hb dX11_leaf_54 rfl (lv_at hl 1 rfl) ?_
              refine lv_iconst (v := 3) hx hb dX11_leaf_55 (by decide) ?_
              have hPc := hP.sub (ws' := [(xa, (b11_1 x0 (nI x1) x2 (nI x3) x4 x5 x6 x7 x8 x9 x10))]) [0] rfl
              have hDc := hD.sub (ws' := [(xa, (b11_1 x0 (nI x1) x2 (nI x3) x4 x5 x6 x7 x8 x9 x10))]) [0] (by decide) rfl
              have hKc := hK.sub (tys' := []) [] rfl
              have hFc := va_free (wc := [(xa, (b11_1 x0 (nI x1) x2 (nI x3) x4 x5 x6 x7 x8 x9 x10))]) hD hS hA [0] rfl
              refine va_calli (va_runV (As := [.int 3]) (rest := []) ⟨hx, hb, hml, hown, hg⟩ (k_refuse l D H_42.size xa x0 (nI x1) x2 (nI x3) x4 x5 x6 x7 x8 x9 x10 3) (cwV 1 hg (gV wd_344 wd_345 wd_346 wd_3 wd_347) rfl rfl rfl (by decide +kernel) ⟨(Nat.le_trans (Nat.le_of_ble_eq_true rfl) hRf), (Nat.le_trans (Nat.le_of_ble_eq_true rfl) hRl)⟩) ⟨Pr.blind, va_recv hK hP (ci := 11) (q0 := 0) rfl rfl, fun U hU hW => ⟨rfl, Pr.at hPc hKc hDc hN hU hW⟩⟩ rfl rfl hl.1 rfl (lv_room (Nat.le_of_ble_eq_true rfl)) dX11_leaf_56 ⟨(Nat.le_trans (Nat.le_of_ble_eq_true rfl) hRc), (Nat.le_trans (Nat.le_of_ble_eq_true rfl) hRs)⟩) hS (fun q _ h => hFc q h) hFc (fun r_627 M_628 t H_626 locs ht hvm hw hB hz1 hk1 hS => ?_)
              have hp_629 := hw
              obtain ⟨hP1, hK1, hD1⟩ := hB
              rw [ht] at hP1
              obtain ⟨hP, hD⟩ := va_joinQ (X := [(xa, (b11_1 x0 (nI x1) x2 (nI x3) x4 x5 x6 x7 x8 x9 x10))]) (cx := [(xa, (b11_1 x0 (nI x1) x2 (nI x3) x4 x5 x6 x7 x8 x9 x10))]) (wr := []) (w1 := [(xa, (b11_1 x0 (nI x1) x2 (nI x3) x4 x5 x6 x7 x8 3 (-1)))]) (pl := va_pl L M) hP hD [0] [] rfl rfl (by decide) (by decide) hk1 hFc hP1 hD1
              have hP : va_P D vwCl ([(xa, (b11_1 x0 (nI x1) x2 (nI x3) x4 x5 x6 x7 x8 3 (-1)))] ++ va_pl L M) H_626 := hP
              have hD : va_D A ([(xa, (b11_1 x0 (nI x1) x2 (nI x3) x4 x5 x6 x7 x8 3 (-1)))] ++ va_pl L M) := hD
              have hq := Eq.symm hp_629
              subst hq
              refine W.widen (k := 2) (n := 9) (Nat.le_of_ble_eq_true rfl) (Nat.le_of_ble_eq_true rfl) ?_
              have hI_630 : (0 : Int) ≤ (k3 : Int32).toInt := inltI rfl rfl c_20
              have hI_631 : (k3 : Int32).toInt < (3 : Int) := inleI rfl rfl c_26
              have hI_632 : (0 : Int) ≤ (k4 : Int32).toInt := inltI rfl rfl c_33
              have hI_633 : (k4 : Int32).toInt ≤ (6 : Int) := ileI rfl rfl c_41
              have hno : ¬ okLf x1 SX k1 k2 k3 k4 := fun q9 => by unfold okLf okH at q9; first | omega | (obtain ⟨⟨_, _⟩, _, _, _, _, _, _⟩ := q9; first | omega | contradiction)
              rw [hQ]
              exact W.iret (v := (-1)) hx hb hr (fun t ht hW9 => ⟨⟨(-1), (K, L, M), rfl, ⟨hX0, hW, hF, hT10, (by unfold anLf; rw [if_neg hno])⟩, ⟨3, (⟨_, by unfold sxLf syLf; rw [if_neg hno, if_neg hno]; exact hC.mono⟩), by rw [ht]; exact hP, hD⟩⟩, hS.F ht⟩) hS.2.2 dX11_leaf_59
          · have hz := rfl (a := 0)
            refine lv_aload_n hx hb dX11_leaf_39 rfl (lv_at hl 1 rfl) ?_
            refine lv_iconst (v := 2) hx hb dX11_leaf_40 (by decide) ?_
            have hPc := hP.sub (ws' := [(xa, (b11_1 x0 (nI x1) x2 (nI x3) x4 x5 x6 x7 x8 x9 x10))]) [0] rfl
            have hDc := hD.sub (ws' := [(xa, (b11_1 x0 (nI x1) x2 (nI x3) x4 x5 x6 x7 x8 x9 x10))]) [0] (by decide) rfl
            have hKc := hK.sub (tys' := []) [] rfl
            have hFc := va_free (wc := [(xa, (b11_1 x0 (nI x1) x2 (nI x3) x4 x5 x6 x7 x8 x9 x10))]) hD hS hA [0] rfl
            refine va_calli (va_runV (As := [.int 2]) (rest := []) ⟨hx, hb, hml, hown, hg⟩ (k_refuse l D H_1.size xa x0 (nI x1) x2 (nI x3) x4 x5 x6 x7 x8 x9 x10 2) (cwV 1 hg (gV wd_344 wd_345 wd_346 wd_3 wd_347) rfl rfl rfl (by decide +kernel) ⟨(Nat.le_trans (Nat.le_of_ble_eq_true rfl) hRf), (Nat.le_trans (Nat.le_of_ble_eq_true rfl) hRl)⟩) ⟨Pr.blind, va_recv hK hP (ci := 11) (q0 := 0) rfl rfl, fun U hU hW => ⟨rfl, Pr.at hPc hKc hDc hN hU hW⟩⟩ rfl rfl hl.1 rfl (lv_room (Nat.le_of_ble_eq_true rfl)) dX11_leaf_41 ⟨(Nat.le_trans (Nat.le_of_ble_eq_true rfl) hRc), (Nat.le_trans (Nat.le_of_ble_eq_true rfl) hRs)⟩) hS (fun q _ h => hFc q h) hFc (fun r_635 M_636 t H_634 locs ht hvm hw hB hz1 hk1 hS => ?_)
            have hp_637 := hw
            obtain ⟨hP1, hK1, hD1⟩ := hB
            rw [ht] at hP1
            obtain ⟨hP, hD⟩ := va_joinQ (X := [(xa, (b11_1 x0 (nI x1) x2 (nI x3) x4 x5 x6 x7 x8 x9 x10))]) (cx := [(xa, (b11_1 x0 (nI x1) x2 (nI x3) x4 x5 x6 x7 x8 x9 x10))]) (wr := []) (w1 := [(xa, (b11_1 x0 (nI x1) x2 (nI x3) x4 x5 x6 x7 x8 2 (-1)))]) (pl := va_pl L M) hP hD [0] [] rfl rfl (by decide) (by decide) hk1 hFc hP1 hD1
            have hP : va_P D vwCl ([(xa, (b11_1 x0 (nI x1) x2 (nI x3) x4 x5 x6 x7 x8 2 (-1)))] ++ va_pl L M) H_634 := hP
            have hD : va_D A ([(xa, (b11_1 x0 (nI x1) x2 (nI x3) x4 x5 x6 x7 x8 2 (-1)))] ++ va_pl L M) := hD
            have hq := Eq.symm hp_637
            subst hq
            refine W.widen (k := 2) (n := 9) (Nat.le_of_ble_eq_true rfl) (Nat.le_of_ble_eq_true rfl) ?_
            have hI_638 : (0 : Int) ≤ (k3 : Int32).toInt := inltI rfl rfl c_20
            have hI_639 : (k3 : Int32).toInt < (3 : Int) := inleI rfl rfl c_26
            have hI_640 : (0 : Int) ≤ (k4 : Int32).toInt := inltI rfl rfl c_33
            have hI_641 : (6 : Int) < (k4 : Int32).toInt := inleI rfl rfl c_41
            have hno : ¬ okLf x1 SX k1 k2 k3 k4 := fun q9 => by unfold okLf okH at q9; first | omega | (obtain ⟨⟨_, _⟩, _, _, _, _, _, _⟩ := q9; first | omega | contradiction)
            rw [hQ]
            exact W.iret (v := (-1)) hx hb hr (fun t ht hW9 => ⟨⟨(-1), (K, L, M), rfl, ⟨hX0, hW, hF, hT10, (by unfold anLf; rw [if_neg hno])⟩, ⟨2, (⟨_, by unfold sxLf syLf; rw [if_neg hno, if_neg hno]; exact hC.mono⟩), by rw [ht]; exact hP, hD⟩⟩, hS.F ht⟩) hS.2.2 dX11_leaf_44
