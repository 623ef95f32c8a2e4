set_option maxHeartbeats 4000000 in
set_option maxRecDepth 100000 in
theorem x_close (l : Launch) (D : va_G) (cy : Nat → ClassId) (K0 : Kp) (L0 : List Nat) (M0 : Hp) (sz : Nat) (xa : Nat) (x0 : Nat) (x1 : Nat) (x2 : Nat) (x3 : Nat) (x4 : Nat) (x5 : Nat) (x6 : Nat) (x7 : Int32) (x8 : Nat) (x9 : Int32) (x10 : Int32) (k1 : Int32) (Bo : Nat → Nat × Nat) (T : Int) (PK : Nat → Int32) (PT : Nat → Int32) (SX : Nat → Nat → Int) (SY : Nat → Nat → Nat → Int32) (hW : WOK cy K0 L0 M0) (i0 : isk K0 L0 x0 17 8) (b1 : x1 ≤ 8) (i2 : isk K0 L0 x2 19 40) (b3 : x3 ≤ 40) (i4 : isk K0 L0 x4 7 0) (i5 : isk K0 L0 x5 5 0) (i6 : isk K0 L0 x6 60 24) (i8 : isk K0 L0 x8 73 25) (hC : CX Bo K0 L0 x0 x1 T x3 PK PT SX SY M0) (hSV : ∀ k, k < x1 → SV (SX k) (SY k)) (hHI : ∀ k, k < x1 → HI (SX k) (SY k)) (hT : (0 ≤ T ∧ T ≤ 900000)) (hSC : SCX x0 x1 SX M0) : Met l yX11_close (wsM yX11_close cX11_close 6 (some .int)) ({ frames := 6, cells := 720, slots := 4320, locals := 156 }) (va_Pc [.ref xa, .int k1] (PG D cy [(xa, (b11_1 x0 (nI x1) x2 (nI x3) x4 x5 x6 x7 x8 x9 x10))] L0 M0 sz)) (va_Qi (fun (r : Int32) (u : Kp × List Nat × Hp) => ext K0 L0 u.1 u.2.1 ∧ WOK cy u.1 u.2.1 u.2.2 ∧ fr K0 L0 [0, 1, 2, 7, 8, 9, 10, 21, 56, 57, 63, 64, 65, 66, 67, 68, 69, 70, 71, 72] M0 u.2.2 ∧ fT 2 K0 L0 [2, 5, 14] M0 u.2.2 ∧ fT 9 K0 L0 [6, 9, 10, 11, 13, 14, 15] M0 u.2.2 ∧ fT 1 K0 L0 [3] M0 u.2.2 ∧ fT 10 K0 L0 [1, 2] M0 u.2.2 ∧ ((r = anCl x1 PK PT SX SY k1))) (fun u t => ∃ (w9 : Int32) (w10 : Int32), (∀ X9 Y9, (okCl x1 PK PT SX SY k1 → CLF (enD (SX k1.toNatClampNeg) (SY k1.toNatClampNeg)) (SX k1.toNatClampNeg) (SY k1.toNatClampNeg) X9 Y9) → CX Bo u.1 u.2.1 x0 x1 (T + 1) x3 PK PT (sxCl x1 PK PT SX SY k1 X9) (syCl x1 PK PT SX SY k1 Y9) u.2.2) ∧ WHR x1 PK PT SX SY k1 w10 ∧ (∀ (X9 : Nat → Int) (Y9 : Nat → Nat → Int32), (okCl x1 PK PT SX SY k1 → CLF (enD (SX k1.toNatClampNeg) (SY k1.toNatClampNeg)) (SX k1.toNatClampNeg) (SY k1.toNatClampNeg) X9 Y9) → SCX x0 x1 (sxCl x1 PK PT SX SY k1 X9) u.2.2) ∧ PQ D [(xa, (b11_1 x0 (nI x1) x2 (nI x3) x4 x5 x6 x7 x8 w9 w10))] u.2.1 u.2.2 (va_A ([(xa, (b11_1 x0 (nI x1) x2 (nI x3) x4 x5 x6 x7 x8 x9 x10))] ++ va_pl L0 M0) sz) t) (va_A ([(xa, (b11_1 x0 (nI x1) x2 (nI x3) x4 x5 x6 x7 x8 x9 x10))] ++ va_pl L0 M0) sz)) 720 4320 (va_A ([(xa, (b11_1 x0 (nI x1) x2 (nI x3) x4 x5 x6 x7 x8 x9 x10))] ++ va_pl L0 M0) sz) := by
  refine Met.ofW (cc := cX11_close) (maxL := 6) (ret := (some .int)) (by decide) rfl ?_
  intro p e s m args below meth c s₁ B hml hv
  obtain ⟨rfl, hsz, hP, hK, hD0, hN⟩ := hv
  have hx := B.exec
  have hb := B.bytes
  have hr := B.returns
  have hts := atoms_spec (ws := (wsM yX11_close cX11_close 6 (some .int))) B.pre
  have hg : ∀ w ∈ lw_good, w.before _ s = true := fun w h => hts w (List.mem_cons_of_mem _ h)
  have hown : s.vm.findClass RX11 = some m.cls := findClass_of_methodNamed B.named
  have hlocks := B.notSynchronized
  subst hsz
  have hD := hD0.self (sz := s.heap.size)
  generalize hAe : va_A ([(xa, (b11_1 x0 (nI x1) x2 (nI x3) x4 x5 x6 x7 x8 x9 x10))] ++ va_pl L0 M0) s.heap.size = A at hD ⊢
  have hA : ∀ q : Nat, s.heap.size ≤ q → A q := fun q h => by rw [← hAe]; exact Or.inr h
  have hS : va_S A s.heap s.heap [] := va_S.rf
  have hl := lv_entry ([.ref xa, .int k1]) (n := 6) (Nat.le_of_ble_eq_true rfl)
  rw [lg_entry_eq]
  generalize (lg_sl ([.ref xa, .int k1]) ++ List.replicate (6 - (lg_sl ([.ref xa, .int k1])).length) Slot.unset).toArray = ls at hl ⊢
  refine W.nameQ (fun Q hQ => ?_)
  refine W.nameR (fun R hR => ?_)
  have hRf : 6 ≤ R.frames := by rw [hR]; exact Nat.le_of_ble_eq_true rfl
  have hRl : 156 ≤ R.locals := by rw [hR]; exact Nat.le_of_ble_eq_true rfl
  have hRc : 720 ≤ R.cells := by rw [hR]; exact Nat.le_of_ble_eq_true rfl
  have hRs : 4320 ≤ R.slots := by rw [hR]; exact Nat.le_of_ble_eq_true rfl
  have hW00 := hW
  have i000 := i0
  have i200 := i2
  have i400 := i4
  have i500 := i5
  have i600 := i6
  have i800 := i8
  have hC00 := hC
  have hSC00 := hSC
  obtain ⟨K, L, M, hX0, hF, hT2, hT9, hT1, hT10, hW, hP, hD, i0, i2, i4, i5, i6, i8, hC, hSC, hMe, hKe, hLe⟩ : ∃ (K : Kp) (L : List Nat) (M : Hp), ext K0 L0 K L ∧ fr K0 L0 [0, 1, 2, 7, 8, 9, 10, 21, 56, 57, 63, 64, 65, 66, 67, 68, 69, 70, 71, 72] M0 M ∧ fT 2 K0 L0 [2, 5, 14] M0 M ∧ fT 9 K0 L0 [6, 9, 10, 11, 13, 14, 15] M0 M ∧ fT 1 K0 L0 [3] M0 M ∧ fT 10 K0 L0 [1, 2] M0 M ∧ WOK cy K L M ∧ va_P D vwCl ([(xa, (b11_1 x0 (nI x1) x2 (nI x3) x4 x5 x6 x7 x8 x9 x10))] ++ va_pl L M) s.heap ∧ va_D A ([(xa, (b11_1 x0 (nI x1) x2 (nI x3) x4 x5 x6 x7 x8 x9 x10))] ++ va_pl L M) ∧ isk K L x0 17 8 ∧ isk K L x2 19 40 ∧ isk K L x4 7 0 ∧ isk K L x5 5 0 ∧ isk K L x6 60 24 ∧ isk K L x8 73 25 ∧ CX Bo K L x0 x1 T x3 PK PT SX SY M ∧ SCX x0 x1 SX M ∧ M = M0 ∧ K = K0 ∧ L = L0 := ⟨K0, L0, M0, ext.rf, fr.rf, fT.rf, fT.rf, fT.rf, fT.rf, hW, hP, hD, i0, i2, i4, i5, i6, i8, hC, hSC, rfl, rfl, rfl⟩
  have hl : lv_has ls 6 [(0, .ref xa), (1, .int k1)] := hl
  have hp4 : ∀ q, isk K L q 4 0 → isk K0 L0 q 4 0 := by rw [hKe, hLe]; exact fun q iq => iq
  refine lv_aload_n hx hb dX11_close_0 rfl (lv_at hl 0 rfl) ?_
  refine lv_iload_n hx hb dX11_close_1 rfl (lv_at hl 1 rfl) ?_
  have hPc : va_P D vwCl ([(xa, (b11_1 x0 (nI x1) x2 (nI x3) x4 x5 x6 x7 x8 x9 x10))] ++ va_pl L M) s.heap := hP
  have hDc : va_D A ([(xa, (b11_1 x0 (nI x1) x2 (nI x3) x4 x5 x6 x7 x8 x9 x10))] ++ va_pl L M) := hD
  have hFc : ∀ q, va_A ([(xa, (b11_1 x0 (nI x1) x2 (nI x3) x4 x5 x6 x7 x8 x9 x10))] ++ va_pl L M) s.heap.size q → A q := pg_free hDc hS hA
  refine va_callq (va_runV (As := [.int k1]) (rest := []) ⟨hx, hb, hml, hown, hg⟩ (e_houseAt l D cy K L M s.heap.size xa x0 x1 x2 x3 x4 x5 x6 x7 x8 x9 x10 k1 Bo T PK PT SX SY  hW i0 b1 i2 b3 i4 i5 i6 i8 hC) (cwV 1 hg (gV wd_340 wd_341 wd_342 wd_3 wd_343) rfl rfl rfl (by decide +kernel) ⟨(Nat.le_trans (Nat.le_of_ble_eq_true rfl) hRf), (Nat.le_trans (Nat.le_of_ble_eq_true rfl) hRl)⟩) ⟨PG.blind, va_recv hK hP (ci := 11) (q0 := 0) rfl rfl, fun U hU hW => ⟨rfl, PG.at hPc hK hDc hN hU hW⟩⟩ rfl rfl hl.1 rfl (lv_room (Nat.le_of_ble_eq_true rfl)) dX11_close_2 ⟨(Nat.le_trans (Nat.le_of_ble_eq_true rfl) hRc), (Nat.le_trans (Nat.le_of_ble_eq_true rfl) hRs)⟩) hS (fun q _ h => hFc q h) hFc (fun r_2 M_3 t H_1 locs ht hvm hw hB hz1 hk1 hS => ?_)
  have hp_4 := hw
  obtain ⟨hP1, hD1⟩ := hB
  rw [ht] at hP1
  have hP : va_P D vwCl ([(xa, (b11_1 x0 (nI x1) x2 (nI x3) x4 x5 x6 x7 x8 x9 x10))] ++ va_pl L M) H_1 := hP1
  have hD : va_D A ([(xa, (b11_1 x0 (nI x1) x2 (nI x3) x4 x5 x6 x7 x8 x9 x10))] ++ va_pl L M) := hD1.mono hFc
  obtain ⟨hp_4, hqx⟩ := hp_4
  rcases r_2 with _ | b_5
  · have hz := rfl (a := 0)
    refine lv_astore_nN (lv' := [(2, .null), (0, .ref xa), (1, .int k1)]) hx hb dX11_close_5 rfl hl (by decide) rfl (fun ls hl => ?_)
    refine lv_aload_nN hx hb dX11_close_6 rfl (lv_at hl 0 rfl) ?_
    refine lv_ifnonnullN hx hb dX11_close_7 ?_
    refine lv_aload_n hx hb dX11_close_10 rfl (lv_at hl 1 rfl) ?_
    refine lv_iconst (v := 1) hx hb dX11_close_11 (by decide) ?_
    have hPc := hP.sub (ws' := [(xa, (b11_1 x0 (nI x1) x2 (nI x3) x4 x5 x6 x7 x8 x9 x10))]) [0] rfl
    have hDc := hD.sub (ws' := [(xa, (b11_1 x0 (nI x1) x2 (nI x3) x4 x5 x6 x7 x8 x9 x10))]) [0] (by decide) rfl
    have hKc := hK.sub (tys' := []) [] rfl
    have hFc := va_free (wc := [(xa, (b11_1 x0 (nI x1) x2 (nI x3) x4 x5 x6 x7 x8 x9 x10))]) hD hS hA [0] rfl
    refine va_calli (va_runV (As := [.int 1]) (rest := []) ⟨hx, hb, hml, hown, hg⟩ (k_refuse l D H_1.size xa x0 (nI x1) x2 (nI x3) x4 x5 x6 x7 x8 x9 x10 1) (cwV 1 hg (gV wd_344 wd_345 wd_346 wd_3 wd_347) rfl rfl rfl (by decide +kernel) ⟨(Nat.le_trans (Nat.le_of_ble_eq_true rfl) hRf), (Nat.le_trans (Nat.le_of_ble_eq_true rfl) hRl)⟩) ⟨Pr.blind, va_recv hK hP (ci := 11) (q0 := 0) rfl rfl, fun U hU hW => ⟨rfl, Pr.at hPc hKc hDc hN hU hW⟩⟩ rfl rfl hl.1 rfl (lv_room (Nat.le_of_ble_eq_true rfl)) dX11_close_12 ⟨(Nat.le_trans (Nat.le_of_ble_eq_true rfl) hRc), (Nat.le_trans (Nat.le_of_ble_eq_true rfl) hRs)⟩) hS (fun q _ h => hFc q h) hFc (fun r_7 M_8 t H_6 locs ht hvm hw hB hz1 hk1 hS => ?_)
    have hp_9 := hw
    obtain ⟨hP1, hK1, hD1⟩ := hB
    rw [ht] at hP1
    obtain ⟨hP, hD⟩ := va_joinQ (X := [(xa, (b11_1 x0 (nI x1) x2 (nI x3) x4 x5 x6 x7 x8 x9 x10))]) (cx := [(xa, (b11_1 x0 (nI x1) x2 (nI x3) x4 x5 x6 x7 x8 x9 x10))]) (wr := []) (w1 := [(xa, (b11_1 x0 (nI x1) x2 (nI x3) x4 x5 x6 x7 x8 1 (-1)))]) (pl := va_pl L M) hP hD [0] [] rfl rfl (by decide) (by decide) hk1 hFc hP1 hD1
    have hP : va_P D vwCl ([(xa, (b11_1 x0 (nI x1) x2 (nI x3) x4 x5 x6 x7 x8 1 (-1)))] ++ va_pl L M) H_6 := hP
    have hD : va_D A ([(xa, (b11_1 x0 (nI x1) x2 (nI x3) x4 x5 x6 x7 x8 1 (-1)))] ++ va_pl L M) := hD
    have hq := Eq.symm hp_9
    subst hq
    refine W.widen (k := 720) (n := 4320) (Nat.le_of_ble_eq_true rfl) (Nat.le_of_ble_eq_true rfl) ?_
    have hnh := hqx.2 rfl
    have hno : ¬ okCl x1 PK PT SX SY k1 := fun q9 => by obtain ⟨⟨a0, a1⟩, a2, a3, a4, a5⟩ := q9; omega
    rw [hQ]
    exact W.iret (v := (-1)) hx hb hr (fun t ht hW9 => ⟨⟨(-1), (K, L, M), rfl, ⟨hX0, hW, hF, hT2, hT9, hT1, hT10, (by unfold anCl; rw [if_neg hno])⟩, ⟨1, (-1), (fun X9 Y9 _ => by unfold sxCl syCl; rw [if_neg hno, if_neg hno]; exact hC.mono), (WHR.np (fun w9 => by obtain ⟨⟨a0, a1⟩, a2, a3⟩ := w9; omega)), (fun X9 Y9 _ => by unfold sxCl; rw [if_neg hno]; exact hSC), by rw [ht]; exact hP, hD⟩⟩, hS.F ht⟩) hS.2.2 dX11_close_15
  · have hb_10 := hp_4 b_5 rfl
    refine lv_astore_n (lv' := [(2, .ref b_5), (0, .ref xa), (1, .int k1)]) hx hb dX11_close_5 rfl hl (by decide) rfl (fun ls hl => ?_)
    obtain ⟨hr9, hb9⟩ := hqx.1 b_5 rfl
    have hck : ((k1 : Int32).toNatClampNeg : Int) = (k1 : Int32).toInt := clT (by omega)
    have hkn : (k1 : Int32).toNatClampNeg < x1 := by omega
    have hSM := hC.at hkn hb9
    have hSVk := hSV (k1 : Int32).toNatClampNeg hkn
    have hHIk := hHI (k1 : Int32).toNatClampNeg hkn
    have hV : VC Bo K L M0 M b_5 (cfx M b_5) (cax M b_5) := by rw [← hMe]; exact VC.rf b_5 hC.oc
    have hb90 : RFc (M0 x0) (k1 : Int32).toNatClampNeg = some b_5 := by rw [← hMe]; exact hb9
    obtain ⟨v11_0, v11_1, v11_2, v11_3, v11_4, v11_5, v11_6, v11_7, v11_8, v11_9, v11_10, v11_11, v11_12, v11_13, v11_14, v11_15, v11_16, v11_17, v11_18, v11_19, hM11, h11_3, h11_4, h11_5, h11_6, h11_7, h11_8, h11_9, h11_10, h11_11, h11_12, h11_13, h11_16, h11_17, h11_18, h11_19⟩ := hW.open_2 hb_10
    have hA_12 : (cV 2 M b_5 0).toInt = (v11_0 : Int32).toInt := by rw [cV_of hM11 rfl]
    have hA_13 : (cV 2 M b_5 1).toInt = (v11_1 : Int32).toInt := by rw [cV_of hM11 rfl]
    have hA_14 : (cV 2 M b_5 2).toInt = (v11_2 : Int32).toInt := by rw [cV_of hM11 rfl]
    have hA_15 : (cV 2 M b_5 4).toInt = ((v11_4 : Nat) : Int) := by rw [cV_of hM11 rfl]; exact nI_toInt (by omega)
    have hA_16 : (cV 2 M b_5 5).toInt = ((v11_5 : Nat) : Int) := by rw [cV_of hM11 rfl]; exact nI_toInt (by omega)
    have hA_17 : (cV 2 M b_5 9).toInt = ((v11_9 : Nat) : Int) := by rw [cV_of hM11 rfl]; exact nI_toInt (by omega)
    have hA_18 : (cV 2 M b_5 11).toInt = ((v11_11 : Nat) : Int) := by rw [cV_of hM11 rfl]; exact nI_toInt (by omega)
    have hA_19 : (cV 2 M b_5 15).toInt = (v11_15 : Int32).toInt := by rw [cV_of hM11 rfl]
    have hq0 : (cV 2 M b_5 1).toInt = SX (k1 : Int32).toNatClampNeg 0 := hSM.x0
    have hq1 : (cV 2 M b_5 2).toInt = SX (k1 : Int32).toNatClampNeg 1 := hSM.x1
    have hq10 : (cV 2 M b_5 9).toInt = SX (k1 : Int32).toNatClampNeg 10 := hSM.x10
    have hq11 : (cV 2 M b_5 11).toInt = SX (k1 : Int32).toNatClampNeg 11 := hSM.x11
    have hq12 : (cV 2 M b_5 4).toInt = SX (k1 : Int32).toNatClampNeg 12 := hSM.x12
    have hq13 : (cV 2 M b_5 5).toInt = SX (k1 : Int32).toNatClampNeg 13 := hSM.x13
    have hq14 : (cV 1 M v11_16 3).toInt = SX (k1 : Int32).toNatClampNeg 14 := by have h9 := hSM.x14; rw [← h9]; show _ = (cV 1 M (rA 2 M b_5 16) 3).toInt; rw [rA_of (j := 16) hM11 rfl]
    have hq15 : (cV 1 M v11_17 3).toInt = SX (k1 : Int32).toNatClampNeg 15 := by have h9 := hSM.x15; rw [← h9]; show _ = (cV 1 M (rA 2 M b_5 17) 3).toInt; rw [rA_of (j := 17) hM11 rfl]
    have hq16 : (cV 10 M v11_18 2).toInt = SX (k1 : Int32).toNatClampNeg 16 := by have h9 := hSM.x16; rw [← h9]; show _ = (cV 10 M (rA 2 M b_5 18) 2).toInt; rw [rA_of (j := 18) hM11 rfl]
    have hq19 : (cV 10 M v11_18 1).toInt = cfx M b_5 19 := by show _ = (cV 10 M (rA 2 M b_5 18) 1).toInt; rw [rA_of (j := 18) hM11 rfl]
    have hun := hSM.un
    have hl16 : (ALc (M (rA 1 M v11_16 1)) : Int) = 120 := by have h9 := hC.oc.l16 hW hb_10; rw [rA_of (j := 16) hM11 rfl] at h9; omega
    have hl17 : (ALc (M (rA 1 M v11_17 1)) : Int) = 20 := by have h9 := hC.oc.l17 hW hb_10; rw [rA_of (j := 17) hM11 rfl] at h9; omega
    have hbd0 := hSVk.b0
    have hbd1 := hSVk.b1
    have hbd10 := hSVk.b10
    have hbd11 := hSVk.b11
    have hbd12 := hSVk.b12
    have hbd13 := hSVk.b13
    have hbd14 := hSVk.b14
    have hbd15 := hSVk.b15
    have hbd16 := hSVk.b16
    have hqx14 : cfx M b_5 14 = SX (k1 : Int32).toNatClampNeg 14 := hSM.x14
    have hqx15 : cfx M b_5 15 = SX (k1 : Int32).toNatClampNeg 15 := hSM.x15
    have hqx16 : cfx M b_5 16 = SX (k1 : Int32).toNatClampNeg 16 := hSM.x16
    refine lv_aload_n hx hb dX11_close_6 rfl (lv_at hl 0 rfl) ?_
    refine lv_ifnonnull (tgt := 16) hx hb dX11_close_7 (by decide) ?_
    refine lv_aload_n hx hb dX11_close_16 rfl (lv_at hl 0 rfl) ?_
    refine pg_get (D := D) (ci := 2) (v := .int (nI v11_5)) (C := RX2) (T := TX2) (N := 20) hx hb hg inG2 hown hK hP hb_10.1 hM11 rfl 5 (by decide) (hg _ wd_518) (fun _ h9 => h9) rfl dX11_close_17 ?_
    refine lv_aload_n hx hb dX11_close_20 rfl (lv_at hl 0 rfl) ?_
    refine pg_get (D := D) (ci := 2) (v := .int (nI v11_4)) (C := RX2) (T := TX2) (N := 20) hx hb hg inG2 hown hK hP hb_10.1 hM11 rfl 4 (by decide) (hg _ wd_437) (fun _ h9 => h9) rfl dX11_close_21 ?_
    refine lv_icmp_ge (tgt := 36) hx hb dX11_close_24 (by decide) (fun c_20 => ?_) (fun c_20 => ?_)
    · have hz := rfl (a := 0)
      have n_21 : v11_4 ≤ v11_5 := (iLE (a := v11_4) (b := v11_5) (by omega) (by omega)).mp c_20
      refine lv_aload_n hx hb dX11_close_36 rfl (lv_at hl 1 rfl) ?_
      refine lv_bipush (v := 6) hx hb dX11_close_37 (by decide) ?_
      have hPc := hP.sub (ws' := [(xa, (b11_1 x0 (nI x1) x2 (nI x3) x4 x5 x6 x7 x8 x9 x10))]) [0] rfl
      have hDc := hD.sub (ws' := [(xa, (b11_1 x0 (nI x1) x2 (nI x3) x4 x5 x6 x7 x8 x9 x10))]) [0] (by decide) rfl
      have hKc := hK.sub (tys' := []) [] rfl
      have hFc := va_free (wc := [(xa, (b11_1 x0 (nI x1) x2 (nI x3) x4 x5 x6 x7 x8 x9 x10))]) hD hS hA [0] rfl
      refine va_calli (va_runV (As := [.int 6]) (rest := []) ⟨hx, hb, hml, hown, hg⟩ (k_refuse l D H_1.size xa x0 (nI x1) x2 (nI x3) x4 x5 x6 x7 x8 x9 x10 6) (cwV 1 hg (gV wd_344 wd_345 wd_346 wd_3 wd_347) rfl rfl rfl (by decide +kernel) ⟨(Nat.le_trans (Nat.le_of_ble_eq_true rfl) hRf), (Nat.le_trans (Nat.le_of_ble_eq_true rfl) hRl)⟩) ⟨Pr.blind, va_recv hK hP (ci := 11) (q0 := 0) rfl rfl, fun U hU hW => ⟨rfl, Pr.at hPc hKc hDc hN hU hW⟩⟩ rfl rfl hl.1 rfl (lv_room (Nat.le_of_ble_eq_true rfl)) dX11_close_39 ⟨(Nat.le_trans (Nat.le_of_ble_eq_true rfl) hRc), (Nat.le_trans (Nat.le_of_ble_eq_true rfl) hRs)⟩) hS (fun q _ h => hFc q h) hFc (fun r_23 M_24 t H_22 locs ht hvm hw hB hz1 hk1 hS => ?_)
      have hp_25 := hw
      obtain ⟨hP1, hK1, hD1⟩ := hB
      rw [ht] at hP1
      obtain ⟨hP, hD⟩ := va_joinQ (X := [(xa, (b11_1 x0 (nI x1) x2 (nI x3) x4 x5 x6 x7 x8 x9 x10))]) (cx := [(xa, (b11_1 x0 (nI x1) x2 (nI x3) x4 x5 x6 x7 x8 x9 x10))]) (wr := []) (w1 := [(xa, (b11_1 x0 (nI x1) x2 (nI x3) x4 x5 x6 x7 x8 6 (-1)))]) (pl := va_pl L M) hP hD [0] [] rfl rfl (by decide) (by decide) hk1 hFc hP1 hD1
      have hP : va_P D vwCl ([(xa, (b11_1 x0 (nI x1) x2 (nI x3) x4 x5 x6 x7 x8 6 (-1)))] ++ va_pl L M) H_22 := hP
      have hD : va_D A ([(xa, (b11_1 x0 (nI x1) x2 (nI x3) x4 x5 x6 x7 x8 6 (-1)))] ++ va_pl L M) := hD
      have hq := Eq.symm hp_25
      subst hq
      refine W.widen (k := 720) (n := 4320) (Nat.le_of_ble_eq_true rfl) (Nat.le_of_ble_eq_true rfl) ?_
      have hI_26 : ((v11_4 : Nat) : Int) ≤ ((v11_5 : Nat) : Int) := ileI (nI_toInt (by omega)) (nI_toInt (by omega)) c_20
      have hno : ¬ okCl x1 PK PT SX SY k1 := fun q9 => by obtain ⟨⟨a0, a1⟩, a2, a3, a4, a5⟩ := q9; omega
      rw [hQ]
      exact W.iret (v := (-1)) hx hb hr (fun t ht hW9 => ⟨⟨(-1), (K, L, M), rfl, ⟨hX0, hW, hF, hT2, hT9, hT1, hT10, (by unfold anCl; rw [if_neg hno])⟩, ⟨6, (-1), (fun X9 Y9 _ => by unfold sxCl syCl; rw [if_neg hno, if_neg hno]; exact hC.mono), (WHR.np (fun w9 => by obtain ⟨⟨a0, a1⟩, a2, a3⟩ := w9; omega)), (fun X9 Y9 _ => by unfold sxCl; rw [if_neg hno]; exact hSC), by rw [ht]; exact hP, hD⟩⟩, hS.F ht⟩) hS.2.2 dX11_close_42
    · have hz := rfl (a := 0)
      have n_27 : ¬ (v11_4 ≤ v11_5) := fun q => c_20 ((iLE (a := v11_4) (b := v11_5) (by omega) (by omega)).mpr q)
      refine lv_aload_n hx hb dX11_close_27 rfl (lv_at hl 0 rfl) ?_
      refine pg_get (D := D) (ci := 2) (v := .int (nI v11_5)) (C := RX2) (T := TX2) (N := 20) hx hb hg inG2 hown hK hP hb_10.1 hM11 rfl 5 (by decide) (hg _ wd_518) (fun _ h9 => h9) rfl dX11_close_28 ?_
      refine lv_bipush (v := 12) hx hb dX11_close_31 (by decide) ?_
      refine lv_icmp_lt (tgt := 43) hx hb dX11_close_33 (by decide) (fun c_28 => ?_) (fun c_28 => ?_)
      · have hz := rfl (a := 0)
        have n_29 : v11_5 < 12 := (iLT (a := v11_5) (b := 12) (by omega) (by omega)).mp c_28
        refine lv_aload_n hx hb dX11_close_43 rfl (lv_at hl 0 rfl) ?_
        refine pg_get (D := D) (ci := 2) (v := .int (nI v11_11)) (C := RX2) (T := TX2) (N := 20) hx hb hg inG2 hown hK hP hb_10.1 hM11 rfl 11 (by decide) (hg _ wd_442) (fun _ h9 => h9) rfl dX11_close_44 ?_
        refine lv_if_ne (tgt := 56) hx hb dX11_close_47 (by decide) (fun c_30 => ?_) (fun c_30 => ?_)
        · have hz := rfl (a := 0)
          have n_31 : ¬ (v11_11 = 0) := fun q => c_30 ((iEQ (a := v11_11) (b := 0) (by omega) (by omega)).mpr q)
          refine lv_aload_n hx hb dX11_close_56 rfl (lv_at hl 0 rfl) ?_
          refine pg_get (D := D) (ci := 2) (v := .ref v11_3) (C := RX2) (T := TX2) (N := 20) hx hb hg inG2 hown hK hP hb_10.1 hM11 rfl 3 (by decide) (hg _ wd_438) (fun _ h9 => h9) rfl dX11_close_57 ?_
          refine lv_aload_n hx hb dX11_close_60 rfl (lv_at hl 0 rfl) ?_
          refine pg_get (D := D) (ci := 2) (v := .int (nI v11_5)) (C := RX2) (T := TX2) (N := 20) hx hb hg inG2 hown hK hP hb_10.1 hM11 rfl 5 (by decide) (hg _ wd_518) (fun _ h9 => h9) rfl dX11_close_61 ?_
          obtain ⟨f32, hM32⟩ := hW.open_51 h11_3
          refine pg_iald hx hb hK hP h11_3.1 0 hM32 rfl (inbN v11_5 12 (by omega) (by omega)) dX11_close_64 ?_
          refine lv_topi (fun f_33 ef_33 => ?_)
          have hI_34 : ((v11_5 : Nat) : Int) < ((v11_4 : Nat) : Int) := inleI (nI_toInt (by omega)) (nI_toInt (by omega)) c_20
          have hI_35 : ((v11_5 : Nat) : Int) < (12 : Int) := iltI (nI_toInt (by omega)) rfl c_28
          have hI_36 : ((v11_11 : Nat) : Int) ≠ (0 : Int) := ineI (nI_toInt (by omega)) rfl c_30
          have hEi : f_33 = SY k1.toNatClampNeg 37 (SX k1.toNatClampNeg 13).toNat := by rw [← hSM.en (SX k1.toNatClampNeg 13).toNat (by omega)]; show _ = vEn M b_5 _; unfold vEn; rw [rA_of (j := 3) hM11 rfl, IFc_of hM32, ef_33, nI_cl (by omega)]; congr 1; omega
          have hEd : enD (SX k1.toNatClampNeg) (SY k1.toNatClampNeg) = (f_33 : Int32).toInt := by unfold enD; rw [hEi]
          have hEb := hSVk.r37 (SX k1.toNatClampNeg 13).toNat (by omega)
          rw [← hEi] at hEb
          refine lv_istore_n (lv' := [(3, .int f_33), (2, .ref b_5), (0, .ref xa), (1, .int k1)]) hx hb dX11_close_65 rfl hl (by decide) rfl (fun ls hl => ?_)
          refine lv_aload_n hx hb dX11_close_66 rfl (lv_at hl 1 rfl) ?_
          have hPc : va_P D vwCl ([] ++ va_pl L M) H_1 := hP.part (cx := []) [] rfl
          have hDc : va_D A ([] ++ va_pl L M) := hD.part (cx := []) [] (by decide) rfl
          have hFc : ∀ q, va_A ([] ++ va_pl L M) H_1.size q → A q := pg_free hDc hS hA
          refine va_calli (va_runV (As := []) (rest := []) ⟨hx, hb, hml, hown, hg⟩ (e_fod l D cy K L M H_1.size b_5  hW hb_10 (by omega)) (cwV 0 hg (gV wd_674 wd_327 wd_328 wd_57 wd_329) rfl rfl rfl (by decide +kernel) ⟨(Nat.le_trans (Nat.le_of_ble_eq_true rfl) hRf), (Nat.le_trans (Nat.le_of_ble_eq_true rfl) hRl)⟩) ⟨PG.blind, pg_recv hK hP hb_10.1 hM11 rfl, fun U hU hW => ⟨rfl, PG.at hPc hK hDc hN hU hW⟩⟩ rfl rfl hl.1 rfl (lv_room (Nat.le_of_ble_eq_true rfl)) dX11_close_67 ⟨(Nat.le_trans (Nat.le_of_ble_eq_true rfl) hRc), (Nat.le_trans (Nat.le_of_ble_eq_true rfl) hRs)⟩) hS (fun q _ h => hFc q h) hFc (fun r_38 M_39 t H_37 locs ht hvm hw hB hz1 hk1 hS => ?_)
          have hp_40 := hw
          obtain ⟨hP1, hD1⟩ := hB
          rw [ht] at hP1
          obtain ⟨hP, hD⟩ := va_joinP (X := [(xa, (b11_1 x0 (nI x1) x2 (nI x3) x4 x5 x6 x7 x8 x9 x10))]) (cx := []) (wr := [(xa, (b11_1 x0 (nI x1) x2 (nI x3) x4 x5 x6 x7 x8 x9 x10))]) (rx := []) (pl := va_pl L M) (pl1 := va_pl L M) hP hD [] [0] rfl rfl (by decide) (by decide) hk1 hFc hP1 hD1
          have hP : va_P D vwCl ([(xa, (b11_1 x0 (nI x1) x2 (nI x3) x4 x5 x6 x7 x8 x9 x10))] ++ va_pl L M) H_37 := hP
          have hD : va_D A ([(xa, (b11_1 x0 (nI x1) x2 (nI x3) x4 x5 x6 x7 x8 x9 x10))] ++ va_pl L M) := hD
          obtain ⟨j_41, rfl, c_42⟩ := hp_40
          have hopS : ∀ d : Nat, d < 1000 → (opD (cax M b_5) d ↔ opD (SY k1.toNatClampNeg) d) := fun d hd => by unfold opD; rw [(hSM.pl d hd).1, (hSM.pl d hd).2.1]
          obtain ⟨hf1, hf2, hf3, hf4⟩ := c_42
          have hjI : (nI j_41).toInt = ((j_41 : Nat) : Int) := nI_toInt (by omega)
          refine lv_istore (lv' := [(4, .int (nI j_41)), (3, .int f_33), (2, .ref b_5), (0, .ref xa), (1, .int k1)]) hx hb dX11_close_70 hl (by decide) rfl (fun ls hl => ?_)
          refine lv_iload hx hb dX11_close_72 (lv_at hl 0 rfl) ?_
          refine lv_iload_n hx hb dX11_close_74 rfl (lv_at hl 1 rfl) ?_
          refine lv_icmp_gt (tgt := 86) hx hb dX11_close_75 (by decide) (fun c_43 => ?_) (fun c_43 => ?_)
          · have hz := rfl (a := 0)
            refine lv_aload_n hx hb dX11_close_86 rfl (lv_at hl 3 rfl) ?_
            refine lv_aload_n hx hb dX11_close_87 rfl (lv_at hl 2 rfl) ?_
            refine lv_iload_n hx hb dX11_close_88 rfl (lv_at hl 1 rfl) ?_
            have hPc : va_P D vwCl ([(xa, (b11_1 x0 (nI x1) x2 (nI x3) x4 x5 x6 x7 x8 x9 x10))] ++ va_pl L M) H_37 := hP
            have hDc : va_D A ([(xa, (b11_1 x0 (nI x1) x2 (nI x3) x4 x5 x6 x7 x8 x9 x10))] ++ va_pl L M) := hD
            have hFc : ∀ q, va_A ([(xa, (b11_1 x0 (nI x1) x2 (nI x3) x4 x5 x6 x7 x8 x9 x10))] ++ va_pl L M) H_37.size q → A q := pg_free hDc hS hA
            refine va_calli (va_runV (As := [.ref b_5, .int f_33]) (rest := []) ⟨hx, hb, hml, hown, hg⟩ (e_behind l D cy K L M H_37.size xa x0 x1 x2 x3 x4 x5 x6 x7 x8 x9 x10 b_5 f_33 ((k1 : Int32).toNatClampNeg) Bo T PK PT SX SY  hW i0 b1 i2 b3 i4 i5 i6 i8 hb_10 hC hSV hkn hb9) (cwV 2 hg (gV wd_675 wd_676 wd_677 wd_3 wd_678) rfl rfl rfl (by decide +kernel) ⟨(Nat.le_trans (Nat.le_of_ble_eq_true rfl) hRf), (Nat.le_trans (Nat.le_of_ble_eq_true rfl) hRl)⟩) ⟨PG.blind, va_recv hK hP (ci := 11) (q0 := 0) rfl rfl, fun U hU hW => ⟨rfl, PG.at hPc hK hDc hN hU hW⟩⟩ rfl rfl hl.1 rfl (lv_room (Nat.le_of_ble_eq_true rfl)) dX11_close_89 ⟨(Nat.le_trans (Nat.le_of_ble_eq_true rfl) hRc), (Nat.le_trans (Nat.le_of_ble_eq_true rfl) hRs)⟩) hS (fun q _ h => hFc q h) hFc (fun r_45 M_46 t H_44 locs ht hvm hw hB hz1 hk1 hS => ?_)
            have hp_47 := hw
            obtain ⟨hP1, hD1⟩ := hB
            rw [ht] at hP1
            have hP : va_P D vwCl ([(xa, (b11_1 x0 (nI x1) x2 (nI x3) x4 x5 x6 x7 x8 x9 x10))] ++ va_pl L M) H_44 := hP1
            have hD : va_D A ([(xa, (b11_1 x0 (nI x1) x2 (nI x3) x4 x5 x6 x7 x8 x9 x10))] ++ va_pl L M) := hD1.mono hFc
            rcases hp_47 with ⟨rfl, c_48⟩ | ⟨j_49, rfl, c_50, c_51, c_52⟩
            · have hz := rfl (a := 0)
              refine lv_istore (lv' := [(5, .int (-1)), (4, .int (nI j_41)), (3, .int f_33), (2, .ref b_5), (0, .ref xa), (1, .int k1)]) hx hb dX11_close_92 hl (by decide) rfl (fun ls hl => ?_)
              refine lv_iload hx hb dX11_close_94 (lv_at hl 0 rfl) ?_
              refine lv_iconst (v := (-1)) hx hb dX11_close_96 (by decide) ?_
              refine lv_icmp_eq (tgt := 109) hx hb dX11_close_97 (by decide) (fun _ => ?_) (fun c_53 => absurd c_53 (by decide))
              refine lv_aload_n hx hb dX11_close_109 rfl (lv_at hl 3 rfl) ?_
              refine pg_get (D := D) (ci := 2) (v := .ref v11_19) (C := RX2) (T := TX2) (N := 20) hx hb hg inG2 hown hK hP hb_10.1 hM11 rfl 19 (by decide) (hg _ wd_496) (fun _ h9 => h9) rfl dX11_close_110 ?_
              have hyc9 : 0 ≤ (cfx M b_5) 13 ∧ (cfx M b_5) 13 < 12 := by have h9 : (cfx M b_5) 13 = SX k1.toNatClampNeg 13 := hSM.x13; omega
              have hk2q : 0 ≤ (f_33 : Int32).toInt ∧ (f_33 : Int32).toInt < 1000 := hEb
              have hn28 : ∀ i : Nat, (i : Int) < (cfx M b_5) 10 → (cax M b_5) 28 i = 1 := fun i hi => (hSM.tn i (by have h9 : (cfx M b_5) 10 = SX k1.toNatClampNeg 10 := hSM.x10; omega)).mpr (by have h9 : (cfx M b_5) 10 = SX k1.toNatClampNeg 10 := hSM.x10; omega)
              have hn38 : ∀ i : Nat, (i : Int) < (cfx M b_5) 14 → 0 ≤ (cax M b_5 38 i).toInt := fun i hi => by have h9 : (cfx M b_5) 14 = SX k1.toNatClampNeg 14 := hSM.x14; exact (hSM.mo i (by omega)).2.2.2.1
              have hn33 : ∀ i : Nat, (i : Int) < (cfx M b_5) 11 → (cax M b_5) 33 i = 1 := fun i hi => (hSM.ru i (by have h9 : (cfx M b_5) 11 = SX k1.toNatClampNeg 11 := hSM.x11; omega)).1
              have hb159 : 0 ≤ (cfx M b_5) 15 ∧ (cfx M b_5) 15 ≤ 20 := by have h9 : (cfx M b_5) 15 = SX k1.toNatClampNeg 15 := hSM.x15; have h8 := hSVk.b15; omega
              obtain ⟨hq1, hq2, hq3, hq4⟩ := heC (v13 := (SX k1.toNatClampNeg 13).toNat) (v12 := (SX k1.toNatClampNeg 12).toNat) (n := (f_33 : Int32).toInt.toNat) (hHI k1.toNatClampNeg hkn).2.2.2.2 (by omega) (by omega) (by omega) (by omega) rfl rfl (by rw [← hEi]; exact i32_of (by omega) (by omega)) (by omega)
              have hdy9 : -1 ≤ (cfx M b_5) 1 ∧ (cfx M b_5) 1 + 1 ≤ (f_33 : Int32).toInt ∧ (f_33 : Int32).toInt ≤ (cfx M b_5) 1 + 100 ∧ (f_33 : Int32).toInt < 1000 := by have h9 : (cfx M b_5) 1 = SX k1.toNatClampNeg 1 := hSM.x1; have h8 := hSVk.b1; omega
              have hcl0 : cR 2 M0 b_5 19 = some v11_19 := by rw [← hMe]; exact cR_of (j := 19) hM11 rfl
              refine lv_aload_n hx hb dX11_close_113 rfl (lv_at hl 3 rfl) ?_
              refine lv_iload_n hx hb dX11_close_114 rfl (lv_at hl 2 rfl) ?_
              obtain ⟨v54_0, v54_1, v54_2, v54_3, v54_4, hM54, h54_0, h54_1, h54_2, h54_3⟩ := hW.open_0 h11_19
              have hPc : va_P D vwCl ([] ++ va_pl L M) H_44 := hP.part (cx := []) [] rfl
              have hDc : va_D A ([] ++ va_pl L M) := hD.part (cx := []) [] (by decide) rfl
              have hFc : ∀ q, va_A ([] ++ va_pl L M) H_44.size q → A q := pg_free hDc hS hA
              refine va_callv (va_runV (As := [.ref b_5, .int f_33]) (rest := []) ⟨hx, hb, hml, hown, hg⟩ (e_closeYear l D cy K L M H_44.size v11_19 b_5 f_33 Bo M0 (cfx M b_5) (cax M b_5)  hW h11_19 hb_10 hV hk2q hyc9 hn28 hn33 hdy9 hb159 hn38) (cwV 2 hg (gV wd_679 wd_680 wd_681 wd_204 wd_682) rfl rfl rfl (by decide +kernel) ⟨(Nat.le_trans (Nat.le_of_ble_eq_true rfl) hRf), (Nat.le_trans (Nat.le_of_ble_eq_true rfl) hRl)⟩) ⟨PG.blind, pg_recv hK hP h11_19.1 hM54 rfl, fun U hU hW => ⟨rfl, PG.at hPc hK hDc hN hU hW⟩⟩ rfl rfl hl.1 rfl (lv_room (Nat.le_of_ble_eq_true rfl)) dX11_close_115 ⟨(Nat.le_trans (Nat.le_of_ble_eq_true rfl) hRc), (Nat.le_trans (Nat.le_of_ble_eq_true rfl) hRs)⟩) hS (fun q _ h => hFc q h) hFc (fun M_57 t H_55 locs ht hvm hw hB hz1 hk1 hS => ?_)
              have hWb := hW
              obtain ⟨K9, L9, M_57m⟩ := M_57
              dsimp only at hw hB
              obtain ⟨hx9, hW, hF2, gT2, gT9, gT1, gT10, hp_58⟩ := hw
              obtain ⟨hg_59, hg_60, hg_61, hg_62, hP1, hD1⟩ := hB
              rw [ht] at hP1
              obtain ⟨hP, hD⟩ := va_joinP (X := [(xa, (b11_1 x0 (nI x1) x2 (nI x3) x4 x5 x6 x7 x8 x9 x10))]) (cx := []) (wr := [(xa, (b11_1 x0 (nI x1) x2 (nI x3) x4 x5 x6 x7 x8 x9 x10))]) (rx := []) (pl := va_pl L M) (pl1 := va_pl L9 M_57m) hP hD [] [0] rfl rfl (by decide) (by decide) hk1 hFc hP1 hD1
              have hP : va_P D vwCl ([(xa, (b11_1 x0 (nI x1) x2 (nI x3) x4 x5 x6 x7 x8 x9 x10))] ++ va_pl L9 M_57m) H_55 := hP
              have hD : va_D A ([(xa, (b11_1 x0 (nI x1) x2 (nI x3) x4 x5 x6 x7 x8 x9 x10))] ++ va_pl L9 M_57m) := hD
              have hM_63 : M_57m v11_3 = .inl (cy 14, 12, .inl (f32)) := (hF2.at h11_3 (by decide)).trans hM32
              have hF : fr K0 L0 [0, 1, 2, 7, 8, 9, 10, 21, 56, 57, 63, 64, 65, 66, 67, 68, 69, 70, 71, 72] M0 M_57m := hF.trX hX0 hF2 (by decide)
              have hT2 : fT 2 K0 L0 [2, 5, 14] M0 M_57m := hT2.trX hX0 gT2 (by decide)
              have hT9 : fT 9 K0 L0 [6, 9, 10, 11, 13, 14, 15] M0 M_57m := hT9.trX hX0 gT9 (by decide)
              have hT1 : fT 1 K0 L0 [3] M0 M_57m := hT1.trX hX0 gT1 (by decide)
              have hT10 : fT 10 K0 L0 [1, 2] M0 M_57m := hT10.trX hX0 gT10 (by decide)
              have hX0 := hX0.tr hx9
              obtain ⟨X_64, n_65, p_66, q_67, r_68, g_69, hx99, htb9, hg23, hV⟩ := hg_59
              have hNW9 := hg_60
              have hp4 : ∀ q, isk K9 L9 q 4 0 → isk K0 L0 q 4 0 := fun q iq => hp4 q (hNW9.2 q iq)
              have hOT0 : OTH K0 L0 v11_19 M0 M_57m := by rw [← hKe, ← hLe, ← hMe]; exact hg_61
              have hcntc := hg_62
              have i_70 := i0.ext hx9
              have i_71 := i2.ext hx9
              have i_72 := i4.ext hx9
              have i_73 := i5.ext hx9
              have i_74 := i6.ext hx9
              have i_75 := i8.ext hx9
              have i_76 := hb_10.ext hx9
              have i_77 := h11_3.ext hx9
              have i_78 := h11_19.ext hx9
              obtain ⟨K, L, hK9, hL9⟩ : ∃ (K : Kp) (L : List Nat), K = K9 ∧ L = L9 := ⟨_, _, rfl, rfl⟩
              subst hK9
              subst hL9
              refine W.widen (k := 720) (n := 4320) (Nat.le_of_ble_eq_true rfl) (Nat.le_of_ble_eq_true rfl) ?_
              refine lv_aload_n hx hb dX11_close_118 rfl (lv_at hl 4 rfl) ?_
              refine lv_aload_n hx hb dX11_close_119 rfl (lv_at hl 3 rfl) ?_
              obtain ⟨v79_0, v79_1, v79_2, v79_3, v79_4, v79_5, v79_6, v79_7, v79_8, v79_9, v79_10, v79_11, v79_12, v79_13, v79_14, v79_15, v79_16, v79_17, v79_18, v79_19, hM79, h79_3, h79_4, h79_5, h79_6, h79_7, h79_8, h79_9, h79_10, h79_11, h79_12, h79_13, h79_16, h79_17, h79_18, h79_19⟩ := hW.open_2 i_76
              refine pg_get (D := D) (ci := 2) (v := .int (nI v79_5)) (C := RX2) (T := TX2) (N := 20) hx hb hg inG2 hown hK hP i_76.1 hM79 rfl 5 (by decide) (hg _ wd_518) (fun _ h9 => h9) rfl dX11_close_120 ?_
              have hv13 : ((v79_5 : Nat) : Int) = SX k1.toNatClampNeg 13 + 1 := by have h9 : (cV 2 M_57m b_5 5).toInt = _ := congrFun hV.2.1 13; rw [cV_of (j := 5) hM79 rfl, nI_toInt (by omega), hx99.2.2.2.2.2.1] at h9; have h8 : (cfx M b_5) 13 = SX k1.toNatClampNeg 13 := hSM.x13; omega
              refine lv_iconst (v := 1) hx hb dX11_close_123 (by decide) ?_
              refine lv_isub hx hb dX11_close_124 ?_
              refine lv_topi (fun f_80 ef_80 => ?_)
              obtain rfl : f_80 = (nI (v79_5 - 1)) := ef_80.trans (nI_prd (by omega))
              have hPc := hP.sub (ws' := [(xa, (b11_1 x0 (nI x1) x2 (nI x3) x4 x5 x6 x7 x8 x9 x10))]) [0] rfl
              have hDc := hD.sub (ws' := [(xa, (b11_1 x0 (nI x1) x2 (nI x3) x4 x5 x6 x7 x8 x9 x10))]) [0] (by decide) rfl
              have hKc := hK.sub (tys' := []) [] rfl
              have hFc := va_free (wc := [(xa, (b11_1 x0 (nI x1) x2 (nI x3) x4 x5 x6 x7 x8 x9 x10))]) hD hS hA [0] rfl
              refine va_calli (va_runV (As := [.int (nI (v79_5 - 1))]) (rest := []) ⟨hx, hb, hml, hown, hg⟩ (k_accept l D H_55.size xa x0 (nI x1) x2 (nI x3) x4 x5 x6 x7 x8 x9 x10 (nI (v79_5 - 1))) (cwV 1 hg (gV wd_356 wd_357 wd_358 wd_3 wd_359) rfl rfl rfl (by decide +kernel) ⟨(Nat.le_trans (Nat.le_of_ble_eq_true rfl) hRf), (Nat.le_trans (Nat.le_of_ble_eq_true rfl) hRl)⟩) ⟨Pr.blind, va_recv hK hP (ci := 11) (q0 := 0) rfl rfl, fun U hU hW => ⟨rfl, Pr.at hPc hKc hDc hN hU hW⟩⟩ rfl rfl hl.1 rfl (lv_room (Nat.le_of_ble_eq_true rfl)) dX11_close_125 ⟨(Nat.le_trans (Nat.le_of_ble_eq_true rfl) hRc), (Nat.le_trans (Nat.le_of_ble_eq_true rfl) hRs)⟩) hS (fun q _ h => hFc q h) hFc (fun r_82 M_83 t H_81 locs ht hvm hw hB hz1 hk1 hS => ?_)
              have hp_84 := hw
              obtain ⟨hP1, hK1, hD1⟩ := hB
              rw [ht] at hP1
              obtain ⟨hP, hD⟩ := va_joinQ (X := [(xa, (b11_1 x0 (nI x1) x2 (nI x3) x4 x5 x6 x7 x8 x9 x10))]) (cx := [(xa, (b11_1 x0 (nI x1) x2 (nI x3) x4 x5 x6 x7 x8 x9 x10))]) (wr := []) (w1 := [(xa, (b11_1 x0 (nI x1) x2 (nI x3) x4 x5 x6 x7 x8 0 (-1)))]) (pl := va_pl L M_57m) hP hD [0] [] rfl rfl (by decide) (by decide) hk1 hFc hP1 hD1
              have hP : va_P D vwCl ([(xa, (b11_1 x0 (nI x1) x2 (nI x3) x4 x5 x6 x7 x8 0 (-1)))] ++ va_pl L M_57m) H_81 := hP
              have hD : va_D A ([(xa, (b11_1 x0 (nI x1) x2 (nI x3) x4 x5 x6 x7 x8 0 (-1)))] ++ va_pl L M_57m) := hD
              have hq := Eq.symm hp_84
              subst hq
              have hI_85 : (f_33 : Int32).toInt < ((j_41 : Nat) : Int) := iltI rfl (nI_toInt (by omega)) c_43
              have hyes : okCl x1 PK PT SX SY k1 := ⟨⟨by omega, by omega⟩, by omega, by omega, fun d h1 h2 => (by rw [hEd] at h2; exact fun w9 => hf3 d (by omega) (by omega) ((hopS d (by omega)).mpr w9)), (by rw [hEd]; exact c_48)⟩
              rw [hQ]
              exact W.iret (v := (nI (v79_5 - 1))) hx hb hr (fun t ht hW9 => ⟨⟨(nI (v79_5 - 1)), (K, L, M_57m), rfl, ⟨hX0, hW, hF, hT2, hT9, hT1, hT10, (by unfold anCl; rw [if_pos hyes]; exact congrArg nI (by omega))⟩, ⟨0, (-1), (fun X9 Y9 hF9 => by unfold sxCl syCl; rw [if_pos hyes, if_pos hyes]; have hF8 := hF9 hyes; rw [hEd] at hF8; obtain ⟨z0, z1, z10, z11, z12, z13, z14, z15, z16, z18, z19, z20, zl⟩ := hx99; exact hC00.fin hW00 i000 b1 hkn hb90 hV hX0 (congrArg RFc (hF.at i000 (by decide))) (fun q iq => ⟨hp4 q iq, cR_c (fr.cv hF (by decide) q (hp4 q iq) 3 rfl)⟩) (hSM.close hT.1 hF8 z0 z1 z10 z11 z12 z13 z14 z15 z16 z18 z19 z20 zl (fun j h1 h2 h3 h4 => by rw [va_up_ne _ _ h1, va_up_ne _ _ h4, va_up_ne _ _ h3, va_up_ne _ _ h2]) rfl htb9 hg23)), (WHR.ok hyes), (fun X9 Y9 hF9 => by unfold sxCl; rw [if_pos hyes]; have hF8 := hF9 hyes; rw [hEd] at hF8; exact SCX.close hSC00 hW00 i000 b1 (congrArg RFc (hF.at i000 (by decide))) (fT19 (W2 hW00) hT2 (by decide)) hkn hb90 hcl0 hOT0 (hcntc.trans ((hSM.cnt _).trans hF8.2.2.2.2.2.2.2.2.1.symm))), by rw [ht]; exact hP, hD⟩⟩, hS.F ht⟩) hS.2.2 dX11_close_128
            · have hz := rfl (a := 0)
              refine lv_istore (lv' := [(5, .int (nI j_49)), (4, .int (nI j_41)), (3, .int f_33), (2, .ref b_5), (0, .ref xa), (1, .int k1)]) hx hb dX11_close_92 hl (by decide) rfl (fun ls hl => ?_)
              refine lv_iload hx hb dX11_close_94 (lv_at hl 0 rfl) ?_
              refine lv_iconst (v := (-1)) hx hb dX11_close_96 (by decide) ?_
              refine lv_icmp_eq (tgt := 109) hx hb dX11_close_97 (by decide) (fun c_86 => absurd c_86 (nI_ne_m1 (by omega))) (fun _ => ?_)
              refine lv_aload_n hx hb dX11_close_100 rfl (lv_at hl 4 rfl) ?_
              refine lv_bipush (v := 7) hx hb dX11_close_101 (by decide) ?_
              refine lv_iload hx hb dX11_close_103 (lv_at hl 0 rfl) ?_
              have hPc := hP.sub (ws' := [(xa, (b11_1 x0 (nI x1) x2 (nI x3) x4 x5 x6 x7 x8 x9 x10))]) [0] rfl
              have hDc := hD.sub (ws' := [(xa, (b11_1 x0 (nI x1) x2 (nI x3) x4 x5 x6 x7 x8 x9 x10))]) [0] (by decide) rfl
              have hKc := hK.sub (tys' := []) [] rfl
              have hFc := va_free (wc := [(xa, (b11_1 x0 (nI x1) x2 (nI x3) x4 x5 x6 x7 x8 x9 x10))]) hD hS hA [0] rfl
              refine va_calli (va_runV (As := [.int 7, .int (nI j_49)]) (rest := []) ⟨hx, hb, hml, hown, hg⟩ (k_refuseAt l D H_44.size xa x0 (nI x1) x2 (nI x3) x4 x5 x6 x7 x8 x9 x10 7 (nI j_49)) (cwV 2 hg (gV wd_332 wd_333 wd_334 wd_3 wd_335) rfl rfl rfl (by decide +kernel) ⟨(Nat.le_trans (Nat.le_of_ble_eq_true rfl) hRf), (Nat.le_trans (Nat.le_of_ble_eq_true rfl) hRl)⟩) ⟨Pr.blind, va_recv hK hP (ci := 11) (q0 := 0) rfl rfl, fun U hU hW => ⟨rfl, Pr.at hPc hKc hDc hN hU hW⟩⟩ rfl rfl hl.1 rfl (lv_room (Nat.le_of_ble_eq_true rfl)) dX11_close_105 ⟨(Nat.le_trans (Nat.le_of_ble_eq_true rfl) hRc), (Nat.le_trans (Nat.le_of_ble_eq_true rfl) hRs)⟩) hS (fun q _ h => hFc q h) hFc (fun r_88 M_89 t H_87 locs ht hvm hw hB hz1 hk1 hS => ?_)
              have hp_90 := hw
              obtain ⟨hP1, hK1, hD1⟩ := hB
              rw [ht] at hP1
              obtain ⟨hP, hD⟩ := va_joinQ (X := [(xa, (b11_1 x0 (nI x1) x2 (nI x3) x4 x5 x6 x7 x8 x9 x10))]) (cx := [(xa, (b11_1 x0 (nI x1) x2 (nI x3) x4 x5 x6 x7 x8 x9 x10))]) (wr := []) (w1 := [(xa, (b11_1 x0 (nI x1) x2 (nI x3) x4 x5 x6 x7 x8 7 (nI j_49)))]) (pl := va_pl L M) hP hD [0] [] rfl rfl (by decide) (by decide) hk1 hFc hP1 hD1
              have hP : va_P D vwCl ([(xa, (b11_1 x0 (nI x1) x2 (nI x3) x4 x5 x6 x7 x8 7 (nI j_49)))] ++ va_pl L M) H_87 := hP
              have hD : va_D A ([(xa, (b11_1 x0 (nI x1) x2 (nI x3) x4 x5 x6 x7 x8 7 (nI j_49)))] ++ va_pl L M) := hD
              have hq := Eq.symm hp_90
              subst hq
              refine W.widen (k := 720) (n := 4320) (Nat.le_of_ble_eq_true rfl) (Nat.le_of_ble_eq_true rfl) ?_
              have hI_91 : (f_33 : Int32).toInt < ((j_41 : Nat) : Int) := iltI rfl (nI_toInt (by omega)) c_43
              have hno : ¬ okCl x1 PK PT SX SY k1 := fun q9 => by obtain ⟨⟨a0, a1⟩, a2, a3, a4, a5⟩ := q9; exact a5 j_49 (by omega) (by rw [hEd]; assumption)
              rw [hQ]
              exact W.iret (v := (-1)) hx hb hr (fun t ht hW9 => ⟨⟨(-1), (K, L, M), rfl, ⟨hX0, hW, hF, hT2, hT9, hT1, hT10, (by unfold anCl; rw [if_neg hno])⟩, ⟨7, (nI j_49), (fun X9 Y9 _ => by unfold sxCl syCl; rw [if_neg hno, if_neg hno]; exact hC.mono), (WHR.lg ⟨⟨by omega, by omega⟩, by omega, by omega⟩ (fun d h1 h2 w9 => hf3 d (by omega) (by rw [hEd] at h2; omega) ((hopS d (by rw [hEd] at h2; omega)).mpr w9)) ⟨by omega, by rw [hEd]; exact c_51, by rw [hEd]; exact c_52⟩), (fun X9 Y9 _ => by unfold sxCl; rw [if_neg hno]; exact hSC), by rw [ht]; exact hP, hD⟩⟩, hS.F ht⟩) hS.2.2 dX11_close_108
          · have hz := rfl (a := 0)
            refine lv_aload_n hx hb dX11_close_78 rfl (lv_at hl 3 rfl) ?_
            refine lv_iconst (v := 5) hx hb dX11_close_79 (by decide) ?_
            refine lv_iload hx hb dX11_close_80 (lv_at hl 0 rfl) ?_
            have hPc := hP.sub (ws' := [(xa, (b11_1 x0 (nI x1) x2 (nI x3) x4 x5 x6 x7 x8 x9 x10))]) [0] rfl
            have hDc := hD.sub (ws' := [(xa, (b11_1 x0 (nI x1) x2 (nI x3) x4 x5 x6 x7 x8 x9 x10))]) [0] (by decide) rfl
            have hKc := hK.sub (tys' := []) [] rfl
            have hFc := va_free (wc := [(xa, (b11_1 x0 (nI x1) x2 (nI x3) x4 x5 x6 x7 x8 x9 x10))]) hD hS hA [0] rfl
            refine va_calli (va_runV (As := [.int 5, .int (nI j_41)]) (rest := []) ⟨hx, hb, hml, hown, hg⟩ (k_refuseAt l D H_37.size xa x0 (nI x1) x2 (nI x3) x4 x5 x6 x7 x8 x9 x10 5 (nI j_41)) (cwV 2 hg (gV wd_332 wd_333 wd_334 wd_3 wd_335) rfl rfl rfl (by decide +kernel) ⟨(Nat.le_trans (Nat.le_of_ble_eq_true rfl) hRf), (Nat.le_trans (Nat.le_of_ble_eq_true rfl) hRl)⟩) ⟨Pr.blind, va_recv hK hP (ci := 11) (q0 := 0) rfl rfl, fun U hU hW => ⟨rfl, Pr.at hPc hKc hDc hN hU hW⟩⟩ rfl rfl hl.1 rfl (lv_room (Nat.le_of_ble_eq_true rfl)) dX11_close_82 ⟨(Nat.le_trans (Nat.le_of_ble_eq_true rfl) hRc), (Nat.le_trans (Nat.le_of_ble_eq_true rfl) hRs)⟩) hS (fun q _ h => hFc q h) hFc (fun r_93 M_94 t H_92 locs ht hvm hw hB hz1 hk1 hS => ?_)
            have hp_95 := hw
            obtain ⟨hP1, hK1, hD1⟩ := hB
            rw [ht] at hP1
            obtain ⟨hP, hD⟩ := va_joinQ (X := [(xa, (b11_1 x0 (nI x1) x2 (nI x3) x4 x5 x6 x7 x8 x9 x10))]) (cx := [(xa, (b11_1 x0 (nI x1) x2 (nI x3) x4 x5 x6 x7 x8 x9 x10))]) (wr := []) (w1 := [(xa, (b11_1 x0 (nI x1) x2 (nI x3) x4 x5 x6 x7 x8 5 (nI j_41)))]) (pl := va_pl L M) hP hD [0] [] rfl rfl (by decide) (by decide) hk1 hFc hP1 hD1
            have hP : va_P D vwCl ([(xa, (b11_1 x0 (nI x1) x2 (nI x3) x4 x5 x6 x7 x8 5 (nI j_41)))] ++ va_pl L M) H_92 := hP
            have hD : va_D A ([(xa, (b11_1 x0 (nI x1) x2 (nI x3) x4 x5 x6 x7 x8 5 (nI j_41)))] ++ va_pl L M) := hD
            have hq := Eq.symm hp_95
            subst hq
            refine W.widen (k := 720) (n := 4320) (Nat.le_of_ble_eq_true rfl) (Nat.le_of_ble_eq_true rfl) ?_
            have hI_96 : ((j_41 : Nat) : Int) ≤ (f_33 : Int32).toInt := inltI rfl (nI_toInt (by omega)) c_43
            have hno : ¬ okCl x1 PK PT SX SY k1 := fun q9 => by obtain ⟨⟨a0, a1⟩, a2, a3, a4, a5⟩ := q9; exact a4 j_41 (by omega) (by rw [hEd]; omega) ((hopS j_41 (by omega)).mp (hf4 (by omega)))
            rw [hQ]
            exact W.iret (v := (-1)) hx hb hr (fun t ht hW9 => ⟨⟨(-1), (K, L, M), rfl, ⟨hX0, hW, hF, hT2, hT9, hT1, hT10, (by unfold anCl; rw [if_neg hno])⟩, ⟨5, (nI j_41), (fun X9 Y9 _ => by unfold sxCl syCl; rw [if_neg hno, if_neg hno]; exact hC.mono), (WHR.op ⟨⟨by omega, by omega⟩, by omega, by omega⟩ ⟨by omega, by rw [hEd]; omega, (hopS j_41 (by omega)).mp (hf4 (by omega)), fun d h1 h2 w9 => hf3 d (by omega) (by omega) ((hopS d (by omega)).mpr w9)⟩), (fun X9 Y9 _ => by unfold sxCl; rw [if_neg hno]; exact hSC), by rw [ht]; exact hP, hD⟩⟩, hS.F ht⟩) hS.2.2 dX11_close_85
        · have hz := rfl (a := 0)
          have n_97 : v11_11 = 0 := (iEQ (a := v11_11) (b := 0) (by omega) (by omega)).mp c_30
          refine lv_aload_n hx hb dX11_close_50 rfl (lv_at hl 1 rfl) ?_
          refine lv_iconst (v := 1) hx hb dX11_close_51 (by decide) ?_
          have hPc := hP.sub (ws' := [(xa, (b11_1 x0 (nI x1) x2 (nI x3) x4 x5 x6 x7 x8 x9 x10))]) [0] rfl
          have hDc := hD.sub (ws' := [(xa, (b11_1 x0 (nI x1) x2 (nI x3) x4 x5 x6 x7 x8 x9 x10))]) [0] (by decide) rfl
          have hKc := hK.sub (tys' := []) [] rfl
          have hFc := va_free (wc := [(xa, (b11_1 x0 (nI x1) x2 (nI x3) x4 x5 x6 x7 x8 x9 x10))]) hD hS hA [0] rfl
          refine va_calli (va_runV (As := [.int 1]) (rest := []) ⟨hx, hb, hml, hown, hg⟩ (k_refuse l D H_1.size xa x0 (nI x1) x2 (nI x3) x4 x5 x6 x7 x8 x9 x10 1) (cwV 1 hg (gV wd_344 wd_345 wd_346 wd_3 wd_347) rfl rfl rfl (by decide +kernel) ⟨(Nat.le_trans (Nat.le_of_ble_eq_true rfl) hRf), (Nat.le_trans (Nat.le_of_ble_eq_true rfl) hRl)⟩) ⟨Pr.blind, va_recv hK hP (ci := 11) (q0 := 0) rfl rfl, fun U hU hW => ⟨rfl, Pr.at hPc hKc hDc hN hU hW⟩⟩ rfl rfl hl.1 rfl (lv_room (Nat.le_of_ble_eq_true rfl)) dX11_close_52 ⟨(Nat.le_trans (Nat.le_of_ble_eq_true rfl) hRc), (Nat.le_trans (Nat.le_of_ble_eq_true rfl) hRs)⟩) hS (fun q _ h => hFc q h) hFc (fun r_99 M_100 t H_98 locs ht hvm hw hB hz1 hk1 hS => ?_)
          have hp_101 := hw
          obtain ⟨hP1, hK1, hD1⟩ := hB
          rw [ht] at hP1
          obtain ⟨hP, hD⟩ := va_joinQ (X := [(xa, (b11_1 x0 (nI x1) x2 (nI x3) x4 x5 x6 x7 x8 x9 x10))]) (cx := [(xa, (b11_1 x0 (nI x1) x2 (nI x3) x4 x5 x6 x7 x8 x9 x10))]) (wr := []) (w1 := [(xa, (b11_1 x0 (nI x1) x2 (nI x3) x4 x5 x6 x7 x8 1 (-1)))]) (pl := va_pl L M) hP hD [0] [] rfl rfl (by decide) (by decide) hk1 hFc hP1 hD1
          have hP : va_P D vwCl ([(xa, (b11_1 x0 (nI x1) x2 (nI x3) x4 x5 x6 x7 x8 1 (-1)))] ++ va_pl L M) H_98 := hP
          have hD : va_D A ([(xa, (b11_1 x0 (nI x1) x2 (nI x3) x4 x5 x6 x7 x8 1 (-1)))] ++ va_pl L M) := hD
          have hq := Eq.symm hp_101
          subst hq
          refine W.widen (k := 720) (n := 4320) (Nat.le_of_ble_eq_true rfl) (Nat.le_of_ble_eq_true rfl) ?_
          have hI_102 : ((v11_5 : Nat) : Int) < ((v11_4 : Nat) : Int) := inleI (nI_toInt (by omega)) (nI_toInt (by omega)) c_20
          have hI_103 : ((v11_5 : Nat) : Int) < (12 : Int) := iltI (nI_toInt (by omega)) rfl c_28
          have hI_104 : ((v11_11 : Nat) : Int) = (0 : Int) := ieqI (nI_toInt (by omega)) rfl c_30
          have hno : ¬ okCl x1 PK PT SX SY k1 := fun q9 => by obtain ⟨⟨a0, a1⟩, a2, a3, a4, a5⟩ := q9; omega
          rw [hQ]
          exact W.iret (v := (-1)) hx hb hr (fun t ht hW9 => ⟨⟨(-1), (K, L, M), rfl, ⟨hX0, hW, hF, hT2, hT9, hT1, hT10, (by unfold anCl; rw [if_neg hno])⟩, ⟨1, (-1), (fun X9 Y9 _ => by unfold sxCl syCl; rw [if_neg hno, if_neg hno]; exact hC.mono), (WHR.np (fun w9 => by obtain ⟨⟨a0, a1⟩, a2, a3⟩ := w9; omega)), (fun X9 Y9 _ => by unfold sxCl; rw [if_neg hno]; exact hSC), by rw [ht]; exact hP, hD⟩⟩, hS.F ht⟩) hS.2.2 dX11_close_55
      · have hz := rfl (a := 0)
        have n_105 : ¬ (v11_5 < 12) := fun q => c_28 ((iLT (a := v11_5) (b := 12) (by omega) (by omega)).mpr q)
        refine lv_aload_n hx hb dX11_close_36 rfl (lv_at hl 1 rfl) ?_
        refine lv_bipush (v := 6) hx hb dX11_close_37 (by decide) ?_
        have hPc := hP.sub (ws' := [(xa, (b11_1 x0 (nI x1) x2 (nI x3) x4 x5 x6 x7 x8 x9 x10))]) [0] rfl
        have hDc := hD.sub (ws' := [(xa, (b11_1 x0 (nI x1) x2 (nI x3) x4 x5 x6 x7 x8 x9 x10))]) [0] (by decide) rfl
        have hKc := hK.sub (tys' := []) [] rfl
        have hFc := va_free (wc := [(xa, (b11_1 x0 (nI x1) x2 (nI x3) x4 x5 x6 x7 x8 x9 x10))]) hD hS hA [0] rfl
        refine va_calli (va_runV (As := [.int 6]) (rest := []) ⟨hx, hb, hml, hown, hg⟩ (k_refuse l D H_1.size xa x0 (nI x1) x2 (nI x3) x4 x5 x6 x7 x8 x9 x10 6) (cwV 1 hg (gV wd_344 wd_345 wd_346 wd_3 wd_347) rfl rfl rfl (by decide +kernel) ⟨(Nat.le_trans (Nat.le_of_ble_eq_true rfl) hRf), (Nat.le_trans (Nat.le_of_ble_eq_true rfl) hRl)⟩) ⟨Pr.blind, va_recv hK hP (ci := 11) (q0 := 0) rfl rfl, fun U hU hW => ⟨rfl, Pr.at hPc hKc hDc hN hU hW⟩⟩ rfl rfl hl.1 rfl (lv_room (Nat.le_of_ble_eq_true rfl)) dX11_close_39 ⟨(Nat.le_trans (Nat.le_of_ble_eq_true rfl) hRc), (Nat.le_trans (Nat.le_of_ble_eq_true rfl) hRs)⟩) hS (fun q _ h => hFc q h) hFc (fun r_107 M_108 t H_106 locs ht hvm hw hB hz1 hk1 hS => ?_)
        have hp_109 := hw
        obtain ⟨hP1, hK1, hD1⟩ := hB
        rw [ht] at hP1
        obtain ⟨hP, hD⟩ := va_joinQ (X := [(xa, (b11_1 x0 (nI x1) x2 (nI x3) x4 x5 x6 x7 x8 x9 x10))]) (cx := [(xa, (b11_1 x0 (nI x1) x2 (nI x3) x4 x5 x6 x7 x8 x9 x10))]) (wr := []) (w1 := [(xa, (b11_1 x0 (nI x1) x2 (nI x3) x4 x5 x6 x7 x8 6 (-1)))]) (pl := va_pl L M) hP hD [0] [] rfl rfl (by decide) (by decide) hk1 hFc hP1 hD1
        have hP : va_P D vwCl ([(xa, (b11_1 x0 (nI x1) x2 (nI x3) x4 x5 x6 x7 x8 6 (-1)))] ++ va_pl L M) H_106 := hP
        have hD : va_D A ([(xa, (b11_1 x0 (nI x1) x2 (nI x3) x4 x5 x6 x7 x8 6 (-1)))] ++ va_pl L M) := hD
        have hq := Eq.symm hp_109
        subst hq
        refine W.widen (k := 720) (n := 4320) (Nat.le_of_ble_eq_true rfl) (Nat.le_of_ble_eq_true rfl) ?_
        have hI_110 : ((v11_5 : Nat) : Int) < ((v11_4 : Nat) : Int) := inleI (nI_toInt (by omega)) (nI_toInt (by omega)) c_20
        have hI_111 : (12 : Int) ≤ ((v11_5 : Nat) : Int) := inltI (nI_toInt (by omega)) rfl c_28
        have hno : ¬ okCl x1 PK PT SX SY k1 := fun q9 => by obtain ⟨⟨a0, a1⟩, a2, a3, a4, a5⟩ := q9; omega
        rw [hQ]
        exact W.iret (v := (-1)) hx hb hr (fun t ht hW9 => ⟨⟨(-1), (K, L, M), rfl, ⟨hX0, hW, hF, hT2, hT9, hT1, hT10, (by unfold anCl; rw [if_neg hno])⟩, ⟨6, (-1), (fun X9 Y9 _ => by unfold sxCl syCl; rw [if_neg hno, if_neg hno]; exact hC.mono), (WHR.np (fun w9 => by obtain ⟨⟨a0, a1⟩, a2, a3⟩ := w9; omega)), (fun X9 Y9 _ => by unfold sxCl; rw [if_neg hno]; exact hSC), by rw [ht]; exact hP, hD⟩⟩, hS.F ht⟩) hS.2.2 dX11_close_42
