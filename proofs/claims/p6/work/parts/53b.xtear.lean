def okH (n : Nat) (h : Int32) : Prop := 0 ≤ h.toInt ∧ h.toInt < (n : Int)
def okTr (n : Nat) (SX : Nat → Nat → Int) (SY : Nat → Nat → Nat → Int32) (h d : Int32) : Prop := okH n h ∧ SX h.toNatClampNeg 1 < d.toInt ∧ d.toInt < 1000 ∧ (SY h.toNatClampNeg 2 d.toNatClampNeg).toInt ≠ -1
noncomputable def anTr (n : Nat) (SX : Nat → Nat → Int) (SY : Nat → Nat → Nat → Int32) (h d : Int32) : Int32 := (@ite _ (okTr n SX SY h d) (Classical.propDecidable _) (SY h.toNatClampNeg 3 d.toNatClampNeg) (-1))
noncomputable def sxTr (n : Nat) (SX : Nat → Nat → Int) (SY : Nat → Nat → Nat → Int32) (h d : Int32) : Nat → Nat → Int := (@ite _ (okTr n SX SY h d) (Classical.propDecidable _) (va_up SX h.toNatClampNeg (va_up (SX h.toNatClampNeg) 16 0)) (SX))
noncomputable def syTr (n : Nat) (SX : Nat → Nat → Int) (SY : Nat → Nat → Nat → Int32) (h d : Int32) : Nat → Nat → Nat → Int32 := (@ite _ (okTr n SX SY h d) (Classical.propDecidable _) (va_up SY h.toNatClampNeg (va_up (va_up (SY h.toNatClampNeg) 2 (upd (SY h.toNatClampNeg 2) d.toNatClampNeg (-1))) 3 (upd (SY h.toNatClampNeg 3) d.toNatClampNeg 0))) (SY))
theorem SIM.tear {k : Nat} {T : Int} {np : Nat} {PK PT : Nat → Int32} {x : Nat → Int} {y : Nat → Nat → Int32} {X : Nat → Int} {Y : Nat → Nat → Int32} {d : Nat} {s : Int32} {f : Nat → Int32} (h : SIM k T np PK PT x y X Y) (hT : 0 ≤ T) : SIM k (T + 1) np PK PT (va_up (va_up x 19 0) 16 0) (va_up (va_up (va_up (va_up y 2 (upd (y 2) d (-1))) 3 (upd (y 3) d 0)) 4 (upd (y 4) d s)) 60 (fun z => if z % 1000 = d then f (z / 1000) else y 60 z)) (va_up X 16 0) (va_up (va_up Y 2 (upd (Y 2) d (-1))) 3 (upd (Y 3) d 0)) := by
  have g := ((h.leaf (d := d) (p := -1) (c := 0) (s := s) (s' := Y 4 d) (f := f) (fun z => absurd rfl z) (by decide)).clr hT).up1
  have e : upd (Y 4) d (Y 4 d) = Y 4 := by
    funext i
    by_cases q : i = d
    · rw [q, upd_self]
    · rw [upd_ne _ _ q]
  rw [e] at g
  have e2 : va_up (va_up (va_up Y 2 (upd (Y 2) d (-1))) 3 (upd (Y 3) d 0)) 4 (Y 4) = va_up (va_up Y 2 (upd (Y 2) d (-1))) 3 (upd (Y 3) d 0) := va_upI (va_up (va_up Y 2 (upd (Y 2) d (-1))) 3 (upd (Y 3) d 0)) 4
  rw [e2] at g
  exact g
set_option maxHeartbeats 4000000 in
set_option maxRecDepth 100000 in
theorem x_tear (l : Launch) (D : va_G) (cy : Nat → ClassId) (K : Kp) (L : List Nat) (M : Hp) (sz : Nat) (xa : Nat) (x0 : Nat) (x1 : Nat) (x2 : Nat) (x3 : Nat) (x4 : Nat) (x5 : Nat) (x6 : Nat) (x7 : Int32) (x8 : Nat) (x9 : Int32) (x10 : Int32) (k1 : Int32) (k2 : Int32) (Bo : Nat → Nat × Nat) (T : Int) (PK : Nat → Int32) (PT : Nat → Int32) (SX : Nat → Nat → Int) (SY : Nat → Nat → Nat → Int32) (hW : WOK cy K L M) (i0 : isk K L x0 17 8) (b1 : x1 ≤ 8) (i2 : isk K L x2 19 40) (b3 : x3 ≤ 40) (i4 : isk K L x4 7 0) (i5 : isk K L x5 5 0) (i6 : isk K L x6 60 24) (i8 : isk K L x8 73 25) (hC : CX Bo K L x0 x1 T x3 PK PT SX SY M) (hSV : ∀ k, k < x1 → SV (SX k) (SY k)) (hHI : ∀ k, k < x1 → HI (SX k) (SY k)) (hT : (0 ≤ T ∧ T ≤ 900000)) : Met l yX11_tear (wsM yX11_tear cX11_tear 5 (some .int)) ({ frames := 2, cells := 0, slots := 0, locals := 43 }) (va_Pc [.ref xa, .int k1, .int k2] (PG D cy [(xa, (b11_1 x0 (nI x1) x2 (nI x3) x4 x5 x6 x7 x8 x9 x10))] L M sz)) (va_Qi (fun (r : Int32) (M9 : Hp) => WOK cy K L M9 ∧ fr K L [10, 18] M M9 ∧ fT 10 K L [1, 2] M M9 ∧ (CX Bo K L x0 x1 (T + 1) x3 PK PT (sxTr x1 SX SY k1 k2) (syTr x1 SX SY k1 k2) M9) ∧ ((r = anTr x1 SX SY k1 k2))) (fun M9 t => ∃ (w9 : Int32), PQ D [(xa, (b11_1 x0 (nI x1) x2 (nI x3) x4 x5 x6 x7 x8 w9 (-1)))] L M9 (va_A ([(xa, (b11_1 x0 (nI x1) x2 (nI x3) x4 x5 x6 x7 x8 x9 x10))] ++ va_pl L M) sz) t) (va_A ([(xa, (b11_1 x0 (nI x1) x2 (nI x3) x4 x5 x6 x7 x8 x9 x10))] ++ va_pl L M) sz)) 0 0 (va_A ([(xa, (b11_1 x0 (nI x1) x2 (nI x3) x4 x5 x6 x7 x8 x9 x10))] ++ va_pl L M) sz) := by
  refine Met.ofW (cc := cX11_tear) (maxL := 5) (ret := (some .int)) (by decide) rfl ?_
  intro p e s m args below meth c s₁ B hml hv
  obtain ⟨rfl, hsz, hP, hK, hD0, hN⟩ := hv
  have hx := B.exec
  have hb := B.bytes
  have hr := B.returns
  have hts := atoms_spec (ws := (wsM yX11_tear cX11_tear 5 (some .int))) B.pre
  have hg : ∀ w ∈ lw_good, w.before _ s = true := fun w h => hts w (List.mem_cons_of_mem _ h)
  have hown : s.vm.findClass RX11 = some m.cls := findClass_of_methodNamed B.named
  have hlocks := B.notSynchronized
  subst hsz
  have hD := hD0.self (sz := s.heap.size)
  generalize hAe : va_A ([(xa, (b11_1 x0 (nI x1) x2 (nI x3) x4 x5 x6 x7 x8 x9 x10))] ++ va_pl L M) s.heap.size = A at hD ⊢
  have hA : ∀ q : Nat, s.heap.size ≤ q → A q := fun q h => by rw [← hAe]; exact Or.inr h
  have hS : va_S A s.heap s.heap [] := va_S.rf
  have hl := lv_entry ([.ref xa, .int k1, .int k2]) (n := 5) (Nat.le_of_ble_eq_true rfl)
  rw [lg_entry_eq]
  generalize (lg_sl ([.ref xa, .int k1, .int k2]) ++ List.replicate (5 - (lg_sl ([.ref xa, .int k1, .int k2])).length) Slot.unset).toArray = ls at hl ⊢
  refine W.nameQ (fun Q hQ => ?_)
  refine W.nameR (fun R hR => ?_)
  have hRf : 2 ≤ R.frames := by rw [hR]; exact Nat.le_of_ble_eq_true rfl
  have hRl : 43 ≤ R.locals := by rw [hR]; exact Nat.le_of_ble_eq_true rfl
  have hRc : 0 ≤ R.cells := by rw [hR]; exact Nat.le_of_ble_eq_true rfl
  have hRs : 0 ≤ R.slots := by rw [hR]; exact Nat.le_of_ble_eq_true rfl
  have hF : fr K L [10, 18] M M := fr.rf
  have hT10 : fT 10 K L [1, 2] M M := fT.rf
  have hl : lv_has ls 5 [(0, .ref xa), (1, .int k1), (2, .int k2)] := hl
  have hW0 := hW
  refine lv_aload_n hx hb dX11_tear_0 rfl (lv_at hl 0 rfl) ?_
  refine lv_iload_n hx hb dX11_tear_1 rfl (lv_at hl 1 rfl) ?_
  have hPc : va_P D vwCl ([(xa, (b11_1 x0 (nI x1) x2 (nI x3) x4 x5 x6 x7 x8 x9 x10))] ++ va_pl L M) s.heap := hP
  have hDc : va_D A ([(xa, (b11_1 x0 (nI x1) x2 (nI x3) x4 x5 x6 x7 x8 x9 x10))] ++ va_pl L M) := hD
  have hFc : ∀ q, va_A ([(xa, (b11_1 x0 (nI x1) x2 (nI x3) x4 x5 x6 x7 x8 x9 x10))] ++ va_pl L M) s.heap.size q → A q := pg_free hDc hS hA
  refine va_callq (va_runV (As := [.int k1]) (rest := []) ⟨hx, hb, hml, hown, hg⟩ (e_houseAt l D cy K L M s.heap.size xa x0 x1 x2 x3 x4 x5 x6 x7 x8 x9 x10 k1 Bo T PK PT SX SY  hW i0 b1 i2 b3 i4 i5 i6 i8 hC) (cwV 1 hg (gV wd_340 wd_341 wd_342 wd_3 wd_343) rfl rfl rfl (by decide +kernel) ⟨(Nat.le_trans (Nat.le_of_ble_eq_true rfl) hRf), (Nat.le_trans (Nat.le_of_ble_eq_true rfl) hRl)⟩) ⟨PG.blind, va_recv hK hP (ci := 11) (q0 := 0) rfl rfl, fun U hU hW => ⟨rfl, PG.at hPc hK hDc hN hU hW⟩⟩ rfl rfl hl.1 rfl (lv_room (Nat.le_of_ble_eq_true rfl)) dX11_tear_2 ⟨(Nat.le_trans (Nat.le_of_ble_eq_true rfl) hRc), (Nat.le_trans (Nat.le_of_ble_eq_true rfl) hRs)⟩) hS (fun q _ h => hFc q h) hFc (fun r_2 M_3 t H_1 locs ht hvm hw hB hz1 hk1 hS => ?_)
  have hp_4 := hw
  obtain ⟨hP1, hD1⟩ := hB
  rw [ht] at hP1
  have hP : va_P D vwCl ([(xa, (b11_1 x0 (nI x1) x2 (nI x3) x4 x5 x6 x7 x8 x9 x10))] ++ va_pl L M) H_1 := hP1
  have hD : va_D A ([(xa, (b11_1 x0 (nI x1) x2 (nI x3) x4 x5 x6 x7 x8 x9 x10))] ++ va_pl L M) := hD1.mono hFc
  obtain ⟨hp_4, hqx⟩ := hp_4
  rcases r_2 with _ | b_5
  · have hz := rfl (a := 0)
    refine lv_astore_nN (lv' := [(3, .null), (0, .ref xa), (1, .int k1), (2, .int k2)]) hx hb dX11_tear_5 rfl hl (by decide) rfl (fun ls hl => ?_)
    refine lv_aload_nN hx hb dX11_tear_6 rfl (lv_at hl 0 rfl) ?_
    refine lv_ifnonnullN hx hb dX11_tear_7 ?_
    refine lv_aload_n hx hb dX11_tear_10 rfl (lv_at hl 1 rfl) ?_
    refine lv_iconst (v := 1) hx hb dX11_tear_11 (by decide) ?_
    have hPc := hP.sub (ws' := [(xa, (b11_1 x0 (nI x1) x2 (nI x3) x4 x5 x6 x7 x8 x9 x10))]) [0] rfl
    have hDc := hD.sub (ws' := [(xa, (b11_1 x0 (nI x1) x2 (nI x3) x4 x5 x6 x7 x8 x9 x10))]) [0] (by decide) rfl
    have hKc := hK.sub (tys' := []) [] rfl
    have hFc := va_free (wc := [(xa, (b11_1 x0 (nI x1) x2 (nI x3) x4 x5 x6 x7 x8 x9 x10))]) hD hS hA [0] rfl
    refine va_calli (va_runV (As := [.int 1]) (rest := []) ⟨hx, hb, hml, hown, hg⟩ (k_refuse l D H_1.size xa x0 (nI x1) x2 (nI x3) x4 x5 x6 x7 x8 x9 x10 1) (cwV 1 hg (gV wd_344 wd_345 wd_346 wd_3 wd_347) rfl rfl rfl (by decide +kernel) ⟨(Nat.le_trans (Nat.le_of_ble_eq_true rfl) hRf), (Nat.le_trans (Nat.le_of_ble_eq_true rfl) hRl)⟩) ⟨Pr.blind, va_recv hK hP (ci := 11) (q0 := 0) rfl rfl, fun U hU hW => ⟨rfl, Pr.at hPc hKc hDc hN hU hW⟩⟩ rfl rfl hl.1 rfl (lv_room (Nat.le_of_ble_eq_true rfl)) dX11_tear_12 ⟨(Nat.le_trans (Nat.le_of_ble_eq_true rfl) hRc), (Nat.le_trans (Nat.le_of_ble_eq_true rfl) hRs)⟩) hS (fun q _ h => hFc q h) hFc (fun r_7 M_8 t H_6 locs ht hvm hw hB hz1 hk1 hS => ?_)
    have hp_9 := hw
    obtain ⟨hP1, hK1, hD1⟩ := hB
    rw [ht] at hP1
    obtain ⟨hP, hD⟩ := va_joinQ (X := [(xa, (b11_1 x0 (nI x1) x2 (nI x3) x4 x5 x6 x7 x8 x9 x10))]) (cx := [(xa, (b11_1 x0 (nI x1) x2 (nI x3) x4 x5 x6 x7 x8 x9 x10))]) (wr := []) (w1 := [(xa, (b11_1 x0 (nI x1) x2 (nI x3) x4 x5 x6 x7 x8 1 (-1)))]) (pl := va_pl L M) hP hD [0] [] rfl rfl (by decide) (by decide) hk1 hFc hP1 hD1
    have hP : va_P D vwCl ([(xa, (b11_1 x0 (nI x1) x2 (nI x3) x4 x5 x6 x7 x8 1 (-1)))] ++ va_pl L M) H_6 := hP
    have hD : va_D A ([(xa, (b11_1 x0 (nI x1) x2 (nI x3) x4 x5 x6 x7 x8 1 (-1)))] ++ va_pl L M) := hD
    have hq := Eq.symm hp_9
    subst hq
    have hnh := hqx.2 rfl
    have hno : ¬ okTr x1 SX SY k1 k2 := fun q9 => by unfold okTr okH at q9; first | omega | (obtain ⟨⟨_, _⟩, _, _, _⟩ := q9; first | omega | contradiction)
    rw [hQ]
    exact W.iret (v := (-1)) hx hb hr (fun t ht hW9 => ⟨⟨(-1), M, rfl, ⟨hW, hF, hT10, (by unfold sxTr syTr; rw [if_neg hno, if_neg hno]; exact hC.mono), (by unfold anTr; rw [if_neg hno])⟩, ⟨1, by rw [ht]; exact hP, hD⟩⟩, hS.F ht⟩) hS.2.2 dX11_tear_15
  · have hb_10 := hp_4 b_5 rfl
    refine lv_astore_n (lv' := [(3, .ref b_5), (0, .ref xa), (1, .int k1), (2, .int k2)]) hx hb dX11_tear_5 rfl hl (by decide) rfl (fun ls hl => ?_)
    obtain ⟨hr9, hb9⟩ := hqx.1 b_5 rfl
    have hck : ((k1 : Int32).toNatClampNeg : Int) = (k1 : Int32).toInt := clT (by omega)
    have hkn : (k1 : Int32).toNatClampNeg < x1 := by omega
    have hSM := hC.at hkn hb9
    have hSVk := hSV (k1 : Int32).toNatClampNeg hkn
    have hHIk := hHI (k1 : Int32).toNatClampNeg hkn
    have hV : VC Bo K L M M b_5 (cfx M b_5) (cax M b_5) := VC.rf b_5 hC.oc
    obtain ⟨v11_0, v11_1, v11_2, v11_3, v11_4, v11_5, v11_6, v11_7, v11_8, v11_9, v11_10, v11_11, v11_12, v11_13, v11_14, v11_15, v11_16, v11_17, v11_18, v11_19, hM11, h11_3, h11_4, h11_5, h11_6, h11_7, h11_8, h11_9, h11_10, h11_11, h11_12, h11_13, h11_16, h11_17, h11_18, h11_19⟩ := hW.open_2 hb_10
    have hA_12 : (cV 2 M b_5 0).toInt = (v11_0 : Int32).toInt := by rw [cV_of hM11 rfl]
    have hA_13 : (cV 2 M b_5 1).toInt = (v11_1 : Int32).toInt := by rw [cV_of hM11 rfl]
    have hA_14 : (cV 2 M b_5 2).toInt = (v11_2 : Int32).toInt := by rw [cV_of hM11 rfl]
    have hA_15 : (cV 2 M b_5 4).toInt = ((v11_4 : Nat) : Int) := by rw [cV_of hM11 rfl]; exact nI_toInt (by omega)
    have hA_16 : (cV 2 M b_5 5).toInt = ((v11_5 : Nat) : Int) := by rw [cV_of hM11 rfl]; exact nI_toInt (by omega)
    have hA_17 : (cV 2 M b_5 9).toInt = ((v11_9 : Nat) : Int) := by rw [cV_of hM11 rfl]; exact nI_toInt (by omega)
    have hA_18 : (cV 2 M b_5 11).toInt = ((v11_11 : Nat) : Int) := by rw [cV_of hM11 rfl]; exact nI_toInt (by omega)
    have hA_19 : (cV 2 M b_5 15).toInt = (v11_15 : Int32).toInt := by rw [cV_of hM11 rfl]
    have hq0 : (cV 2 M b_5 1).toInt = SX (k1 : Int32).toNatClampNeg 0 := hSM.x0
    have hq1 : (cV 2 M b_5 2).toInt = SX (k1 : Int32).toNatClampNeg 1 := hSM.x1
    have hq10 : (cV 2 M b_5 9).toInt = SX (k1 : Int32).toNatClampNeg 10 := hSM.x10
    have hq11 : (cV 2 M b_5 11).toInt = SX (k1 : Int32).toNatClampNeg 11 := hSM.x11
    have hq12 : (cV 2 M b_5 4).toInt = SX (k1 : Int32).toNatClampNeg 12 := hSM.x12
    have hq13 : (cV 2 M b_5 5).toInt = SX (k1 : Int32).toNatClampNeg 13 := hSM.x13
    have hq14 : (cV 1 M v11_16 3).toInt = SX (k1 : Int32).toNatClampNeg 14 := by have h9 := hSM.x14; rw [← h9]; show _ = (cV 1 M (rA 2 M b_5 16) 3).toInt; rw [rA_of (j := 16) hM11 rfl]
    have hq15 : (cV 1 M v11_17 3).toInt = SX (k1 : Int32).toNatClampNeg 15 := by have h9 := hSM.x15; rw [← h9]; show _ = (cV 1 M (rA 2 M b_5 17) 3).toInt; rw [rA_of (j := 17) hM11 rfl]
    have hq16 : (cV 10 M v11_18 2).toInt = SX (k1 : Int32).toNatClampNeg 16 := by have h9 := hSM.x16; rw [← h9]; show _ = (cV 10 M (rA 2 M b_5 18) 2).toInt; rw [rA_of (j := 18) hM11 rfl]
    have hq19 : (cV 10 M v11_18 1).toInt = cfx M b_5 19 := by show _ = (cV 10 M (rA 2 M b_5 18) 1).toInt; rw [rA_of (j := 18) hM11 rfl]
    have hun := hSM.un
    have hl16 : (ALc (M (rA 1 M v11_16 1)) : Int) = 120 := by have h9 := hC.oc.l16 hW hb_10; rw [rA_of (j := 16) hM11 rfl] at h9; omega
    have hl17 : (ALc (M (rA 1 M v11_17 1)) : Int) = 20 := by have h9 := hC.oc.l17 hW hb_10; rw [rA_of (j := 17) hM11 rfl] at h9; omega
    have hbd0 := hSVk.b0
    have hbd1 := hSVk.b1
    have hbd10 := hSVk.b10
    have hbd11 := hSVk.b11
    have hbd12 := hSVk.b12
    have hbd13 := hSVk.b13
    have hbd14 := hSVk.b14
    have hbd15 := hSVk.b15
    have hbd16 := hSVk.b16
    have hqx14 : cfx M b_5 14 = SX (k1 : Int32).toNatClampNeg 14 := hSM.x14
    have hqx15 : cfx M b_5 15 = SX (k1 : Int32).toNatClampNeg 15 := hSM.x15
    have hqx16 : cfx M b_5 16 = SX (k1 : Int32).toNatClampNeg 16 := hSM.x16
    refine lv_aload_n hx hb dX11_tear_6 rfl (lv_at hl 0 rfl) ?_
    refine lv_ifnonnull (tgt := 16) hx hb dX11_tear_7 (by decide) ?_
    refine lv_aload_n hx hb dX11_tear_16 rfl (lv_at hl 0 rfl) ?_
    refine lv_iload_n hx hb dX11_tear_17 rfl (lv_at hl 3 rfl) ?_
    have hPc : va_P D vwCl ([] ++ va_pl L M) H_1 := hP.part (cx := []) [] rfl
    have hDc : va_D A ([] ++ va_pl L M) := hD.part (cx := []) [] (by decide) rfl
    have hFc : ∀ q, va_A ([] ++ va_pl L M) H_1.size q → A q := pg_free hDc hS hA
    refine va_calli (va_runV (As := [.int k2]) (rest := []) ⟨hx, hb, hml, hown, hg⟩ (e_X2_isFree l D cy K L M H_1.size b_5 k2  hW hb_10) (cwV 1 hg (gV wd_361 wd_362 wd_363 wd_57 wd_364) rfl rfl rfl (by decide +kernel) ⟨(Nat.le_trans (Nat.le_of_ble_eq_true rfl) hRf), (Nat.le_trans (Nat.le_of_ble_eq_true rfl) hRl)⟩) ⟨PG.blind, pg_recv hK hP hb_10.1 hM11 rfl, fun U hU hW => ⟨rfl, PG.at hPc hK hDc hN hU hW⟩⟩ rfl rfl hl.1 rfl (lv_room (Nat.le_of_ble_eq_true rfl)) dX11_tear_18 ⟨(Nat.le_trans (Nat.le_of_ble_eq_true rfl) hRc), (Nat.le_trans (Nat.le_of_ble_eq_true rfl) hRs)⟩) hS (fun q _ h => hFc q h) hFc (fun r_21 M_22 t H_20 locs ht hvm hw hB hz1 hk1 hS => ?_)
    have hp_23 := hw
    obtain ⟨hP1, hD1⟩ := hB
    rw [ht] at hP1
    obtain ⟨hP, hD⟩ := va_joinP (X := [(xa, (b11_1 x0 (nI x1) x2 (nI x3) x4 x5 x6 x7 x8 x9 x10))]) (cx := []) (wr := [(xa, (b11_1 x0 (nI x1) x2 (nI x3) x4 x5 x6 x7 x8 x9 x10))]) (rx := []) (pl := va_pl L M) (pl1 := va_pl L M) hP hD [] [0] rfl rfl (by decide) (by decide) hk1 hFc hP1 hD1
    have hP : va_P D vwCl ([(xa, (b11_1 x0 (nI x1) x2 (nI x3) x4 x5 x6 x7 x8 x9 x10))] ++ va_pl L M) H_20 := hP
    have hD : va_D A ([(xa, (b11_1 x0 (nI x1) x2 (nI x3) x4 x5 x6 x7 x8 x9 x10))] ++ va_pl L M) := hD
    rcases hp_23 with ⟨rfl, c_24, c_25, c_26⟩ | ⟨rfl, c_27⟩
    · have hz := rfl (a := 0)
      refine lv_if_ne (tgt := 30) hx hb dX11_tear_21 (by decide) (fun _ => ?_) (fun c_28 => absurd c_28 (by decide))
      refine lv_aload_n hx hb dX11_tear_30 rfl (lv_at hl 0 rfl) ?_
      refine lv_iload_n hx hb dX11_tear_31 rfl (lv_at hl 3 rfl) ?_
      have hPc : va_P D vwCl ([] ++ va_pl L M) H_20 := hP.part (cx := []) [] rfl
      have hDc : va_D A ([] ++ va_pl L M) := hD.part (cx := []) [] (by decide) rfl
      have hFc : ∀ q, va_A ([] ++ va_pl L M) H_20.size q → A q := pg_free hDc hS hA
      refine va_callq (va_runV (As := [.int k2]) (rest := []) ⟨hx, hb, hml, hown, hg⟩ (e_X2_leafOn l D cy K L M H_20.size b_5 k2  hW hb_10) (cwV 1 hg (gV wd_376 wd_71 wd_72 wd_57 wd_73) rfl rfl rfl (by decide +kernel) ⟨(Nat.le_trans (Nat.le_of_ble_eq_true rfl) hRf), (Nat.le_trans (Nat.le_of_ble_eq_true rfl) hRl)⟩) ⟨PG.blind, pg_recv hK hP hb_10.1 hM11 rfl, fun U hU hW => ⟨rfl, PG.at hPc hK hDc hN hU hW⟩⟩ rfl rfl hl.1 rfl (lv_room (Nat.le_of_ble_eq_true rfl)) dX11_tear_32 ⟨(Nat.le_trans (Nat.le_of_ble_eq_true rfl) hRc), (Nat.le_trans (Nat.le_of_ble_eq_true rfl) hRs)⟩) hS (fun q _ h => hFc q h) hFc (fun r_30 M_31 t H_29 locs ht hvm hw hB hz1 hk1 hS => ?_)
      have hp_32 := hw
      obtain ⟨hP1, hD1⟩ := hB
      rw [ht] at hP1
      obtain ⟨hP, hD⟩ := va_joinP (X := [(xa, (b11_1 x0 (nI x1) x2 (nI x3) x4 x5 x6 x7 x8 x9 x10))]) (cx := []) (wr := [(xa, (b11_1 x0 (nI x1) x2 (nI x3) x4 x5 x6 x7 x8 x9 x10))]) (rx := []) (pl := va_pl L M) (pl1 := va_pl L M) hP hD [] [0] rfl rfl (by decide) (by decide) hk1 hFc hP1 hD1
      have hP : va_P D vwCl ([(xa, (b11_1 x0 (nI x1) x2 (nI x3) x4 x5 x6 x7 x8 x9 x10))] ++ va_pl L M) H_29 := hP
      have hD : va_D A ([(xa, (b11_1 x0 (nI x1) x2 (nI x3) x4 x5 x6 x7 x8 x9 x10))] ++ va_pl L M) := hD
      obtain ⟨hp_32, hqx⟩ := hp_32
      rcases r_30 with _ | b_33
      · have hz := rfl (a := 0)
        have hcd : ((k2 : Int32).toNatClampNeg : Int) = (k2 : Int32).toInt := clT (by omega)
        have hdn : (k2 : Int32).toNatClampNeg < 1000 := by omega
        have hpl := hSM.pl (k2 : Int32).toNatClampNeg hdn
        have hr2 := hSVk.r2 (k2 : Int32).toNatClampNeg hdn
        have hr3 := hSVk.r3 (k2 : Int32).toNatClampNeg hdn
        have hp2 : (SY (k1 : Int32).toNatClampNeg 2 (k2 : Int32).toNatClampNeg).toInt = -1 := by rw [← hpl.1, (lk_lf0 ((hqx.2 rfl).resolve_left (fun z9 => z9 (by omega))) hdn).1]; rfl
        refine lv_astoreN (lv' := [(4, .null), (3, .ref b_5), (0, .ref xa), (1, .int k1), (2, .int k2)]) hx hb dX11_tear_35 hl (by decide) rfl (fun ls hl => ?_)
        refine lv_aloadN hx hb dX11_tear_37 (lv_at hl 0 rfl) ?_
        refine lv_ifnonnullN hx hb dX11_tear_39 ?_
        refine lv_aload_n hx hb dX11_tear_42 rfl (lv_at hl 2 rfl) ?_
        refine lv_bipush (v := 10) hx hb dX11_tear_43 (by decide) ?_
        have hPc := hP.sub (ws' := [(xa, (b11_1 x0 (nI x1) x2 (nI x3) x4 x5 x6 x7 x8 x9 x10))]) [0] rfl
        have hDc := hD.sub (ws' := [(xa, (b11_1 x0 (nI x1) x2 (nI x3) x4 x5 x6 x7 x8 x9 x10))]) [0] (by decide) rfl
        have hKc := hK.sub (tys' := []) [] rfl
        have hFc := va_free (wc := [(xa, (b11_1 x0 (nI x1) x2 (nI x3) x4 x5 x6 x7 x8 x9 x10))]) hD hS hA [0] rfl
        refine va_calli (va_runV (As := [.int 10]) (rest := []) ⟨hx, hb, hml, hown, hg⟩ (k_refuse l D H_29.size xa x0 (nI x1) x2 (nI x3) x4 x5 x6 x7 x8 x9 x10 10) (cwV 1 hg (gV wd_344 wd_345 wd_346 wd_3 wd_347) rfl rfl rfl (by decide +kernel) ⟨(Nat.le_trans (Nat.le_of_ble_eq_true rfl) hRf), (Nat.le_trans (Nat.le_of_ble_eq_true rfl) hRl)⟩) ⟨Pr.blind, va_recv hK hP (ci := 11) (q0 := 0) rfl rfl, fun U hU hW => ⟨rfl, Pr.at hPc hKc hDc hN hU hW⟩⟩ rfl rfl hl.1 rfl (lv_room (Nat.le_of_ble_eq_true rfl)) dX11_tear_45 ⟨(Nat.le_trans (Nat.le_of_ble_eq_true rfl) hRc), (Nat.le_trans (Nat.le_of_ble_eq_true rfl) hRs)⟩) hS (fun q _ h => hFc q h) hFc (fun r_35 M_36 t H_34 locs ht hvm hw hB hz1 hk1 hS => ?_)
        have hp_37 := hw
        obtain ⟨hP1, hK1, hD1⟩ := hB
        rw [ht] at hP1
        obtain ⟨hP, hD⟩ := va_joinQ (X := [(xa, (b11_1 x0 (nI x1) x2 (nI x3) x4 x5 x6 x7 x8 x9 x10))]) (cx := [(xa, (b11_1 x0 (nI x1) x2 (nI x3) x4 x5 x6 x7 x8 x9 x10))]) (wr := []) (w1 := [(xa, (b11_1 x0 (nI x1) x2 (nI x3) x4 x5 x6 x7 x8 10 (-1)))]) (pl := va_pl L M) hP hD [0] [] rfl rfl (by decide) (by decide) hk1 hFc hP1 hD1
        have hP : va_P D vwCl ([(xa, (b11_1 x0 (nI x1) x2 (nI x3) x4 x5 x6 x7 x8 10 (-1)))] ++ va_pl L M) H_34 := hP
        have hD : va_D A ([(xa, (b11_1 x0 (nI x1) x2 (nI x3) x4 x5 x6 x7 x8 10 (-1)))] ++ va_pl L M) := hD
        have hq := Eq.symm hp_37
        subst hq
        have hI_38 : (0 : Int) ≤ (k2 : Int32).toInt := inltI rfl rfl c_25
        have hI_39 : (k2 : Int32).toInt ≤ (999 : Int) := inltI rfl rfl c_26
        have hno : ¬ okTr x1 SX SY k1 k2 := fun q9 => by unfold okTr okH at q9; first | omega | (obtain ⟨⟨_, _⟩, _, _, _⟩ := q9; first | omega | contradiction)
        rw [hQ]
        exact W.iret (v := (-1)) hx hb hr (fun t ht hW9 => ⟨⟨(-1), M, rfl, ⟨hW, hF, hT10, (by unfold sxTr syTr; rw [if_neg hno, if_neg hno]; exact hC.mono), (by unfold anTr; rw [if_neg hno])⟩, ⟨10, by rw [ht]; exact hP, hD⟩⟩, hS.F ht⟩) hS.2.2 dX11_tear_48
      · have hb_40 := hp_32 b_33 rfl
        have hcd : ((k2 : Int32).toNatClampNeg : Int) = (k2 : Int32).toInt := clT (by omega)
        have hdn : (k2 : Int32).toNatClampNeg < 1000 := by omega
        have hpl := hSM.pl (k2 : Int32).toNatClampNeg hdn
        have hr2 := hSVk.r2 (k2 : Int32).toNatClampNeg hdn
        have hr3 := hSVk.r3 (k2 : Int32).toNatClampNeg hdn
        obtain ⟨hdc, hsl⟩ := hqx.1 _ rfl
        have hlk := lk_lf hsl hdn
        have hlb := lfb hW hb_40
        have hp2 : (SY (k1 : Int32).toNatClampNeg 2 (k2 : Int32).toNatClampNeg).toInt = (ALc (M (rA 3 M b_33 1)) : Int) := by rw [← hpl.1, hlk.1]; exact nI_toInt (by omega)
        have hp3 : (SY (k1 : Int32).toNatClampNeg 3 (k2 : Int32).toNatClampNeg).toInt = (cV 3 M b_33 2).toInt := by rw [← hpl.2.1, hlk.2.1]
        have hp3e : cV 3 M b_33 2 = SY (k1 : Int32).toNatClampNeg 3 (k2 : Int32).toNatClampNeg := by rw [← hpl.2.1, hlk.2.1]
        have hp4 : (SY (k1 : Int32).toNatClampNeg 4 (k2 : Int32).toNatClampNeg).toInt = (cV 3 M b_33 0).toInt := by rw [← hpl.2.2 (fun z9 => absurd hp2 (by rw [z9, show (-1 : Int32).toInt = -1 from rfl]; omega)), hlk.2.2]
        refine lv_astore (lv' := [(4, .ref b_33), (3, .ref b_5), (0, .ref xa), (1, .int k1), (2, .int k2)]) hx hb dX11_tear_35 hl (by decide) rfl (fun ls hl => ?_)
        refine lv_aload hx hb dX11_tear_37 (lv_at hl 0 rfl) ?_
        refine lv_ifnonnull (tgt := 49) hx hb dX11_tear_39 (by decide) ?_
        refine lv_aload_n hx hb dX11_tear_49 rfl (lv_at hl 1 rfl) ?_
        refine pg_get (D := D) (ci := 2) (v := .ref v11_12) (C := RX2) (T := TX2) (N := 20) hx hb hg inG2 hown hK hP hb_10.1 hM11 rfl 12 (by decide) (hg _ wd_377) (fun _ h9 => h9) rfl dX11_tear_50 ?_
        refine lv_iload_n hx hb dX11_tear_53 rfl (lv_at hl 4 rfl) ?_
        refine lv_null hx hb dX11_tear_54 ?_
        obtain ⟨f41, hM41, hf41⟩ := hW.open_18 h11_12
        refine pg_astqN hx hb hK hP hD hS h11_12.1 4 hM41 rfl (inbE k2 999 1000 (by decide) (by decide) c_25 (Int32.not_lt.mp c_26)) dX11_tear_55 (fun H_42 locs hP hD hS => ?_)
        obtain ⟨M_43, eM_43⟩ : ∃ M1 : Hp, M1 = va_up M v11_12 (.inl (cy 18, 1000, .inr (.inr (.inr (.inr (va_up f41 (k2 : Int32).toNatClampNeg none)))))) := ⟨_, rfl⟩
        have sM_43 : M_43 = sR M v11_12 (k2 : Int32).toNatClampNeg none := eM_43.trans (sR_of hM41)
        have hV : VC Bo K L M M_43 b_5 (cfx M b_5) (va_up (va_up (va_up (va_up (cax M b_5) 2 (upd ((cax M b_5) 2) (k2 : Int32).toNatClampNeg (plN M none))) 3 (upd ((cax M b_5) 3) (k2 : Int32).toNatClampNeg (lfN 2 M none))) 4 (upd ((cax M b_5) 4) (k2 : Int32).toNatClampNeg (lfN 0 M none))) 60 (fun z => if z % 1000 = (k2 : Int32).toNatClampNeg then etN M none (z / 1000) else ((cax M b_5) 60) z)) := by rw [sM_43]; exact VC.r_lv hV hW hb_10 (vp_lt (inbE k2 999 1000 (by decide) (by decide) c_25 (Int32.not_lt.mp c_26))) (rA_of (j := 12) hM11 rfl) hM41 (fun q9 z9 => by cases z9)
        have hP : va_P D vwCl ([(xa, (b11_1 x0 (nI x1) x2 (nI x3) x4 x5 x6 x7 x8 x9 x10))] ++ va_pl L M_43) H_42 := by rw [eM_43]; exact hP
        have hD : va_D A ([(xa, (b11_1 x0 (nI x1) x2 (nI x3) x4 x5 x6 x7 x8 x9 x10))] ++ va_pl L M_43) := by rw [eM_43]; exact hD
        have hW : WOK cy K L M_43 := by rw [eM_43]; exact hW.up_18 h11_12 ⟨_, rfl, (upN0 hf41)⟩
        have hF : fr K L [10, 18] M M_43 := by rw [eM_43]; exact hF.up h11_12 (by decide)
        have hT10 : fT 10 K L [1, 2] M M_43 := by rw [eM_43]; exact hT10.ne h11_12 (by decide)
        have hM_44 : M_43 v11_12 = .inl (cy 18, 1000, .inr (.inr (.inr (.inr (va_up f41 (k2 : Int32).toNatClampNeg none))))) := by rw [eM_43]; exact va_up_self _ _ _
        have hM_45 : M_43 b_5 = (b2_2 v11_0 v11_1 v11_2 v11_3 (nI v11_4) (nI v11_5) v11_6 v11_7 v11_8 (nI v11_9) v11_10 (nI v11_11) v11_12 v11_13 v11_14 v11_15 v11_16 v11_17 v11_18 v11_19) := by rw [eM_43, va_up_ne _ _ (hb_10.neT h11_12 (by decide))]; exact hM11
        have hf_47 : ∀ j, j < 1000 → iskN K L ((va_up f41 (k2 : Int32).toNatClampNeg none) j) 3 0 := (upN0 hf41)
        obtain ⟨f_46, ef_46⟩ : ∃ f : Nat → Option Nat, f = va_up f41 (k2 : Int32).toNatClampNeg none := ⟨_, rfl⟩
        rw [← ef_46] at hM_44 hf_47
        clear ef_46
        refine lv_aload_n hx hb dX11_tear_56 rfl (lv_at hl 1 rfl) ?_
        refine pg_get (D := D) (ci := 2) (v := .ref v11_18) (C := RX2) (T := TX2) (N := 20) hx hb hg inG2 hown hK hP hb_10.1 hM_45 rfl 18 (by decide) (hg _ wd_378) (fun _ h9 => h9) rfl dX11_tear_57 ?_
        obtain ⟨v48_0, v48_1, v48_2, hM48, h48_0⟩ := hW.open_10 h11_18
        have hPc : va_P D vwCl ([] ++ va_pl L M_43) H_42 := hP.part (cx := []) [] rfl
        have hDc : va_D A ([] ++ va_pl L M_43) := hD.part (cx := []) [] (by decide) rfl
        have hFc : ∀ q, va_A ([] ++ va_pl L M_43) H_42.size q → A q := pg_free hDc hS hA
        have hI_49 : (0 : Int) ≤ (k2 : Int32).toInt := inltI rfl rfl c_25
        have hI_50 : (k2 : Int32).toInt ≤ (999 : Int) := inltI rfl rfl c_26
        refine va_callv (va_runV (As := []) (rest := []) ⟨hx, hb, hml, hown, hg⟩ (e_clear l D cy K L M_43 H_42.size v11_18 Bo M b_5 (cfx M b_5) (va_up (va_up (va_up (va_up (cax M b_5) 2 (upd ((cax M b_5) 2) (k2 : Int32).toNatClampNeg (plN M none))) 3 (upd ((cax M b_5) 3) (k2 : Int32).toNatClampNeg (lfN 2 M none))) 4 (upd ((cax M b_5) 4) (k2 : Int32).toNatClampNeg (lfN 0 M none))) 60 (fun z => if z % 1000 = (k2 : Int32).toNatClampNeg then etN M none (z / 1000) else ((cax M b_5) 60) z))  hW h11_18 hb_10 hV (rA_of (j := 18) hM_45 rfl)) (cwV 0 hg (gV wd_379 wd_380 wd_381 wd_114 wd_382) rfl rfl rfl (by decide +kernel) ⟨(Nat.le_trans (Nat.le_of_ble_eq_true rfl) hRf), (Nat.le_trans (Nat.le_of_ble_eq_true rfl) hRl)⟩) ⟨PG.blind, pg_recv hK hP h11_18.1 hM48 rfl, fun U hU hW => ⟨rfl, PG.at hPc hK hDc hN hU hW⟩⟩ rfl rfl hl.1 rfl (lv_room (Nat.le_of_ble_eq_true rfl)) dX11_tear_60 ⟨(Nat.le_trans (Nat.le_of_ble_eq_true rfl) hRc), (Nat.le_trans (Nat.le_of_ble_eq_true rfl) hRs)⟩) hS (fun q _ h => hFc q h) hFc (fun M_53 t H_51 locs ht hvm hw hB hz1 hk1 hS => ?_)
        have hWb := hW
        obtain ⟨hW, hF2, gT10, hVP, hp_54⟩ := hw
        obtain ⟨hP1, hD1⟩ := hB
        rw [ht] at hP1
        obtain ⟨hP, hD⟩ := va_joinP (X := [(xa, (b11_1 x0 (nI x1) x2 (nI x3) x4 x5 x6 x7 x8 x9 x10))]) (cx := []) (wr := [(xa, (b11_1 x0 (nI x1) x2 (nI x3) x4 x5 x6 x7 x8 x9 x10))]) (rx := []) (pl := va_pl L M_43) (pl1 := va_pl L M_53) hP hD [] [0] rfl rfl (by decide) (by decide) hk1 hFc hP1 hD1
        have hP : va_P D vwCl ([(xa, (b11_1 x0 (nI x1) x2 (nI x3) x4 x5 x6 x7 x8 x9 x10))] ++ va_pl L M_53) H_51 := hP
        have hD : va_D A ([(xa, (b11_1 x0 (nI x1) x2 (nI x3) x4 x5 x6 x7 x8 x9 x10))] ++ va_pl L M_53) := hD
        have hM_55 : M_53 v11_12 = .inl (cy 18, 1000, .inr (.inr (.inr (.inr (f_46))))) := (hF2.at h11_12 (by decide)).trans hM_44
        have hM_56 : M_53 b_5 = (b2_2 v11_0 v11_1 v11_2 v11_3 (nI v11_4) (nI v11_5) v11_6 v11_7 v11_8 (nI v11_9) v11_10 (nI v11_11) v11_12 v11_13 v11_14 v11_15 v11_16 v11_17 v11_18 v11_19) := (hF2.at hb_10 (by decide)).trans hM_45
        have hF : fr K L [10, 18] M M_53 := hF.tr hF2 (by decide)
        have hT10 : fT 10 K L [1, 2] M M_53 := hT10.tr gT10 (by decide)
        have hV : VC Bo K L M M_53 b_5 (va_up (va_up (cfx M b_5) 19 (0 : Int)) 16 (0 : Int)) (va_up (va_up (va_up (va_up (cax M b_5) 2 (upd ((cax M b_5) 2) (k2 : Int32).toNatClampNeg (plN M none))) 3 (upd ((cax M b_5) 3) (k2 : Int32).toNatClampNeg (lfN 2 M none))) 4 (upd ((cax M b_5) 4) (k2 : Int32).toNatClampNeg (lfN 0 M none))) 60 (fun z => if z % 1000 = (k2 : Int32).toNatClampNeg then etN M none (z / 1000) else ((cax M b_5) 60) z)) := hVP
        refine lv_aload_n hx hb dX11_tear_63 rfl (lv_at hl 2 rfl) ?_
        refine lv_aload hx hb dX11_tear_64 (lv_at hl 0 rfl) ?_
        obtain ⟨n57, v57_0, v57_1, v57_2, hM57, h57_1, h57_2, y57_0⟩ := hW.open_3 hb_40
        refine pg_get (D := D) (ci := 3) (v := .int (nI v57_2)) (C := RX3) (T := TX3) (N := 3) hx hb hg inG3 hown hK hP hb_40.1 hM57 rfl 2 (by decide) (hg _ wd_383) (fun _ h9 => h9) rfl dX11_tear_66 ?_
        have hPc := hP.sub (ws' := [(xa, (b11_1 x0 (nI x1) x2 (nI x3) x4 x5 x6 x7 x8 x9 x10))]) [0] rfl
        have hDc := hD.sub (ws' := [(xa, (b11_1 x0 (nI x1) x2 (nI x3) x4 x5 x6 x7 x8 x9 x10))]) [0] (by decide) rfl
        have hKc := hK.sub (tys' := []) [] rfl
        have hFc := va_free (wc := [(xa, (b11_1 x0 (nI x1) x2 (nI x3) x4 x5 x6 x7 x8 x9 x10))]) hD hS hA [0] rfl
        refine va_calli (va_runV (As := [.int (nI v57_2)]) (rest := []) ⟨hx, hb, hml, hown, hg⟩ (k_accept l D H_51.size xa x0 (nI x1) x2 (nI x3) x4 x5 x6 x7 x8 x9 x10 (nI v57_2)) (cwV 1 hg (gV wd_356 wd_357 wd_358 wd_3 wd_359) rfl rfl rfl (by decide +kernel) ⟨(Nat.le_trans (Nat.le_of_ble_eq_true rfl) hRf), (Nat.le_trans (Nat.le_of_ble_eq_true rfl) hRl)⟩) ⟨Pr.blind, va_recv hK hP (ci := 11) (q0 := 0) rfl rfl, fun U hU hW => ⟨rfl, Pr.at hPc hKc hDc hN hU hW⟩⟩ rfl rfl hl.1 rfl (lv_room (Nat.le_of_ble_eq_true rfl)) dX11_tear_69 ⟨(Nat.le_trans (Nat.le_of_ble_eq_true rfl) hRc), (Nat.le_trans (Nat.le_of_ble_eq_true rfl) hRs)⟩) hS (fun q _ h => hFc q h) hFc (fun r_59 M_60 t H_58 locs ht hvm hw hB hz1 hk1 hS => ?_)
        have hp_61 := hw
        obtain ⟨hP1, hK1, hD1⟩ := hB
        rw [ht] at hP1
        obtain ⟨hP, hD⟩ := va_joinQ (X := [(xa, (b11_1 x0 (nI x1) x2 (nI x3) x4 x5 x6 x7 x8 x9 x10))]) (cx := [(xa, (b11_1 x0 (nI x1) x2 (nI x3) x4 x5 x6 x7 x8 x9 x10))]) (wr := []) (w1 := [(xa, (b11_1 x0 (nI x1) x2 (nI x3) x4 x5 x6 x7 x8 0 (-1)))]) (pl := va_pl L M_53) hP hD [0] [] rfl rfl (by decide) (by decide) hk1 hFc hP1 hD1
        have hP : va_P D vwCl ([(xa, (b11_1 x0 (nI x1) x2 (nI x3) x4 x5 x6 x7 x8 0 (-1)))] ++ va_pl L M_53) H_58 := hP
        have hD : va_D A ([(xa, (b11_1 x0 (nI x1) x2 (nI x3) x4 x5 x6 x7 x8 0 (-1)))] ++ va_pl L M_53) := hD
        have hq := Eq.symm hp_61
        subst hq
        have hyes : okTr x1 SX SY k1 k2 := by unfold okTr okH; refine ⟨⟨?_, ?_⟩, ?_, ?_, ?_⟩ <;> first | omega | assumption
        rw [hQ]
        exact W.iret (v := (nI v57_2)) hx hb hr (fun t ht hW9 => ⟨⟨(nI v57_2), M_53, rfl, ⟨hW, hF, hT10, (by unfold sxTr syTr; rw [if_pos hyes, if_pos hyes]; have hZ := hC.fin hW0 i0 b1 hkn hb9 hV ext.rf (by rw [hF.at i0 (by decide)]) (fun q iq => ⟨iq, cR_c (fr.cv hF (by decide) q iq 3 rfl)⟩) ((hSM.tear (d := k2.toNatClampNeg) hT.1)); exact hZ), (by unfold anTr; rw [if_pos hyes, ← hp3e]; exact Eq.symm (by have h9 := cV_of (t := 3) (j := 2) (M := M) ((hF.at hb_40 (by decide)).symm.trans hM57) rfl; exact h9))⟩, ⟨0, by rw [ht]; exact hP, hD⟩⟩, hS.F ht⟩) hS.2.2 dX11_tear_72
    · have hz := rfl (a := 0)
      refine lv_if_ne (tgt := 30) hx hb dX11_tear_21 (by decide) (fun c_62 => absurd c_62 (by decide)) (fun _ => ?_)
      refine lv_aload_n hx hb dX11_tear_24 rfl (lv_at hl 1 rfl) ?_
      refine lv_iconst (v := 3) hx hb dX11_tear_25 (by decide) ?_
      have hPc := hP.sub (ws' := [(xa, (b11_1 x0 (nI x1) x2 (nI x3) x4 x5 x6 x7 x8 x9 x10))]) [0] rfl
      have hDc := hD.sub (ws' := [(xa, (b11_1 x0 (nI x1) x2 (nI x3) x4 x5 x6 x7 x8 x9 x10))]) [0] (by decide) rfl
      have hKc := hK.sub (tys' := []) [] rfl
      have hFc := va_free (wc := [(xa, (b11_1 x0 (nI x1) x2 (nI x3) x4 x5 x6 x7 x8 x9 x10))]) hD hS hA [0] rfl
      refine va_calli (va_runV (As := [.int 3]) (rest := []) ⟨hx, hb, hml, hown, hg⟩ (k_refuse l D H_20.size xa x0 (nI x1) x2 (nI x3) x4 x5 x6 x7 x8 x9 x10 3) (cwV 1 hg (gV wd_344 wd_345 wd_346 wd_3 wd_347) rfl rfl rfl (by decide +kernel) ⟨(Nat.le_trans (Nat.le_of_ble_eq_true rfl) hRf), (Nat.le_trans (Nat.le_of_ble_eq_true rfl) hRl)⟩) ⟨Pr.blind, va_recv hK hP (ci := 11) (q0 := 0) rfl rfl, fun U hU hW => ⟨rfl, Pr.at hPc hKc hDc hN hU hW⟩⟩ rfl rfl hl.1 rfl (lv_room (Nat.le_of_ble_eq_true rfl)) dX11_tear_26 ⟨(Nat.le_trans (Nat.le_of_ble_eq_true rfl) hRc), (Nat.le_trans (Nat.le_of_ble_eq_true rfl) hRs)⟩) hS (fun q _ h => hFc q h) hFc (fun r_64 M_65 t H_63 locs ht hvm hw hB hz1 hk1 hS => ?_)
      have hp_66 := hw
      obtain ⟨hP1, hK1, hD1⟩ := hB
      rw [ht] at hP1
      obtain ⟨hP, hD⟩ := va_joinQ (X := [(xa, (b11_1 x0 (nI x1) x2 (nI x3) x4 x5 x6 x7 x8 x9 x10))]) (cx := [(xa, (b11_1 x0 (nI x1) x2 (nI x3) x4 x5 x6 x7 x8 x9 x10))]) (wr := []) (w1 := [(xa, (b11_1 x0 (nI x1) x2 (nI x3) x4 x5 x6 x7 x8 3 (-1)))]) (pl := va_pl L M) hP hD [0] [] rfl rfl (by decide) (by decide) hk1 hFc hP1 hD1
      have hP : va_P D vwCl ([(xa, (b11_1 x0 (nI x1) x2 (nI x3) x4 x5 x6 x7 x8 3 (-1)))] ++ va_pl L M) H_63 := hP
      have hD : va_D A ([(xa, (b11_1 x0 (nI x1) x2 (nI x3) x4 x5 x6 x7 x8 3 (-1)))] ++ va_pl L M) := hD
      have hq := Eq.symm hp_66
      subst hq
      have hno : ¬ okTr x1 SX SY k1 k2 := fun q9 => by unfold okTr okH at q9; first | omega | (obtain ⟨⟨_, _⟩, _, _, _⟩ := q9; first | omega | contradiction)
      rw [hQ]
      exact W.iret (v := (-1)) hx hb hr (fun t ht hW9 => ⟨⟨(-1), M, rfl, ⟨hW, hF, hT10, (by unfold sxTr syTr; rw [if_neg hno, if_neg hno]; exact hC.mono), (by unfold anTr; rw [if_neg hno])⟩, ⟨3, by rw [ht]; exact hP, hD⟩⟩, hS.F ht⟩) hS.2.2 dX11_tear_29
