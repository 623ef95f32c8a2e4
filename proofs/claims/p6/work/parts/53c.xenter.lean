def okEn (n : Nat) (SX : Nat → Nat → Int) (SY : Nat → Nat → Nat → Int32) (h d s g : Int32) : Prop := okH n h ∧ 1 ≤ s.toInt ∧ s.toInt ≤ 1000000000 ∧ SX h.toNatClampNeg 1 < d.toInt ∧ d.toInt < 1000 ∧ (SY h.toNatClampNeg 2 d.toNatClampNeg).toInt ≠ -1 ∧ (SY h.toNatClampNeg 3 d.toNatClampNeg).toInt < (SY h.toNatClampNeg 2 d.toNatClampNeg).toInt ∧ ((SY h.toNatClampNeg 4 d.toNatClampNeg).toInt ≠ 0 ∨ (-32768 ≤ (g * s).toInt ∧ (g * s).toInt ≤ 32767))
noncomputable def anEn (n : Nat) (SX : Nat → Nat → Int) (SY : Nat → Nat → Nat → Int32) (h d s g : Int32) : Int32 := (@ite _ (okEn n SX SY h d s g) (Classical.propDecidable _) (SY h.toNatClampNeg 3 d.toNatClampNeg + 1) (-1))
noncomputable def sxEn (n : Nat) (SX : Nat → Nat → Int) (SY : Nat → Nat → Nat → Int32) (h d s g : Int32) (n9 : Int) : Nat → Nat → Int := (@ite _ (okEn n SX SY h d s g) (Classical.propDecidable _) (va_up SX h.toNatClampNeg (va_up (va_up (SX h.toNatClampNeg) (lKey 10 (6 * d.toNatClampNeg + (SY h.toNatClampNeg 3 d.toNatClampNeg).toNatClampNeg)) (g * s).toInt) 16 n9)) (SX))
noncomputable def syEn (n : Nat) (SX : Nat → Nat → Int) (SY : Nat → Nat → Nat → Int32) (h d s g : Int32) (l9 : Nat → Int32) : Nat → Nat → Nat → Int32 := (@ite _ (okEn n SX SY h d s g) (Classical.propDecidable _) (va_up SY h.toNatClampNeg (va_up (va_up (SY h.toNatClampNeg) 3 (upd (SY h.toNatClampNeg 3) d.toNatClampNeg (SY h.toNatClampNeg 3 d.toNatClampNeg + 1))) 43 l9)) (SY))
def okMe (n : Nat) (SX : Nat → Nat → Int) (h d s : Int32) : Prop := okH n h ∧ s.toInt ≠ 0 ∧ -1000000000 ≤ s.toInt ∧ s.toInt ≤ 1000000000 ∧ SX h.toNatClampNeg 0 ≤ d.toInt ∧ d.toInt ≤ SX h.toNatClampNeg 1 ∧ SX h.toNatClampNeg 15 < 20
noncomputable def anMe (n : Nat) (SX : Nat → Nat → Int) (h d s : Int32) : Int32 := (@ite _ (okMe n SX h d s) (Classical.propDecidable _) (nI (SX h.toNatClampNeg 15 + 1).toNat) (-1))
noncomputable def sxMe (n : Nat) (SX : Nat → Nat → Int) (h d s : Int32) : Nat → Nat → Int := (@ite _ (okMe n SX h d s) (Classical.propDecidable _) (va_up SX h.toNatClampNeg (va_up (SX h.toNatClampNeg) 15 (SX h.toNatClampNeg 15 + 1))) (SX))
noncomputable def syMe (n : Nat) (SX : Nat → Nat → Int) (SY : Nat → Nat → Nat → Int32) (h d s : Int32) : Nat → Nat → Nat → Int32 := (@ite _ (okMe n SX h d s) (Classical.propDecidable _) (va_up SY h.toNatClampNeg (va_up (va_up (SY h.toNatClampNeg) 41 (upd (SY h.toNatClampNeg 41) (SX h.toNatClampNeg 15).toNat d)) 42 (upd (SY h.toNatClampNeg 42) (SX h.toNatClampNeg 15).toNat s))) (SY))
def okMv (n : Nat) (SX : Nat → Nat → Int) (SY : Nat → Nat → Nat → Int32) (h t d s : Int32) : Prop := okH n h ∧ 0 ≤ t.toInt ∧ t.toInt < SX h.toNatClampNeg 10 ∧ 1 ≤ s.toInt ∧ s.toInt ≤ 1000000000 ∧ SX h.toNatClampNeg 1 < d.toInt ∧ d.toInt < 1000 ∧ (SY h.toNatClampNeg 21 t.toNatClampNeg).toInt ≤ d.toInt ∧ ((SY h.toNatClampNeg 22 t.toNatClampNeg).toInt = -1 ∨ d.toInt < (SY h.toNatClampNeg 22 t.toNatClampNeg).toInt) ∧ SX h.toNatClampNeg 14 < 120
noncomputable def anMv (n : Nat) (SX : Nat → Nat → Int) (SY : Nat → Nat → Nat → Int32) (h t d s : Int32) : Int32 := (@ite _ (okMv n SX SY h t d s) (Classical.propDecidable _) (nI (SX h.toNatClampNeg 14 + 1).toNat) (-1))
noncomputable def sxMv (n : Nat) (SX : Nat → Nat → Int) (SY : Nat → Nat → Nat → Int32) (h t d s : Int32) (n9 : Int) : Nat → Nat → Int := (@ite _ (okMv n SX SY h t d s) (Classical.propDecidable _) (va_up SX h.toNatClampNeg (va_up (va_up (SX h.toNatClampNeg) 14 (SX h.toNatClampNeg 14 + 1)) 16 n9)) (SX))
noncomputable def syMv (n : Nat) (SX : Nat → Nat → Int) (SY : Nat → Nat → Nat → Int32) (h t d s o : Int32) (l9 : Nat → Int32) : Nat → Nat → Nat → Int32 := (@ite _ (okMv n SX SY h t d s) (Classical.propDecidable _) (va_up SY h.toNatClampNeg (va_up (va_up (va_up (va_up (SY h.toNatClampNeg) 38 (upd (SY h.toNatClampNeg 38) (SX h.toNatClampNeg 14).toNat t)) 39 (upd (SY h.toNatClampNeg 39) (SX h.toNatClampNeg 14).toNat d)) 40 (upd (SY h.toNatClampNeg 40) (SX h.toNatClampNeg 14).toNat (if o = 0 then s else -s))) 43 l9)) (SY))
set_option maxHeartbeats 4000000 in
set_option maxRecDepth 100000 in
theorem x_enter (l : Launch) (D : va_G) (cy : Nat → ClassId) (K : Kp) (L : List Nat) (M : Hp) (sz : Nat) (xa : Nat) (x0 : Nat) (x1 : Nat) (x2 : Nat) (x3 : Nat) (x4 : Nat) (x5 : Nat) (x6 : Nat) (x7 : Int32) (x8 : Nat) (x9 : Int32) (x10 : Int32) (k1 : Int32) (k2 : Int32) (k3 : Int32) (k4 : Int32) (Bo : Nat → Nat × Nat) (T : Int) (PK : Nat → Int32) (PT : Nat → Int32) (SX : Nat → Nat → Int) (SY : Nat → Nat → Nat → Int32) (hW : WOK cy K L M) (i0 : isk K L x0 17 8) (b1 : x1 ≤ 8) (i2 : isk K L x2 19 40) (b3 : x3 ≤ 40) (i4 : isk K L x4 7 0) (i5 : isk K L x5 5 0) (i6 : isk K L x6 60 24) (i8 : isk K L x8 73 25) (hC : CX Bo K L x0 x1 T x3 PK PT SX SY M) (hSV : ∀ k, k < x1 → SV (SX k) (SY k)) (hHI : ∀ k, k < x1 → HI (SX k) (SY k)) (hT : (0 ≤ T ∧ T ≤ 900000)) : Met l yX11_enter (wsM yX11_enter cX11_enter 8 (some .int)) ({ frames := 2, cells := 0, slots := 0, locals := 43 }) (va_Pc [.ref xa, .int k1, .int k2, .int k3, .int k4] (PG D cy [(xa, (b11_1 x0 (nI x1) x2 (nI x3) x4 x5 x6 x7 x8 x9 x10))] L M sz)) (va_Qi (fun (r : Int32) (M9 : Hp) => WOK cy K L M9 ∧ fr K L [3, 10, 53, 55] M M9 ∧ fT 3 K L [2] M M9 ∧ fT 10 K L [1, 2] M M9 ∧ (∀ n9 l9, (okEn x1 SX SY k1 k2 k3 k4 → REMF (SX k1.toNatClampNeg 16) (SY k1.toNatClampNeg 43) k2 n9 l9) → CX Bo K L x0 x1 (T + 1) x3 PK PT (sxEn x1 SX SY k1 k2 k3 k4 n9) (syEn x1 SX SY k1 k2 k3 k4 l9) M9) ∧ ((r = anEn x1 SX SY k1 k2 k3 k4))) (fun M9 t => ∃ (w9 : Int32), PQ D [(xa, (b11_1 x0 (nI x1) x2 (nI x3) x4 x5 x6 x7 x8 w9 (-1)))] L M9 (va_A ([(xa, (b11_1 x0 (nI x1) x2 (nI x3) x4 x5 x6 x7 x8 x9 x10))] ++ va_pl L M) sz) t) (va_A ([(xa, (b11_1 x0 (nI x1) x2 (nI x3) x4 x5 x6 x7 x8 x9 x10))] ++ va_pl L M) sz)) 0 0 (va_A ([(xa, (b11_1 x0 (nI x1) x2 (nI x3) x4 x5 x6 x7 x8 x9 x10))] ++ va_pl L M) sz) := by
  refine Met.ofW (cc := cX11_enter) (maxL := 8) (ret := (some .int)) (by decide) rfl ?_
  intro p e s m args below meth c s₁ B hml hv
  obtain ⟨rfl, hsz, hP, hK, hD0, hN⟩ := hv
  have hx := B.exec
  have hb := B.bytes
  have hr := B.returns
  have hts := atoms_spec (ws := (wsM yX11_enter cX11_enter 8 (some .int))) B.pre
  have hg : ∀ w ∈ lw_good, w.before _ s = true := fun w h => hts w (List.mem_cons_of_mem _ h)
  have hown : s.vm.findClass RX11 = some m.cls := findClass_of_methodNamed B.named
  have hlocks := B.notSynchronized
  subst hsz
  have hD := hD0.self (sz := s.heap.size)
  generalize hAe : va_A ([(xa, (b11_1 x0 (nI x1) x2 (nI x3) x4 x5 x6 x7 x8 x9 x10))] ++ va_pl L M) s.heap.size = A at hD ⊢
  have hA : ∀ q : Nat, s.heap.size ≤ q → A q := fun q h => by rw [← hAe]; exact Or.inr h
  have hS : va_S A s.heap s.heap [] := va_S.rf
  have hl := lv_entry ([.ref xa, .int k1, .int k2, .int k3, .int k4]) (n := 8) (Nat.le_of_ble_eq_true rfl)
  rw [lg_entry_eq]
  generalize (lg_sl ([.ref xa, .int k1, .int k2, .int k3, .int k4]) ++ List.replicate (8 - (lg_sl ([.ref xa, .int k1, .int k2, .int k3, .int k4])).length) Slot.unset).toArray = ls at hl ⊢
  refine W.nameQ (fun Q hQ => ?_)
  refine W.nameR (fun R hR => ?_)
  have hRf : 2 ≤ R.frames := by rw [hR]; exact Nat.le_of_ble_eq_true rfl
  have hRl : 43 ≤ R.locals := by rw [hR]; exact Nat.le_of_ble_eq_true rfl
  have hRc : 0 ≤ R.cells := by rw [hR]; exact Nat.le_of_ble_eq_true rfl
  have hRs : 0 ≤ R.slots := by rw [hR]; exact Nat.le_of_ble_eq_true rfl
  have hF : fr K L [3, 10, 53, 55] M M := fr.rf
  have hT3 : fT 3 K L [2] M M := fT.rf
  have hT10 : fT 10 K L [1, 2] M M := fT.rf
  have hl : lv_has ls 8 [(0, .ref xa), (1, .int k1), (2, .int k2), (3, .int k3), (4, .int k4)] := hl
  have hW0 := hW
  refine lv_aload_n hx hb dX11_enter_0 rfl (lv_at hl 0 rfl) ?_
  refine lv_iload_n hx hb dX11_enter_1 rfl (lv_at hl 1 rfl) ?_
  have hPc : va_P D vwCl ([(xa, (b11_1 x0 (nI x1) x2 (nI x3) x4 x5 x6 x7 x8 x9 x10))] ++ va_pl L M) s.heap := hP
  have hDc : va_D A ([(xa, (b11_1 x0 (nI x1) x2 (nI x3) x4 x5 x6 x7 x8 x9 x10))] ++ va_pl L M) := hD
  have hFc : ∀ q, va_A ([(xa, (b11_1 x0 (nI x1) x2 (nI x3) x4 x5 x6 x7 x8 x9 x10))] ++ va_pl L M) s.heap.size q → A q := pg_free hDc hS hA
  refine va_callq (va_runV (As := [.int k1]) (rest := []) ⟨hx, hb, hml, hown, hg⟩ (e_houseAt l D cy K L M s.heap.size xa x0 x1 x2 x3 x4 x5 x6 x7 x8 x9 x10 k1 Bo T PK PT SX SY  hW i0 b1 i2 b3 i4 i5 i6 i8 hC) (cwV 1 hg (gV wd_340 wd_341 wd_342 wd_3 wd_343) rfl rfl rfl (by decide +kernel) ⟨(Nat.le_trans (Nat.le_of_ble_eq_true rfl) hRf), (Nat.le_trans (Nat.le_of_ble_eq_true rfl) hRl)⟩) ⟨PG.blind, va_recv hK hP (ci := 11) (q0 := 0) rfl rfl, fun U hU hW => ⟨rfl, PG.at hPc hK hDc hN hU hW⟩⟩ rfl rfl hl.1 rfl (lv_room (Nat.le_of_ble_eq_true rfl)) dX11_enter_2 ⟨(Nat.le_trans (Nat.le_of_ble_eq_true rfl) hRc), (Nat.le_trans (Nat.le_of_ble_eq_true rfl) hRs)⟩) hS (fun q _ h => hFc q h) hFc (fun r_2 M_3 t H_1 locs ht hvm hw hB hz1 hk1 hS => ?_)
  have hp_4 := hw
  obtain ⟨hP1, hD1⟩ := hB
  rw [ht] at hP1
  have hP : va_P D vwCl ([(xa, (b11_1 x0 (nI x1) x2 (nI x3) x4 x5 x6 x7 x8 x9 x10))] ++ va_pl L M) H_1 := hP1
  have hD : va_D A ([(xa, (b11_1 x0 (nI x1) x2 (nI x3) x4 x5 x6 x7 x8 x9 x10))] ++ va_pl L M) := hD1.mono hFc
  obtain ⟨hp_4, hqx⟩ := hp_4
  rcases r_2 with _ | b_5
  · have hz := rfl (a := 0)
    refine lv_astoreN (lv' := [(5, .null), (0, .ref xa), (1, .int k1), (2, .int k2), (3, .int k3), (4, .int k4)]) hx hb dX11_enter_5 hl (by decide) rfl (fun ls hl => ?_)
    refine lv_aloadN hx hb dX11_enter_7 (lv_at hl 0 rfl) ?_
    refine lv_ifnonnullN hx hb dX11_enter_9 ?_
    refine lv_aload_n hx hb dX11_enter_12 rfl (lv_at hl 1 rfl) ?_
    refine lv_iconst (v := 1) hx hb dX11_enter_13 (by decide) ?_
    have hPc := hP.sub (ws' := [(xa, (b11_1 x0 (nI x1) x2 (nI x3) x4 x5 x6 x7 x8 x9 x10))]) [0] rfl
    have hDc := hD.sub (ws' := [(xa, (b11_1 x0 (nI x1) x2 (nI x3) x4 x5 x6 x7 x8 x9 x10))]) [0] (by decide) rfl
    have hKc := hK.sub (tys' := []) [] rfl
    have hFc := va_free (wc := [(xa, (b11_1 x0 (nI x1) x2 (nI x3) x4 x5 x6 x7 x8 x9 x10))]) hD hS hA [0] rfl
    refine va_calli (va_runV (As := [.int 1]) (rest := []) ⟨hx, hb, hml, hown, hg⟩ (k_refuse l D H_1.size xa x0 (nI x1) x2 (nI x3) x4 x5 x6 x7 x8 x9 x10 1) (cwV 1 hg (gV wd_344 wd_345 wd_346 wd_3 wd_347) rfl rfl rfl (by decide +kernel) ⟨(Nat.le_trans (Nat.le_of_ble_eq_true rfl) hRf), (Nat.le_trans (Nat.le_of_ble_eq_true rfl) hRl)⟩) ⟨Pr.blind, va_recv hK hP (ci := 11) (q0 := 0) rfl rfl, fun U hU hW => ⟨rfl, Pr.at hPc hKc hDc hN hU hW⟩⟩ rfl rfl hl.1 rfl (lv_room (Nat.le_of_ble_eq_true rfl)) dX11_enter_14 ⟨(Nat.le_trans (Nat.le_of_ble_eq_true rfl) hRc), (Nat.le_trans (Nat.le_of_ble_eq_true rfl) hRs)⟩) hS (fun q _ h => hFc q h) hFc (fun r_7 M_8 t H_6 locs ht hvm hw hB hz1 hk1 hS => ?_)
    have hp_9 := hw
    obtain ⟨hP1, hK1, hD1⟩ := hB
    rw [ht] at hP1
    obtain ⟨hP, hD⟩ := va_joinQ (X := [(xa, (b11_1 x0 (nI x1) x2 (nI x3) x4 x5 x6 x7 x8 x9 x10))]) (cx := [(xa, (b11_1 x0 (nI x1) x2 (nI x3) x4 x5 x6 x7 x8 x9 x10))]) (wr := []) (w1 := [(xa, (b11_1 x0 (nI x1) x2 (nI x3) x4 x5 x6 x7 x8 1 (-1)))]) (pl := va_pl L M) hP hD [0] [] rfl rfl (by decide) (by decide) hk1 hFc hP1 hD1
    have hP : va_P D vwCl ([(xa, (b11_1 x0 (nI x1) x2 (nI x3) x4 x5 x6 x7 x8 1 (-1)))] ++ va_pl L M) H_6 := hP
    have hD : va_D A ([(xa, (b11_1 x0 (nI x1) x2 (nI x3) x4 x5 x6 x7 x8 1 (-1)))] ++ va_pl L M) := hD
    have hq := Eq.symm hp_9
    subst hq
    have hnh := hqx.2 rfl
    have hno : ¬ okEn x1 SX SY k1 k2 k3 k4 := fun q9 => by unfold okEn okH at q9; first | omega | (obtain ⟨⟨_, _⟩, _, _, _, _, _, _, _⟩ := q9; first | omega | contradiction)
    rw [hQ]
    exact W.iret (v := (-1)) hx hb hr (fun t ht hW9 => ⟨⟨(-1), M, rfl, ⟨hW, hF, hT3, hT10, (by intro n9 l9 hR9; unfold sxEn syEn; rw [if_neg hno, if_neg hno]; exact hC.mono), (by unfold anEn; rw [if_neg hno])⟩, ⟨1, by rw [ht]; exact hP, hD⟩⟩, hS.F ht⟩) hS.2.2 dX11_enter_17
  · have hb_10 := hp_4 b_5 rfl
    refine lv_astore (lv' := [(5, .ref b_5), (0, .ref xa), (1, .int k1), (2, .int k2), (3, .int k3), (4, .int k4)]) hx hb dX11_enter_5 hl (by decide) rfl (fun ls hl => ?_)
    obtain ⟨hr9, hb9⟩ := hqx.1 b_5 rfl
    have hck : ((k1 : Int32).toNatClampNeg : Int) = (k1 : Int32).toInt := clT (by omega)
    have hkn : (k1 : Int32).toNatClampNeg < x1 := by omega
    have hSM := hC.at hkn hb9
    have hSVk := hSV (k1 : Int32).toNatClampNeg hkn
    have hHIk := hHI (k1 : Int32).toNatClampNeg hkn
    have hV : VC Bo K L M M b_5 (cfx M b_5) (cax M b_5) := VC.rf b_5 hC.oc
    obtain ⟨v11_0, v11_1, v11_2, v11_3, v11_4, v11_5, v11_6, v11_7, v11_8, v11_9, v11_10, v11_11, v11_12, v11_13, v11_14, v11_15, v11_16, v11_17, v11_18, v11_19, hM11, h11_3, h11_4, h11_5, h11_6, h11_7, h11_8, h11_9, h11_10, h11_11, h11_12, h11_13, h11_16, h11_17, h11_18, h11_19⟩ := hW.open_2 hb_10
    have hA_12 : (cV 2 M b_5 0).toInt = (v11_0 : Int32).toInt := by rw [cV_of hM11 rfl]
    have hA_13 : (cV 2 M b_5 1).toInt = (v11_1 : Int32).toInt := by rw [cV_of hM11 rfl]
    have hA_14 : (cV 2 M b_5 2).toInt = (v11_2 : Int32).toInt := by rw [cV_of hM11 rfl]
    have hA_15 : (cV 2 M b_5 4).toInt = ((v11_4 : Nat) : Int) := by rw [cV_of hM11 rfl]; exact nI_toInt (by omega)
    have hA_16 : (cV 2 M b_5 5).toInt = ((v11_5 : Nat) : Int) := by rw [cV_of hM11 rfl]; exact nI_toInt (by omega)
    have hA_17 : (cV 2 M b_5 9).toInt = ((v11_9 : Nat) : Int) := by rw [cV_of hM11 rfl]; exact nI_toInt (by omega)
    have hA_18 : (cV 2 M b_5 11).toInt = ((v11_11 : Nat) : Int) := by rw [cV_of hM11 rfl]; exact nI_toInt (by omega)
    have hA_19 : (cV 2 M b_5 15).toInt = (v11_15 : Int32).toInt := by rw [cV_of hM11 rfl]
    have hq0 : (cV 2 M b_5 1).toInt = SX (k1 : Int32).toNatClampNeg 0 := hSM.x0
    have hq1 : (cV 2 M b_5 2).toInt = SX (k1 : Int32).toNatClampNeg 1 := hSM.x1
    have hq10 : (cV 2 M b_5 9).toInt = SX (k1 : Int32).toNatClampNeg 10 := hSM.x10
    have hq11 : (cV 2 M b_5 11).toInt = SX (k1 : Int32).toNatClampNeg 11 := hSM.x11
    have hq12 : (cV 2 M b_5 4).toInt = SX (k1 : Int32).toNatClampNeg 12 := hSM.x12
    have hq13 : (cV 2 M b_5 5).toInt = SX (k1 : Int32).toNatClampNeg 13 := hSM.x13
    have hq14 : (cV 1 M v11_16 3).toInt = SX (k1 : Int32).toNatClampNeg 14 := by have h9 := hSM.x14; rw [← h9]; show _ = (cV 1 M (rA 2 M b_5 16) 3).toInt; rw [rA_of (j := 16) hM11 rfl]
    have hq15 : (cV 1 M v11_17 3).toInt = SX (k1 : Int32).toNatClampNeg 15 := by have h9 := hSM.x15; rw [← h9]; show _ = (cV 1 M (rA 2 M b_5 17) 3).toInt; rw [rA_of (j := 17) hM11 rfl]
    have hq16 : (cV 10 M v11_18 2).toInt = SX (k1 : Int32).toNatClampNeg 16 := by have h9 := hSM.x16; rw [← h9]; show _ = (cV 10 M (rA 2 M b_5 18) 2).toInt; rw [rA_of (j := 18) hM11 rfl]
    have hq19 : (cV 10 M v11_18 1).toInt = cfx M b_5 19 := by show _ = (cV 10 M (rA 2 M b_5 18) 1).toInt; rw [rA_of (j := 18) hM11 rfl]
    have hun := hSM.un
    have hl16 : (ALc (M (rA 1 M v11_16 1)) : Int) = 120 := by have h9 := hC.oc.l16 hW hb_10; rw [rA_of (j := 16) hM11 rfl] at h9; omega
    have hl17 : (ALc (M (rA 1 M v11_17 1)) : Int) = 20 := by have h9 := hC.oc.l17 hW hb_10; rw [rA_of (j := 17) hM11 rfl] at h9; omega
    have hbd0 := hSVk.b0
    have hbd1 := hSVk.b1
    have hbd10 := hSVk.b10
    have hbd11 := hSVk.b11
    have hbd12 := hSVk.b12
    have hbd13 := hSVk.b13
    have hbd14 := hSVk.b14
    have hbd15 := hSVk.b15
    have hbd16 := hSVk.b16
    have hqx14 : cfx M b_5 14 = SX (k1 : Int32).toNatClampNeg 14 := hSM.x14
    have hqx15 : cfx M b_5 15 = SX (k1 : Int32).toNatClampNeg 15 := hSM.x15
    have hqx16 : cfx M b_5 16 = SX (k1 : Int32).toNatClampNeg 16 := hSM.x16
    refine lv_aload hx hb dX11_enter_7 (lv_at hl 0 rfl) ?_
    refine lv_ifnonnull (tgt := 18) hx hb dX11_enter_9 (by decide) ?_
    refine lv_iload_n hx hb dX11_enter_18 rfl (lv_at hl 4 rfl) ?_
    have hPc : va_P D vwCl ([] ++ va_pl L M) H_1 := hP.part (cx := []) [] rfl
    have hDc : va_D A ([] ++ va_pl L M) := hD.part (cx := []) [] (by decide) rfl
    have hFc : ∀ q, va_A ([] ++ va_pl L M) H_1.size q → A q := pg_free hDc hS hA
    refine va_calli (va_runS (As := [.int k3]) (rest := []) ⟨hx, hb, hml, hown, hg⟩ (e_X11_isSum l D cy K L M H_1.size k3  hW ) (va_cwS 1 hg (gS wd_384 wd_385 wd_3 wd_386) rfl rfl rfl (by decide +kernel) ⟨(Nat.le_trans (Nat.le_of_ble_eq_true rfl) hRf), (Nat.le_trans (Nat.le_of_ble_eq_true rfl) hRl)⟩) ⟨PG.blind, fun U hU hW => ⟨rfl, PG.at hPc hK hDc hN hU hW⟩⟩ rfl rfl hl.1 rfl (lv_room (Nat.le_of_ble_eq_true rfl)) dX11_enter_19 ⟨(Nat.le_trans (Nat.le_of_ble_eq_true rfl) hRc), (Nat.le_trans (Nat.le_of_ble_eq_true rfl) hRs)⟩) hS (fun q _ h => hFc q h) hFc (fun r_21 M_22 t H_20 locs ht hvm hw hB hz1 hk1 hS => ?_)
    have hp_23 := hw
    obtain ⟨hP1, hD1⟩ := hB
    rw [ht] at hP1
    obtain ⟨hP, hD⟩ := va_joinP (X := [(xa, (b11_1 x0 (nI x1) x2 (nI x3) x4 x5 x6 x7 x8 x9 x10))]) (cx := []) (wr := [(xa, (b11_1 x0 (nI x1) x2 (nI x3) x4 x5 x6 x7 x8 x9 x10))]) (rx := []) (pl := va_pl L M) (pl1 := va_pl L M) hP hD [] [0] rfl rfl (by decide) (by decide) hk1 hFc hP1 hD1
    have hP : va_P D vwCl ([(xa, (b11_1 x0 (nI x1) x2 (nI x3) x4 x5 x6 x7 x8 x9 x10))] ++ va_pl L M) H_20 := hP
    have hD : va_D A ([(xa, (b11_1 x0 (nI x1) x2 (nI x3) x4 x5 x6 x7 x8 x9 x10))] ++ va_pl L M) := hD
    rcases hp_23 with ⟨rfl, c_24⟩ | ⟨rfl, c_25⟩
    · have hz := rfl (a := 0)
      refine lv_if_ne (tgt := 31) hx hb dX11_enter_22 (by decide) (fun _ => ?_) (fun c_26 => absurd c_26 (by decide))
      refine lv_aload hx hb dX11_enter_31 (lv_at hl 0 rfl) ?_
      refine lv_iload_n hx hb dX11_enter_33 rfl (lv_at hl 3 rfl) ?_
      have hPc : va_P D vwCl ([] ++ va_pl L M) H_20 := hP.part (cx := []) [] rfl
      have hDc : va_D A ([] ++ va_pl L M) := hD.part (cx := []) [] (by decide) rfl
      have hFc : ∀ q, va_A ([] ++ va_pl L M) H_20.size q → A q := pg_free hDc hS hA
      refine va_calli (va_runV (As := [.int k2]) (rest := []) ⟨hx, hb, hml, hown, hg⟩ (e_X2_isFree l D cy K L M H_20.size b_5 k2  hW hb_10) (cwV 1 hg (gV wd_361 wd_362 wd_363 wd_57 wd_364) rfl rfl rfl (by decide +kernel) ⟨(Nat.le_trans (Nat.le_of_ble_eq_true rfl) hRf), (Nat.le_trans (Nat.le_of_ble_eq_true rfl) hRl)⟩) ⟨PG.blind, pg_recv hK hP hb_10.1 hM11 rfl, fun U hU hW => ⟨rfl, PG.at hPc hK hDc hN hU hW⟩⟩ rfl rfl hl.1 rfl (lv_room (Nat.le_of_ble_eq_true rfl)) dX11_enter_34 ⟨(Nat.le_trans (Nat.le_of_ble_eq_true rfl) hRc), (Nat.le_trans (Nat.le_of_ble_eq_true rfl) hRs)⟩) hS (fun q _ h => hFc q h) hFc (fun r_28 M_29 t H_27 locs ht hvm hw hB hz1 hk1 hS => ?_)
      have hp_30 := hw
      obtain ⟨hP1, hD1⟩ := hB
      rw [ht] at hP1
      obtain ⟨hP, hD⟩ := va_joinP (X := [(xa, (b11_1 x0 (nI x1) x2 (nI x3) x4 x5 x6 x7 x8 x9 x10))]) (cx := []) (wr := [(xa, (b11_1 x0 (nI x1) x2 (nI x3) x4 x5 x6 x7 x8 x9 x10))]) (rx := []) (pl := va_pl L M) (pl1 := va_pl L M) hP hD [] [0] rfl rfl (by decide) (by decide) hk1 hFc hP1 hD1
      have hP : va_P D vwCl ([(xa, (b11_1 x0 (nI x1) x2 (nI x3) x4 x5 x6 x7 x8 x9 x10))] ++ va_pl L M) H_27 := hP
      have hD : va_D A ([(xa, (b11_1 x0 (nI x1) x2 (nI x3) x4 x5 x6 x7 x8 x9 x10))] ++ va_pl L M) := hD
      rcases hp_30 with ⟨rfl, c_31, c_32, c_33⟩ | ⟨rfl, c_34⟩
      · have hz := rfl (a := 0)
        refine lv_if_ne (tgt := 46) hx hb dX11_enter_37 (by decide) (fun _ => ?_) (fun c_35 => absurd c_35 (by decide))
        refine lv_aload hx hb dX11_enter_46 (lv_at hl 0 rfl) ?_
        refine lv_iload_n hx hb dX11_enter_48 rfl (lv_at hl 3 rfl) ?_
        have hPc : va_P D vwCl ([] ++ va_pl L M) H_27 := hP.part (cx := []) [] rfl
        have hDc : va_D A ([] ++ va_pl L M) := hD.part (cx := []) [] (by decide) rfl
        have hFc : ∀ q, va_A ([] ++ va_pl L M) H_27.size q → A q := pg_free hDc hS hA
        refine va_callq (va_runV (As := [.int k2]) (rest := []) ⟨hx, hb, hml, hown, hg⟩ (e_X2_leafOn l D cy K L M H_27.size b_5 k2  hW hb_10) (cwV 1 hg (gV wd_376 wd_71 wd_72 wd_57 wd_73) rfl rfl rfl (by decide +kernel) ⟨(Nat.le_trans (Nat.le_of_ble_eq_true rfl) hRf), (Nat.le_trans (Nat.le_of_ble_eq_true rfl) hRl)⟩) ⟨PG.blind, pg_recv hK hP hb_10.1 hM11 rfl, fun U hU hW => ⟨rfl, PG.at hPc hK hDc hN hU hW⟩⟩ rfl rfl hl.1 rfl (lv_room (Nat.le_of_ble_eq_true rfl)) dX11_enter_49 ⟨(Nat.le_trans (Nat.le_of_ble_eq_true rfl) hRc), (Nat.le_trans (Nat.le_of_ble_eq_true rfl) hRs)⟩) hS (fun q _ h => hFc q h) hFc (fun r_37 M_38 t H_36 locs ht hvm hw hB hz1 hk1 hS => ?_)
        have hp_39 := hw
        obtain ⟨hP1, hD1⟩ := hB
        rw [ht] at hP1
        obtain ⟨hP, hD⟩ := va_joinP (X := [(xa, (b11_1 x0 (nI x1) x2 (nI x3) x4 x5 x6 x7 x8 x9 x10))]) (cx := []) (wr := [(xa, (b11_1 x0 (nI x1) x2 (nI x3) x4 x5 x6 x7 x8 x9 x10))]) (rx := []) (pl := va_pl L M) (pl1 := va_pl L M) hP hD [] [0] rfl rfl (by decide) (by decide) hk1 hFc hP1 hD1
        have hP : va_P D vwCl ([(xa, (b11_1 x0 (nI x1) x2 (nI x3) x4 x5 x6 x7 x8 x9 x10))] ++ va_pl L M) H_36 := hP
        have hD : va_D A ([(xa, (b11_1 x0 (nI x1) x2 (nI x3) x4 x5 x6 x7 x8 x9 x10))] ++ va_pl L M) := hD
        obtain ⟨hp_39, hqx⟩ := hp_39
        rcases r_37 with _ | b_40
        · have hz := rfl (a := 0)
          have hcd : ((k2 : Int32).toNatClampNeg : Int) = (k2 : Int32).toInt := clT (by omega)
          have hdn : (k2 : Int32).toNatClampNeg < 1000 := by omega
          have hpl := hSM.pl (k2 : Int32).toNatClampNeg hdn
          have hr2 := hSVk.r2 (k2 : Int32).toNatClampNeg hdn
          have hr3 := hSVk.r3 (k2 : Int32).toNatClampNeg hdn
          have hp2 : (SY (k1 : Int32).toNatClampNeg 2 (k2 : Int32).toNatClampNeg).toInt = -1 := by rw [← hpl.1, (lk_lf0 ((hqx.2 rfl).resolve_left (fun z9 => z9 (by omega))) hdn).1]; rfl
          refine lv_astoreN (lv' := [(6, .null), (5, .ref b_5), (0, .ref xa), (1, .int k1), (2, .int k2), (3, .int k3), (4, .int k4)]) hx hb dX11_enter_52 hl (by decide) rfl (fun ls hl => ?_)
          refine lv_aloadN hx hb dX11_enter_54 (lv_at hl 0 rfl) ?_
          refine lv_ifnullN (tgt := 67) hx hb dX11_enter_56 (by decide) ?_
          refine lv_aload_n hx hb dX11_enter_67 rfl (lv_at hl 2 rfl) ?_
          refine lv_bipush (v := 10) hx hb dX11_enter_68 (by decide) ?_
          have hPc := hP.sub (ws' := [(xa, (b11_1 x0 (nI x1) x2 (nI x3) x4 x5 x6 x7 x8 x9 x10))]) [0] rfl
          have hDc := hD.sub (ws' := [(xa, (b11_1 x0 (nI x1) x2 (nI x3) x4 x5 x6 x7 x8 x9 x10))]) [0] (by decide) rfl
          have hKc := hK.sub (tys' := []) [] rfl
          have hFc := va_free (wc := [(xa, (b11_1 x0 (nI x1) x2 (nI x3) x4 x5 x6 x7 x8 x9 x10))]) hD hS hA [0] rfl
          refine va_calli (va_runV (As := [.int 10]) (rest := []) ⟨hx, hb, hml, hown, hg⟩ (k_refuse l D H_36.size xa x0 (nI x1) x2 (nI x3) x4 x5 x6 x7 x8 x9 x10 10) (cwV 1 hg (gV wd_344 wd_345 wd_346 wd_3 wd_347) rfl rfl rfl (by decide +kernel) ⟨(Nat.le_trans (Nat.le_of_ble_eq_true rfl) hRf), (Nat.le_trans (Nat.le_of_ble_eq_true rfl) hRl)⟩) ⟨Pr.blind, va_recv hK hP (ci := 11) (q0 := 0) rfl rfl, fun U hU hW => ⟨rfl, Pr.at hPc hKc hDc hN hU hW⟩⟩ rfl rfl hl.1 rfl (lv_room (Nat.le_of_ble_eq_true rfl)) dX11_enter_70 ⟨(Nat.le_trans (Nat.le_of_ble_eq_true rfl) hRc), (Nat.le_trans (Nat.le_of_ble_eq_true rfl) hRs)⟩) hS (fun q _ h => hFc q h) hFc (fun r_42 M_43 t H_41 locs ht hvm hw hB hz1 hk1 hS => ?_)
          have hp_44 := hw
          obtain ⟨hP1, hK1, hD1⟩ := hB
          rw [ht] at hP1
          obtain ⟨hP, hD⟩ := va_joinQ (X := [(xa, (b11_1 x0 (nI x1) x2 (nI x3) x4 x5 x6 x7 x8 x9 x10))]) (cx := [(xa, (b11_1 x0 (nI x1) x2 (nI x3) x4 x5 x6 x7 x8 x9 x10))]) (wr := []) (w1 := [(xa, (b11_1 x0 (nI x1) x2 (nI x3) x4 x5 x6 x7 x8 10 (-1)))]) (pl := va_pl L M) hP hD [0] [] rfl rfl (by decide) (by decide) hk1 hFc hP1 hD1
          have hP : va_P D vwCl ([(xa, (b11_1 x0 (nI x1) x2 (nI x3) x4 x5 x6 x7 x8 10 (-1)))] ++ va_pl L M) H_41 := hP
          have hD : va_D A ([(xa, (b11_1 x0 (nI x1) x2 (nI x3) x4 x5 x6 x7 x8 10 (-1)))] ++ va_pl L M) := hD
          have hq := Eq.symm hp_44
          subst hq
          have hI_45 : (0 : Int) ≤ (k2 : Int32).toInt := inltI rfl rfl c_32
          have hI_46 : (k2 : Int32).toInt ≤ (999 : Int) := inltI rfl rfl c_33
          have hno : ¬ okEn x1 SX SY k1 k2 k3 k4 := fun q9 => by unfold okEn okH at q9; first | omega | (obtain ⟨⟨_, _⟩, _, _, _, _, _, _, _⟩ := q9; first | omega | contradiction)
          rw [hQ]
          exact W.iret (v := (-1)) hx hb hr (fun t ht hW9 => ⟨⟨(-1), M, rfl, ⟨hW, hF, hT3, hT10, (by intro n9 l9 hR9; unfold sxEn syEn; rw [if_neg hno, if_neg hno]; exact hC.mono), (by unfold anEn; rw [if_neg hno])⟩, ⟨10, by rw [ht]; exact hP, hD⟩⟩, hS.F ht⟩) hS.2.2 dX11_enter_73
        · have hb_47 := hp_39 b_40 rfl
          have hcd : ((k2 : Int32).toNatClampNeg : Int) = (k2 : Int32).toInt := clT (by omega)
          have hdn : (k2 : Int32).toNatClampNeg < 1000 := by omega
          have hpl := hSM.pl (k2 : Int32).toNatClampNeg hdn
          have hr2 := hSVk.r2 (k2 : Int32).toNatClampNeg hdn
          have hr3 := hSVk.r3 (k2 : Int32).toNatClampNeg hdn
          obtain ⟨hdc, hsl⟩ := hqx.1 _ rfl
          have hlk := lk_lf hsl hdn
          have hlb := lfb hW hb_47
          have hp2 : (SY (k1 : Int32).toNatClampNeg 2 (k2 : Int32).toNatClampNeg).toInt = (ALc (M (rA 3 M b_40 1)) : Int) := by rw [← hpl.1, hlk.1]; exact nI_toInt (by omega)
          have hp3 : (SY (k1 : Int32).toNatClampNeg 3 (k2 : Int32).toNatClampNeg).toInt = (cV 3 M b_40 2).toInt := by rw [← hpl.2.1, hlk.2.1]
          have hp3e : cV 3 M b_40 2 = SY (k1 : Int32).toNatClampNeg 3 (k2 : Int32).toNatClampNeg := by rw [← hpl.2.1, hlk.2.1]
          have hp4 : (SY (k1 : Int32).toNatClampNeg 4 (k2 : Int32).toNatClampNeg).toInt = (cV 3 M b_40 0).toInt := by rw [← hpl.2.2 (fun z9 => absurd hp2 (by rw [z9, show (-1 : Int32).toInt = -1 from rfl]; omega)), hlk.2.2]
          refine lv_astore (lv' := [(6, .ref b_40), (5, .ref b_5), (0, .ref xa), (1, .int k1), (2, .int k2), (3, .int k3), (4, .int k4)]) hx hb dX11_enter_52 hl (by decide) rfl (fun ls hl => ?_)
          refine lv_aload hx hb dX11_enter_54 (lv_at hl 0 rfl) ?_
          refine lv_ifnull hx hb dX11_enter_56 ?_
          refine lv_aload hx hb dX11_enter_59 (lv_at hl 0 rfl) ?_
          obtain ⟨n48, v48_0, v48_1, v48_2, hM48, h48_1, h48_2, y48_0⟩ := hW.open_3 hb_47
          have hPc : va_P D vwCl ([] ++ va_pl L M) H_36 := hP.part (cx := []) [] rfl
          have hDc : va_D A ([] ++ va_pl L M) := hD.part (cx := []) [] (by decide) rfl
          have hFc : ∀ q, va_A ([] ++ va_pl L M) H_36.size q → A q := pg_free hDc hS hA
          refine va_calli (va_runV (As := []) (rest := []) ⟨hx, hb, hml, hown, hg⟩ (e_X3_lacksEntries l D cy K L M H_36.size b_40 n48 v48_0 v48_1 v48_2 hW hb_47 hM48 h48_1 h48_2 y48_0) (cwV 0 hg (gV wd_387 wd_37 wd_38 wd_39 wd_40) rfl rfl rfl (by decide +kernel) ⟨(Nat.le_trans (Nat.le_of_ble_eq_true rfl) hRf), (Nat.le_trans (Nat.le_of_ble_eq_true rfl) hRl)⟩) ⟨PG.blind, pg_recv hK hP hb_47.1 hM48 rfl, fun U hU hW => ⟨rfl, PG.at hPc hK hDc hN hU hW⟩⟩ rfl rfl hl.1 rfl (lv_room (Nat.le_of_ble_eq_true rfl)) dX11_enter_61 ⟨(Nat.le_trans (Nat.le_of_ble_eq_true rfl) hRc), (Nat.le_trans (Nat.le_of_ble_eq_true rfl) hRs)⟩) hS (fun q _ h => hFc q h) hFc (fun r_50 M_51 t H_49 locs ht hvm hw hB hz1 hk1 hS => ?_)
          have hp_52 := hw
          obtain ⟨hP1, hD1⟩ := hB
          rw [ht] at hP1
          obtain ⟨hP, hD⟩ := va_joinP (X := [(xa, (b11_1 x0 (nI x1) x2 (nI x3) x4 x5 x6 x7 x8 x9 x10))]) (cx := []) (wr := [(xa, (b11_1 x0 (nI x1) x2 (nI x3) x4 x5 x6 x7 x8 x9 x10))]) (rx := []) (pl := va_pl L M) (pl1 := va_pl L M) hP hD [] [0] rfl rfl (by decide) (by decide) hk1 hFc hP1 hD1
          have hP : va_P D vwCl ([(xa, (b11_1 x0 (nI x1) x2 (nI x3) x4 x5 x6 x7 x8 x9 x10))] ++ va_pl L M) H_49 := hP
          have hD : va_D A ([(xa, (b11_1 x0 (nI x1) x2 (nI x3) x4 x5 x6 x7 x8 x9 x10))] ++ va_pl L M) := hD
          rcases hp_52 with ⟨rfl, c_53, c_54⟩ | ⟨rfl, c_55⟩
          · have hz := rfl (a := 0)
            refine lv_if_ne (tgt := 74) hx hb dX11_enter_64 (by decide) (fun _ => ?_) (fun c_56 => absurd c_56 (by decide))
            refine lv_iload hx hb dX11_enter_74 (lv_at hl 6 rfl) ?_
            refine lv_iload_n hx hb dX11_enter_76 rfl (lv_at hl 5 rfl) ?_
            refine lv_imul hx hb dX11_enter_77 ?_
            refine lv_topi (fun f_57 ef_57 => ?_)
            refine lv_istore (lv' := [(7, .int f_57), (6, .ref b_40), (5, .ref b_5), (0, .ref xa), (1, .int k1), (2, .int k2), (3, .int k3), (4, .int k4)]) hx hb dX11_enter_78 hl (by decide) rfl (fun ls hl => ?_)
            refine lv_aload hx hb dX11_enter_80 (lv_at hl 1 rfl) ?_
            refine lv_iload hx hb dX11_enter_82 (lv_at hl 0 rfl) ?_
            have hPc : va_P D vwCl ([] ++ va_pl L M) H_49 := hP.part (cx := []) [] rfl
            have hDc : va_D A ([] ++ va_pl L M) := hD.part (cx := []) [] (by decide) rfl
            have hFc : ∀ q, va_A ([] ++ va_pl L M) H_49.size q → A q := pg_free hDc hS hA
            refine va_calli (va_runV (As := [.int f_57]) (rest := []) ⟨hx, hb, hml, hown, hg⟩ (e_X3_canHold l D cy K L M H_49.size b_40 f_57  hW hb_47) (cwV 1 hg (gV wd_388 wd_389 wd_390 wd_39 wd_391) rfl rfl rfl (by decide +kernel) ⟨(Nat.le_trans (Nat.le_of_ble_eq_true rfl) hRf), (Nat.le_trans (Nat.le_of_ble_eq_true rfl) hRl)⟩) ⟨PG.blind, pg_recv hK hP hb_47.1 hM48 rfl, fun U hU hW => ⟨rfl, PG.at hPc hK hDc hN hU hW⟩⟩ rfl rfl hl.1 rfl (lv_room (Nat.le_of_ble_eq_true rfl)) dX11_enter_84 ⟨(Nat.le_trans (Nat.le_of_ble_eq_true rfl) hRc), (Nat.le_trans (Nat.le_of_ble_eq_true rfl) hRs)⟩) hS (fun q _ h => hFc q h) hFc (fun r_59 M_60 t H_58 locs ht hvm hw hB hz1 hk1 hS => ?_)
            have hp_61 := hw
            obtain ⟨hP1, hD1⟩ := hB
            rw [ht] at hP1
            obtain ⟨hP, hD⟩ := va_joinP (X := [(xa, (b11_1 x0 (nI x1) x2 (nI x3) x4 x5 x6 x7 x8 x9 x10))]) (cx := []) (wr := [(xa, (b11_1 x0 (nI x1) x2 (nI x3) x4 x5 x6 x7 x8 x9 x10))]) (rx := []) (pl := va_pl L M) (pl1 := va_pl L M) hP hD [] [0] rfl rfl (by decide) (by decide) hk1 hFc hP1 hD1
            have hP : va_P D vwCl ([(xa, (b11_1 x0 (nI x1) x2 (nI x3) x4 x5 x6 x7 x8 x9 x10))] ++ va_pl L M) H_58 := hP
            have hD : va_D A ([(xa, (b11_1 x0 (nI x1) x2 (nI x3) x4 x5 x6 x7 x8 x9 x10))] ++ va_pl L M) := hD
            rcases hp_61 with ⟨rfl, c_62⟩ | ⟨rfl, c_63⟩
            · have hz := rfl (a := 0)
              refine lv_if_ne (tgt := 96) hx hb dX11_enter_87 (by decide) (fun _ => ?_) (fun c_64 => absurd c_64 (by decide))
              refine lv_aload hx hb dX11_enter_96 (lv_at hl 1 rfl) ?_
              refine lv_iload hx hb dX11_enter_98 (lv_at hl 0 rfl) ?_
              have hPc : va_P D vwCl ([] ++ va_pl L M) H_58 := hP.part (cx := []) [] rfl
              have hDc : va_D A ([] ++ va_pl L M) := hD.part (cx := []) [] (by decide) rfl
              have hFc : ∀ q, va_A ([] ++ va_pl L M) H_58.size q → A q := pg_free hDc hS hA
              have hI_65 : (0 : Int) ≤ (k2 : Int32).toInt := inltI rfl rfl c_32
              have hI_66 : (k2 : Int32).toInt ≤ (999 : Int) := inltI rfl rfl c_33
              have hA_67 : (cV 3 M b_40 0).toInt = (v48_0 : Int32).toInt := by rw [cV_of hM48 rfl]
              have hA_68 : (cV 3 M b_40 2).toInt = ((v48_2 : Nat) : Int) := by rw [cV_of hM48 rfl]; exact nI_toInt (by omega)
              refine va_callv (va_runV (As := [.int f_57]) (rest := []) ⟨hx, hb, hml, hown, hg⟩ (e_append l D cy K L M H_58.size b_40 f_57 Bo M b_5 (cfx M b_5) (cax M b_5) ((k2 : Int32).toNatClampNeg) n48 v48_0 v48_1 v48_2 hW hb_47 hb_10 hV hsl hdn (by omega) hM48 h48_1 h48_2 y48_0) (cwV 1 hg (gV wd_392 wd_393 wd_394 wd_39 wd_395) rfl rfl rfl (by decide +kernel) ⟨(Nat.le_trans (Nat.le_of_ble_eq_true rfl) hRf), (Nat.le_trans (Nat.le_of_ble_eq_true rfl) hRl)⟩) ⟨PG.blind, pg_recv hK hP hb_47.1 hM48 rfl, fun U hU hW => ⟨rfl, PG.at hPc hK hDc hN hU hW⟩⟩ rfl rfl hl.1 rfl (lv_room (Nat.le_of_ble_eq_true rfl)) dX11_enter_100 ⟨(Nat.le_trans (Nat.le_of_ble_eq_true rfl) hRc), (Nat.le_trans (Nat.le_of_ble_eq_true rfl) hRs)⟩) hS (fun q _ h => hFc q h) hFc (fun M_71 t H_69 locs ht hvm hw hB hz1 hk1 hS => ?_)
              have hWb := hW
              obtain ⟨hW, hF2, gT3, hVP, hp_72⟩ := hw
              obtain ⟨hP1, hD1⟩ := hB
              rw [ht] at hP1
              obtain ⟨hP, hD⟩ := va_joinP (X := [(xa, (b11_1 x0 (nI x1) x2 (nI x3) x4 x5 x6 x7 x8 x9 x10))]) (cx := []) (wr := [(xa, (b11_1 x0 (nI x1) x2 (nI x3) x4 x5 x6 x7 x8 x9 x10))]) (rx := []) (pl := va_pl L M) (pl1 := va_pl L M_71) hP hD [] [0] rfl rfl (by decide) (by decide) hk1 hFc hP1 hD1
              have hP : va_P D vwCl ([(xa, (b11_1 x0 (nI x1) x2 (nI x3) x4 x5 x6 x7 x8 x9 x10))] ++ va_pl L M_71) H_69 := hP
              have hD : va_D A ([(xa, (b11_1 x0 (nI x1) x2 (nI x3) x4 x5 x6 x7 x8 x9 x10))] ++ va_pl L M_71) := hD
              have hM_73 : M_71 b_5 = (b2_2 v11_0 v11_1 v11_2 v11_3 (nI v11_4) (nI v11_5) v11_6 v11_7 v11_8 (nI v11_9) v11_10 (nI v11_11) v11_12 v11_13 v11_14 v11_15 v11_16 v11_17 v11_18 v11_19) := (hF2.at hb_10 (by decide)).trans hM11
              have hF : fr K L [3, 10, 53, 55] M M_71 := hF.tr hF2 (by decide)
              have hT3 : fT 3 K L [2] M M_71 := hT3.tr gT3 (by decide)
              have hT10 : fT 10 K L [1, 2] M M_71 := hT10.frr hF2 (by decide)
              have hV : VC Bo K L M M_71 b_5 (cfx M b_5) (va_up (va_up (cax M b_5) 60 (upd ((cax M b_5) 60) (1000 * (cV 3 M b_40 2).toNatClampNeg + (k2 : Int32).toNatClampNeg) f_57)) 3 (upd ((cax M b_5) 3) (k2 : Int32).toNatClampNeg (cV 3 M b_40 2 + 1))) := hVP
              have hs_74 : RFc (M_71 (rA 2 M_71 b_5 12)) (k2 : Int32).toNatClampNeg = some b_40 := by rw [rA_c ((fr.cv hF2 (by decide)) _ hb_10 12 rfl), hF2.at (KH hWb hb_10).2.2.2.2.2.1 (by decide)]; exact hsl
              refine lv_aload hx hb dX11_enter_103 (lv_at hl 2 rfl) ?_
              refine pg_get (D := D) (ci := 2) (v := .ref v11_18) (C := RX2) (T := TX2) (N := 20) hx hb hg inG2 hown hK hP hb_10.1 hM_73 rfl 18 (by decide) (hg _ wd_378) (fun _ h9 => h9) rfl dX11_enter_105 ?_
              refine lv_iload_n hx hb dX11_enter_108 rfl (lv_at hl 5 rfl) ?_
              obtain ⟨v75_0, v75_1, v75_2, hM75, h75_0⟩ := hW.open_10 h11_18
              have hPc : va_P D vwCl ([] ++ va_pl L M_71) H_69 := hP.part (cx := []) [] rfl
              have hDc : va_D A ([] ++ va_pl L M_71) := hD.part (cx := []) [] (by decide) rfl
              have hFc : ∀ q, va_A ([] ++ va_pl L M_71) H_69.size q → A q := pg_free hDc hS hA
              have hI_76 : (cfx M b_5) 16 = ((cfx M b_5) 16) := rfl
              have hI_77 : (cfx M b_5) 19 = ((cfx M b_5) 19) := rfl
              refine va_callv (va_runV (As := [.int k2]) (rest := []) ⟨hx, hb, hml, hown, hg⟩ (e_note l D cy K L M_71 H_69.size v11_18 k2 Bo M b_5 (cfx M b_5) (va_up (va_up (cax M b_5) 60 (upd ((cax M b_5) 60) (1000 * (cV 3 M b_40 2).toNatClampNeg + (k2 : Int32).toNatClampNeg) f_57)) 3 (upd ((cax M b_5) 3) (k2 : Int32).toNatClampNeg (cV 3 M b_40 2 + 1))) v75_0 v75_1 v75_2 hW h11_18 hb_10 hV (rA_of (j := 18) hM_73 rfl) (by omega) (by omega) hM75 h75_0) (cwV 1 hg (gV wd_396 wd_112 wd_113 wd_114 wd_115) rfl rfl rfl (by decide +kernel) ⟨(Nat.le_trans (Nat.le_of_ble_eq_true rfl) hRf), (Nat.le_trans (Nat.le_of_ble_eq_true rfl) hRl)⟩) ⟨PG.blind, pg_recv hK hP h11_18.1 hM75 rfl, fun U hU hW => ⟨rfl, PG.at hPc hK hDc hN hU hW⟩⟩ rfl rfl hl.1 rfl (lv_room (Nat.le_of_ble_eq_true rfl)) dX11_enter_109 ⟨(Nat.le_trans (Nat.le_of_ble_eq_true rfl) hRc), (Nat.le_trans (Nat.le_of_ble_eq_true rfl) hRs)⟩) hS (fun q _ h => hFc q h) hFc (fun M_80 t H_78 locs ht hvm hw hB hz1 hk1 hS => ?_)
              have hWb := hW
              obtain ⟨hW, hF2, gT10, hVP, hp_81⟩ := hw
              obtain ⟨hP1, hD1⟩ := hB
              rw [ht] at hP1
              obtain ⟨hP, hD⟩ := va_joinP (X := [(xa, (b11_1 x0 (nI x1) x2 (nI x3) x4 x5 x6 x7 x8 x9 x10))]) (cx := []) (wr := [(xa, (b11_1 x0 (nI x1) x2 (nI x3) x4 x5 x6 x7 x8 x9 x10))]) (rx := []) (pl := va_pl L M_71) (pl1 := va_pl L M_80) hP hD [] [0] rfl rfl (by decide) (by decide) hk1 hFc hP1 hD1
              have hP : va_P D vwCl ([(xa, (b11_1 x0 (nI x1) x2 (nI x3) x4 x5 x6 x7 x8 x9 x10))] ++ va_pl L M_80) H_78 := hP
              have hD : va_D A ([(xa, (b11_1 x0 (nI x1) x2 (nI x3) x4 x5 x6 x7 x8 x9 x10))] ++ va_pl L M_80) := hD
              have hM_82 : M_80 b_5 = (b2_2 v11_0 v11_1 v11_2 v11_3 (nI v11_4) (nI v11_5) v11_6 v11_7 v11_8 (nI v11_9) v11_10 (nI v11_11) v11_12 v11_13 v11_14 v11_15 v11_16 v11_17 v11_18 v11_19) := (hF2.at hb_10 (by decide)).trans hM_73
              have hF : fr K L [3, 10, 53, 55] M M_80 := hF.tr hF2 (by decide)
              have hT3 : fT 3 K L [2] M M_80 := hT3.frr hF2 (by decide)
              have hT10 : fT 10 K L [1, 2] M M_80 := hT10.tr gT10 (by decide)
              have hV : VC Bo K L M M_80 b_5 (va_up (va_up (cfx M b_5) 19 ((cfx M b_5) 19 + 1)) 16 (min 60 ((cfx M b_5) 16 + 1))) (va_up (va_up (va_up (cax M b_5) 60 (upd ((cax M b_5) 60) (1000 * (cV 3 M b_40 2).toNatClampNeg + (k2 : Int32).toNatClampNeg) f_57)) 3 (upd ((cax M b_5) 3) (k2 : Int32).toNatClampNeg (cV 3 M b_40 2 + 1))) 43 (upd ((va_up (va_up (cax M b_5) 60 (upd ((cax M b_5) 60) (1000 * (cV 3 M b_40 2).toNatClampNeg + (k2 : Int32).toNatClampNeg) f_57)) 3 (upd ((cax M b_5) 3) (k2 : Int32).toNatClampNeg (cV 3 M b_40 2 + 1))) 43) (((cfx M b_5) 19).toNat % 60) k2)) := hVP
              have hs_83 : RFc (M_80 (rA 2 M_80 b_5 12)) (k2 : Int32).toNatClampNeg = some b_40 := by rw [rA_c ((fr.cv hF2 (by decide)) _ hb_10 12 rfl), hF2.at (KH hWb hb_10).2.2.2.2.2.1 (by decide)]; exact hs_74
              refine lv_aload_n hx hb dX11_enter_112 rfl (lv_at hl 3 rfl) ?_
              refine lv_aload hx hb dX11_enter_113 (lv_at hl 1 rfl) ?_
              obtain ⟨n84, v84_0, v84_1, v84_2, hM84, h84_1, h84_2, y84_0⟩ := hW.open_3 hb_47
              refine pg_get (D := D) (ci := 3) (v := .int (nI v84_2)) (C := RX3) (T := TX3) (N := 3) hx hb hg inG3 hown hK hP hb_47.1 hM84 rfl 2 (by decide) (hg _ wd_383) (fun _ h9 => h9) rfl dX11_enter_115 ?_
              have hPc := hP.sub (ws' := [(xa, (b11_1 x0 (nI x1) x2 (nI x3) x4 x5 x6 x7 x8 x9 x10))]) [0] rfl
              have hDc := hD.sub (ws' := [(xa, (b11_1 x0 (nI x1) x2 (nI x3) x4 x5 x6 x7 x8 x9 x10))]) [0] (by decide) rfl
              have hKc := hK.sub (tys' := []) [] rfl
              have hFc := va_free (wc := [(xa, (b11_1 x0 (nI x1) x2 (nI x3) x4 x5 x6 x7 x8 x9 x10))]) hD hS hA [0] rfl
              refine va_calli (va_runV (As := [.int (nI v84_2)]) (rest := []) ⟨hx, hb, hml, hown, hg⟩ (k_accept l D H_78.size xa x0 (nI x1) x2 (nI x3) x4 x5 x6 x7 x8 x9 x10 (nI v84_2)) (cwV 1 hg (gV wd_356 wd_357 wd_358 wd_3 wd_359) rfl rfl rfl (by decide +kernel) ⟨(Nat.le_trans (Nat.le_of_ble_eq_true rfl) hRf), (Nat.le_trans (Nat.le_of_ble_eq_true rfl) hRl)⟩) ⟨Pr.blind, va_recv hK hP (ci := 11) (q0 := 0) rfl rfl, fun U hU hW => ⟨rfl, Pr.at hPc hKc hDc hN hU hW⟩⟩ rfl rfl hl.1 rfl (lv_room (Nat.le_of_ble_eq_true rfl)) dX11_enter_118 ⟨(Nat.le_trans (Nat.le_of_ble_eq_true rfl) hRc), (Nat.le_trans (Nat.le_of_ble_eq_true rfl) hRs)⟩) hS (fun q _ h => hFc q h) hFc (fun r_86 M_87 t H_85 locs ht hvm hw hB hz1 hk1 hS => ?_)
              have hp_88 := hw
              obtain ⟨hP1, hK1, hD1⟩ := hB
              rw [ht] at hP1
              obtain ⟨hP, hD⟩ := va_joinQ (X := [(xa, (b11_1 x0 (nI x1) x2 (nI x3) x4 x5 x6 x7 x8 x9 x10))]) (cx := [(xa, (b11_1 x0 (nI x1) x2 (nI x3) x4 x5 x6 x7 x8 x9 x10))]) (wr := []) (w1 := [(xa, (b11_1 x0 (nI x1) x2 (nI x3) x4 x5 x6 x7 x8 0 (-1)))]) (pl := va_pl L M_80) hP hD [0] [] rfl rfl (by decide) (by decide) hk1 hFc hP1 hD1
              have hP : va_P D vwCl ([(xa, (b11_1 x0 (nI x1) x2 (nI x3) x4 x5 x6 x7 x8 0 (-1)))] ++ va_pl L M_80) H_85 := hP
              have hD : va_D A ([(xa, (b11_1 x0 (nI x1) x2 (nI x3) x4 x5 x6 x7 x8 0 (-1)))] ++ va_pl L M_80) := hD
              have hq := Eq.symm hp_88
              subst hq
              have hfv : (k4 * k3).toInt = (f_57 : Int32).toInt := by rw [ef_57]
              have hyes : okEn x1 SX SY k1 k2 k3 k4 := by unfold okEn okH; refine ⟨⟨?_, ?_⟩, ?_, ?_, ?_, ?_, ?_, ?_, ?_⟩ <;> first | omega | assumption
              rw [hp3e] at hV
              have h3c : ((SY k1.toNatClampNeg 3 k2.toNatClampNeg).toInt : Int) = ((SY k1.toNatClampNeg 3 k2.toNatClampNeg).toNatClampNeg : Int) := (clT (hSVk.r3 _ hdn).1).symm
              have h36 : (SY k1.toNatClampNeg 3 k2.toNatClampNeg).toNatClampNeg < 6 := by
                have q3 := hyes.2.2.2.2.2.2.1
                have q4 := (hSVk.r3 _ hdn).1
                rcases hSVk.r2 _ hdn with w | w
                · rw [w, show (-1 : Int32).toInt = -1 from rfl] at q3
                  omega
                · omega
              rw [hQ]
              exact W.iret (v := (nI v84_2)) hx hb hr (fun t ht hW9 => ⟨⟨(nI v84_2), M_80, rfl, ⟨hW, hF, hT3, hT10, (by intro n9 l9 hR9; unfold sxEn syEn; rw [if_pos hyes, if_pos hyes]; have hZ := hC.fin hW0 i0 b1 hkn hb9 hV ext.rf (by rw [hF.at i0 (by decide)]) (fun q iq => ⟨iq, cR_c (fr.cv hF (by decide) q iq 3 rfl)⟩) (((hSM.ent (d := k2.toNatClampNeg) hdn h3c h36 (fun e he => (hSVk.r3 e he).2) hfv.symm).note (n' := n9) (l' := l9) (by rw [lKdn _ 10 _ 16 _ (by decide)]; exact hbd16) (by rw [lKdn _ 10 _ 16 _ (by decide)]; exact hR9 hyes))); exact hZ), (by unfold anEn; rw [if_pos hyes]; have h9 := (lk_lf hs_83 hdn).2.1; rw [hV.2.2.1, cV_of (j := 2) hM84 rfl] at h9; exact h9.symm.trans (upd_self _ _ _))⟩, ⟨0, by rw [ht]; exact hP, hD⟩⟩, hS.F ht⟩) hS.2.2 dX11_enter_121
            · have hz := rfl (a := 0)
              refine lv_if_ne (tgt := 96) hx hb dX11_enter_87 (by decide) (fun c_89 => absurd c_89 (by decide)) (fun _ => ?_)
              refine lv_aload_n hx hb dX11_enter_90 rfl (lv_at hl 3 rfl) ?_
              refine lv_iconst (v := 2) hx hb dX11_enter_91 (by decide) ?_
              have hPc := hP.sub (ws' := [(xa, (b11_1 x0 (nI x1) x2 (nI x3) x4 x5 x6 x7 x8 x9 x10))]) [0] rfl
              have hDc := hD.sub (ws' := [(xa, (b11_1 x0 (nI x1) x2 (nI x3) x4 x5 x6 x7 x8 x9 x10))]) [0] (by decide) rfl
              have hKc := hK.sub (tys' := []) [] rfl
              have hFc := va_free (wc := [(xa, (b11_1 x0 (nI x1) x2 (nI x3) x4 x5 x6 x7 x8 x9 x10))]) hD hS hA [0] rfl
              refine va_calli (va_runV (As := [.int 2]) (rest := []) ⟨hx, hb, hml, hown, hg⟩ (k_refuse l D H_58.size xa x0 (nI x1) x2 (nI x3) x4 x5 x6 x7 x8 x9 x10 2) (cwV 1 hg (gV wd_344 wd_345 wd_346 wd_3 wd_347) rfl rfl rfl (by decide +kernel) ⟨(Nat.le_trans (Nat.le_of_ble_eq_true rfl) hRf), (Nat.le_trans (Nat.le_of_ble_eq_true rfl) hRl)⟩) ⟨Pr.blind, va_recv hK hP (ci := 11) (q0 := 0) rfl rfl, fun U hU hW => ⟨rfl, Pr.at hPc hKc hDc hN hU hW⟩⟩ rfl rfl hl.1 rfl (lv_room (Nat.le_of_ble_eq_true rfl)) dX11_enter_92 ⟨(Nat.le_trans (Nat.le_of_ble_eq_true rfl) hRc), (Nat.le_trans (Nat.le_of_ble_eq_true rfl) hRs)⟩) hS (fun q _ h => hFc q h) hFc (fun r_91 M_92 t H_90 locs ht hvm hw hB hz1 hk1 hS => ?_)
              have hp_93 := hw
              obtain ⟨hP1, hK1, hD1⟩ := hB
              rw [ht] at hP1
              obtain ⟨hP, hD⟩ := va_joinQ (X := [(xa, (b11_1 x0 (nI x1) x2 (nI x3) x4 x5 x6 x7 x8 x9 x10))]) (cx := [(xa, (b11_1 x0 (nI x1) x2 (nI x3) x4 x5 x6 x7 x8 x9 x10))]) (wr := []) (w1 := [(xa, (b11_1 x0 (nI x1) x2 (nI x3) x4 x5 x6 x7 x8 2 (-1)))]) (pl := va_pl L M) hP hD [0] [] rfl rfl (by decide) (by decide) hk1 hFc hP1 hD1
              have hP : va_P D vwCl ([(xa, (b11_1 x0 (nI x1) x2 (nI x3) x4 x5 x6 x7 x8 2 (-1)))] ++ va_pl L M) H_90 := hP
              have hD : va_D A ([(xa, (b11_1 x0 (nI x1) x2 (nI x3) x4 x5 x6 x7 x8 2 (-1)))] ++ va_pl L M) := hD
              have hq := Eq.symm hp_93
              subst hq
              have hI_94 : (0 : Int) ≤ (k2 : Int32).toInt := inltI rfl rfl c_32
              have hI_95 : (k2 : Int32).toInt ≤ (999 : Int) := inltI rfl rfl c_33
              have hA_96 : (cV 3 M b_40 0).toInt = (v48_0 : Int32).toInt := by rw [cV_of hM48 rfl]
              have hA_97 : (cV 3 M b_40 2).toInt = ((v48_2 : Nat) : Int) := by rw [cV_of hM48 rfl]; exact nI_toInt (by omega)
              have hfv : (k4 * k3).toInt = (f_57 : Int32).toInt := by rw [ef_57]
              have hno : ¬ okEn x1 SX SY k1 k2 k3 k4 := fun q9 => by unfold okEn okH at q9; first | omega | (obtain ⟨⟨_, _⟩, _, _, _, _, _, _, _⟩ := q9; first | omega | contradiction)
              rw [hQ]
              exact W.iret (v := (-1)) hx hb hr (fun t ht hW9 => ⟨⟨(-1), M, rfl, ⟨hW, hF, hT3, hT10, (by intro n9 l9 hR9; unfold sxEn syEn; rw [if_neg hno, if_neg hno]; exact hC.mono), (by unfold anEn; rw [if_neg hno])⟩, ⟨2, by rw [ht]; exact hP, hD⟩⟩, hS.F ht⟩) hS.2.2 dX11_enter_95
          · have hz := rfl (a := 0)
            refine lv_if_ne (tgt := 74) hx hb dX11_enter_64 (by decide) (fun c_98 => absurd c_98 (by decide)) (fun _ => ?_)
            refine lv_aload_n hx hb dX11_enter_67 rfl (lv_at hl 2 rfl) ?_
            refine lv_bipush (v := 10) hx hb dX11_enter_68 (by decide) ?_
            have hPc := hP.sub (ws' := [(xa, (b11_1 x0 (nI x1) x2 (nI x3) x4 x5 x6 x7 x8 x9 x10))]) [0] rfl
            have hDc := hD.sub (ws' := [(xa, (b11_1 x0 (nI x1) x2 (nI x3) x4 x5 x6 x7 x8 x9 x10))]) [0] (by decide) rfl
            have hKc := hK.sub (tys' := []) [] rfl
            have hFc := va_free (wc := [(xa, (b11_1 x0 (nI x1) x2 (nI x3) x4 x5 x6 x7 x8 x9 x10))]) hD hS hA [0] rfl
            refine va_calli (va_runV (As := [.int 10]) (rest := []) ⟨hx, hb, hml, hown, hg⟩ (k_refuse l D H_49.size xa x0 (nI x1) x2 (nI x3) x4 x5 x6 x7 x8 x9 x10 10) (cwV 1 hg (gV wd_344 wd_345 wd_346 wd_3 wd_347) rfl rfl rfl (by decide +kernel) ⟨(Nat.le_trans (Nat.le_of_ble_eq_true rfl) hRf), (Nat.le_trans (Nat.le_of_ble_eq_true rfl) hRl)⟩) ⟨Pr.blind, va_recv hK hP (ci := 11) (q0 := 0) rfl rfl, fun U hU hW => ⟨rfl, Pr.at hPc hKc hDc hN hU hW⟩⟩ rfl rfl hl.1 rfl (lv_room (Nat.le_of_ble_eq_true rfl)) dX11_enter_70 ⟨(Nat.le_trans (Nat.le_of_ble_eq_true rfl) hRc), (Nat.le_trans (Nat.le_of_ble_eq_true rfl) hRs)⟩) hS (fun q _ h => hFc q h) hFc (fun r_100 M_101 t H_99 locs ht hvm hw hB hz1 hk1 hS => ?_)
            have hp_102 := hw
            obtain ⟨hP1, hK1, hD1⟩ := hB
            rw [ht] at hP1
            obtain ⟨hP, hD⟩ := va_joinQ (X := [(xa, (b11_1 x0 (nI x1) x2 (nI x3) x4 x5 x6 x7 x8 x9 x10))]) (cx := [(xa, (b11_1 x0 (nI x1) x2 (nI x3) x4 x5 x6 x7 x8 x9 x10))]) (wr := []) (w1 := [(xa, (b11_1 x0 (nI x1) x2 (nI x3) x4 x5 x6 x7 x8 10 (-1)))]) (pl := va_pl L M) hP hD [0] [] rfl rfl (by decide) (by decide) hk1 hFc hP1 hD1
            have hP : va_P D vwCl ([(xa, (b11_1 x0 (nI x1) x2 (nI x3) x4 x5 x6 x7 x8 10 (-1)))] ++ va_pl L M) H_99 := hP
            have hD : va_D A ([(xa, (b11_1 x0 (nI x1) x2 (nI x3) x4 x5 x6 x7 x8 10 (-1)))] ++ va_pl L M) := hD
            have hq := Eq.symm hp_102
            subst hq
            have hI_103 : (0 : Int) ≤ (k2 : Int32).toInt := inltI rfl rfl c_32
            have hI_104 : (k2 : Int32).toInt ≤ (999 : Int) := inltI rfl rfl c_33
            have hA_105 : (cV 3 M b_40 0).toInt = (v48_0 : Int32).toInt := by rw [cV_of hM48 rfl]
            have hA_106 : (cV 3 M b_40 2).toInt = ((v48_2 : Nat) : Int) := by rw [cV_of hM48 rfl]; exact nI_toInt (by omega)
            have hno : ¬ okEn x1 SX SY k1 k2 k3 k4 := fun q9 => by unfold okEn okH at q9; first | omega | (obtain ⟨⟨_, _⟩, _, _, _, _, _, _, _⟩ := q9; first | omega | contradiction)
            rw [hQ]
            exact W.iret (v := (-1)) hx hb hr (fun t ht hW9 => ⟨⟨(-1), M, rfl, ⟨hW, hF, hT3, hT10, (by intro n9 l9 hR9; unfold sxEn syEn; rw [if_neg hno, if_neg hno]; exact hC.mono), (by unfold anEn; rw [if_neg hno])⟩, ⟨10, by rw [ht]; exact hP, hD⟩⟩, hS.F ht⟩) hS.2.2 dX11_enter_73
      · have hz := rfl (a := 0)
        refine lv_if_ne (tgt := 46) hx hb dX11_enter_37 (by decide) (fun c_107 => absurd c_107 (by decide)) (fun _ => ?_)
        refine lv_aload_n hx hb dX11_enter_40 rfl (lv_at hl 1 rfl) ?_
        refine lv_iconst (v := 3) hx hb dX11_enter_41 (by decide) ?_
        have hPc := hP.sub (ws' := [(xa, (b11_1 x0 (nI x1) x2 (nI x3) x4 x5 x6 x7 x8 x9 x10))]) [0] rfl
        have hDc := hD.sub (ws' := [(xa, (b11_1 x0 (nI x1) x2 (nI x3) x4 x5 x6 x7 x8 x9 x10))]) [0] (by decide) rfl
        have hKc := hK.sub (tys' := []) [] rfl
        have hFc := va_free (wc := [(xa, (b11_1 x0 (nI x1) x2 (nI x3) x4 x5 x6 x7 x8 x9 x10))]) hD hS hA [0] rfl
        refine va_calli (va_runV (As := [.int 3]) (rest := []) ⟨hx, hb, hml, hown, hg⟩ (k_refuse l D H_27.size xa x0 (nI x1) x2 (nI x3) x4 x5 x6 x7 x8 x9 x10 3) (cwV 1 hg (gV wd_344 wd_345 wd_346 wd_3 wd_347) rfl rfl rfl (by decide +kernel) ⟨(Nat.le_trans (Nat.le_of_ble_eq_true rfl) hRf), (Nat.le_trans (Nat.le_of_ble_eq_true rfl) hRl)⟩) ⟨Pr.blind, va_recv hK hP (ci := 11) (q0 := 0) rfl rfl, fun U hU hW => ⟨rfl, Pr.at hPc hKc hDc hN hU hW⟩⟩ rfl rfl hl.1 rfl (lv_room (Nat.le_of_ble_eq_true rfl)) dX11_enter_42 ⟨(Nat.le_trans (Nat.le_of_ble_eq_true rfl) hRc), (Nat.le_trans (Nat.le_of_ble_eq_true rfl) hRs)⟩) hS (fun q _ h => hFc q h) hFc (fun r_109 M_110 t H_108 locs ht hvm hw hB hz1 hk1 hS => ?_)
        have hp_111 := hw
        obtain ⟨hP1, hK1, hD1⟩ := hB
        rw [ht] at hP1
        obtain ⟨hP, hD⟩ := va_joinQ (X := [(xa, (b11_1 x0 (nI x1) x2 (nI x3) x4 x5 x6 x7 x8 x9 x10))]) (cx := [(xa, (b11_1 x0 (nI x1) x2 (nI x3) x4 x5 x6 x7 x8 x9 x10))]) (wr := []) (w1 := [(xa, (b11_1 x0 (nI x1) x2 (nI x3) x4 x5 x6 x7 x8 3 (-1)))]) (pl := va_pl L M) hP hD [0] [] rfl rfl (by decide) (by decide) hk1 hFc hP1 hD1
        have hP : va_P D vwCl ([(xa, (b11_1 x0 (nI x1) x2 (nI x3) x4 x5 x6 x7 x8 3 (-1)))] ++ va_pl L M) H_108 := hP
        have hD : va_D A ([(xa, (b11_1 x0 (nI x1) x2 (nI x3) x4 x5 x6 x7 x8 3 (-1)))] ++ va_pl L M) := hD
        have hq := Eq.symm hp_111
        subst hq
        have hno : ¬ okEn x1 SX SY k1 k2 k3 k4 := fun q9 => by unfold okEn okH at q9; first | omega | (obtain ⟨⟨_, _⟩, _, _, _, _, _, _, _⟩ := q9; first | omega | contradiction)
        rw [hQ]
        exact W.iret (v := (-1)) hx hb hr (fun t ht hW9 => ⟨⟨(-1), M, rfl, ⟨hW, hF, hT3, hT10, (by intro n9 l9 hR9; unfold sxEn syEn; rw [if_neg hno, if_neg hno]; exact hC.mono), (by unfold anEn; rw [if_neg hno])⟩, ⟨3, by rw [ht]; exact hP, hD⟩⟩, hS.F ht⟩) hS.2.2 dX11_enter_45
    · have hz := rfl (a := 0)
      refine lv_if_ne (tgt := 31) hx hb dX11_enter_22 (by decide) (fun c_112 => absurd c_112 (by decide)) (fun _ => ?_)
      refine lv_aload_n hx hb dX11_enter_25 rfl (lv_at hl 1 rfl) ?_
      refine lv_iconst (v := 2) hx hb dX11_enter_26 (by decide) ?_
      have hPc := hP.sub (ws' := [(xa, (b11_1 x0 (nI x1) x2 (nI x3) x4 x5 x6 x7 x8 x9 x10))]) [0] rfl
      have hDc := hD.sub (ws' := [(xa, (b11_1 x0 (nI x1) x2 (nI x3) x4 x5 x6 x7 x8 x9 x10))]) [0] (by decide) rfl
      have hKc := hK.sub (tys' := []) [] rfl
      have hFc := va_free (wc := [(xa, (b11_1 x0 (nI x1) x2 (nI x3) x4 x5 x6 x7 x8 x9 x10))]) hD hS hA [0] rfl
      refine va_calli (va_runV (As := [.int 2]) (rest := []) ⟨hx, hb, hml, hown, hg⟩ (k_refuse l D H_20.size xa x0 (nI x1) x2 (nI x3) x4 x5 x6 x7 x8 x9 x10 2) (cwV 1 hg (gV wd_344 wd_345 wd_346 wd_3 wd_347) rfl rfl rfl (by decide +kernel) ⟨(Nat.le_trans (Nat.le_of_ble_eq_true rfl) hRf), (Nat.le_trans (Nat.le_of_ble_eq_true rfl) hRl)⟩) ⟨Pr.blind, va_recv hK hP (ci := 11) (q0 := 0) rfl rfl, fun U hU hW => ⟨rfl, Pr.at hPc hKc hDc hN hU hW⟩⟩ rfl rfl hl.1 rfl (lv_room (Nat.le_of_ble_eq_true rfl)) dX11_enter_27 ⟨(Nat.le_trans (Nat.le_of_ble_eq_true rfl) hRc), (Nat.le_trans (Nat.le_of_ble_eq_true rfl) hRs)⟩) hS (fun q _ h => hFc q h) hFc (fun r_114 M_115 t H_113 locs ht hvm hw hB hz1 hk1 hS => ?_)
      have hp_116 := hw
      obtain ⟨hP1, hK1, hD1⟩ := hB
      rw [ht] at hP1
      obtain ⟨hP, hD⟩ := va_joinQ (X := [(xa, (b11_1 x0 (nI x1) x2 (nI x3) x4 x5 x6 x7 x8 x9 x10))]) (cx := [(xa, (b11_1 x0 (nI x1) x2 (nI x3) x4 x5 x6 x7 x8 x9 x10))]) (wr := []) (w1 := [(xa, (b11_1 x0 (nI x1) x2 (nI x3) x4 x5 x6 x7 x8 2 (-1)))]) (pl := va_pl L M) hP hD [0] [] rfl rfl (by decide) (by decide) hk1 hFc hP1 hD1
      have hP : va_P D vwCl ([(xa, (b11_1 x0 (nI x1) x2 (nI x3) x4 x5 x6 x7 x8 2 (-1)))] ++ va_pl L M) H_113 := hP
      have hD : va_D A ([(xa, (b11_1 x0 (nI x1) x2 (nI x3) x4 x5 x6 x7 x8 2 (-1)))] ++ va_pl L M) := hD
      have hq := Eq.symm hp_116
      subst hq
      have hno : ¬ okEn x1 SX SY k1 k2 k3 k4 := fun q9 => by unfold okEn okH at q9; first | omega | (obtain ⟨⟨_, _⟩, _, _, _, _, _, _, _⟩ := q9; first | omega | contradiction)
      rw [hQ]
      exact W.iret (v := (-1)) hx hb hr (fun t ht hW9 => ⟨⟨(-1), M, rfl, ⟨hW, hF, hT3, hT10, (by intro n9 l9 hR9; unfold sxEn syEn; rw [if_neg hno, if_neg hno]; exact hC.mono), (by unfold anEn; rw [if_neg hno])⟩, ⟨2, by rw [ht]; exact hP, hD⟩⟩, hS.F ht⟩) hS.2.2 dX11_enter_30
set_option maxHeartbeats 4000000 in
set_option maxRecDepth 100000 in
theorem x_mend (l : Launch) (D : va_G) (cy : Nat → ClassId) (K : Kp) (L : List Nat) (M : Hp) (sz : Nat) (xa : Nat) (x0 : Nat) (x1 : Nat) (x2 : Nat) (x3 : Nat) (x4 : Nat) (x5 : Nat) (x6 : Nat) (x7 : Int32) (x8 : Nat) (x9 : Int32) (x10 : Int32) (k1 : Int32) (k2 : Int32) (k3 : Int32) (Bo : Nat → Nat × Nat) (T : Int) (PK : Nat → Int32) (PT : Nat → Int32) (SX : Nat → Nat → Int) (SY : Nat → Nat → Nat → Int32) (hW : WOK cy K L M) (i0 : isk K L x0 17 8) (b1 : x1 ≤ 8) (i2 : isk K L x2 19 40) (b3 : x3 ≤ 40) (i4 : isk K L x4 7 0) (i5 : isk K L x5 5 0) (i6 : isk K L x6 60 24) (i8 : isk K L x8 73 25) (hC : CX Bo K L x0 x1 T x3 PK PT SX SY M) (hSV : ∀ k, k < x1 → SV (SX k) (SY k)) (hHI : ∀ k, k < x1 → HI (SX k) (SY k)) (hT : (0 ≤ T ∧ T ≤ 900000)) : Met l yX11_mend (wsM yX11_mend cX11_mend 5 (some .int)) ({ frames := 2, cells := 0, slots := 0, locals := 43 }) (va_Pc [.ref xa, .int k1, .int k2, .int k3] (PG D cy [(xa, (b11_1 x0 (nI x1) x2 (nI x3) x4 x5 x6 x7 x8 x9 x10))] L M sz)) (va_Qi (fun (r : Int32) (M9 : Hp) => WOK cy K L M9 ∧ fr K L [1, 56, 57, 63] M M9 ∧ fT 1 K L [3] M M9 ∧ (CX Bo K L x0 x1 (T + 1) x3 PK PT (sxMe x1 SX k1 k2 k3) (syMe x1 SX SY k1 k2 k3) M9) ∧ ((r = anMe x1 SX k1 k2 k3))) (fun M9 t => ∃ (w9 : Int32), PQ D [(xa, (b11_1 x0 (nI x1) x2 (nI x3) x4 x5 x6 x7 x8 w9 (-1)))] L M9 (va_A ([(xa, (b11_1 x0 (nI x1) x2 (nI x3) x4 x5 x6 x7 x8 x9 x10))] ++ va_pl L M) sz) t) (va_A ([(xa, (b11_1 x0 (nI x1) x2 (nI x3) x4 x5 x6 x7 x8 x9 x10))] ++ va_pl L M) sz)) 0 0 (va_A ([(xa, (b11_1 x0 (nI x1) x2 (nI x3) x4 x5 x6 x7 x8 x9 x10))] ++ va_pl L M) sz) := by
  refine Met.ofW (cc := cX11_mend) (maxL := 5) (ret := (some .int)) (by decide) rfl ?_
  intro p e s m args below meth c s₁ B hml hv
  obtain ⟨rfl, hsz, hP, hK, hD0, hN⟩ := hv
  have hx := B.exec
  have hb := B.bytes
  have hr := B.returns
  have hts := atoms_spec (ws := (wsM yX11_mend cX11_mend 5 (some .int))) B.pre
  have hg : ∀ w ∈ lw_good, w.before _ s = true := fun w h => hts w (List.mem_cons_of_mem _ h)
  have hown : s.vm.findClass RX11 = some m.cls := findClass_of_methodNamed B.named
  have hlocks := B.notSynchronized
  subst hsz
  have hD := hD0.self (sz := s.heap.size)
  generalize hAe : va_A ([(xa, (b11_1 x0 (nI x1) x2 (nI x3) x4 x5 x6 x7 x8 x9 x10))] ++ va_pl L M) s.heap.size = A at hD ⊢
  have hA : ∀ q : Nat, s.heap.size ≤ q → A q := fun q h => by rw [← hAe]; exact Or.inr h
  have hS : va_S A s.heap s.heap [] := va_S.rf
  have hl := lv_entry ([.ref xa, .int k1, .int k2, .int k3]) (n := 5) (Nat.le_of_ble_eq_true rfl)
  rw [lg_entry_eq]
  generalize (lg_sl ([.ref xa, .int k1, .int k2, .int k3]) ++ List.replicate (5 - (lg_sl ([.ref xa, .int k1, .int k2, .int k3])).length) Slot.unset).toArray = ls at hl ⊢
  refine W.nameQ (fun Q hQ => ?_)
  refine W.nameR (fun R hR => ?_)
  have hRf : 2 ≤ R.frames := by rw [hR]; exact Nat.le_of_ble_eq_true rfl
  have hRl : 43 ≤ R.locals := by rw [hR]; exact Nat.le_of_ble_eq_true rfl
  have hRc : 0 ≤ R.cells := by rw [hR]; exact Nat.le_of_ble_eq_true rfl
  have hRs : 0 ≤ R.slots := by rw [hR]; exact Nat.le_of_ble_eq_true rfl
  have hF : fr K L [1, 56, 57, 63] M M := fr.rf
  have hT1 : fT 1 K L [3] M M := fT.rf
  have hl : lv_has ls 5 [(0, .ref xa), (1, .int k1), (2, .int k2), (3, .int k3)] := hl
  have hW0 := hW
  refine lv_aload_n hx hb dX11_mend_0 rfl (lv_at hl 0 rfl) ?_
  refine lv_iload_n hx hb dX11_mend_1 rfl (lv_at hl 1 rfl) ?_
  have hPc : va_P D vwCl ([(xa, (b11_1 x0 (nI x1) x2 (nI x3) x4 x5 x6 x7 x8 x9 x10))] ++ va_pl L M) s.heap := hP
  have hDc : va_D A ([(xa, (b11_1 x0 (nI x1) x2 (nI x3) x4 x5 x6 x7 x8 x9 x10))] ++ va_pl L M) := hD
  have hFc : ∀ q, va_A ([(xa, (b11_1 x0 (nI x1) x2 (nI x3) x4 x5 x6 x7 x8 x9 x10))] ++ va_pl L M) s.heap.size q → A q := pg_free hDc hS hA
  refine va_callq (va_runV (As := [.int k1]) (rest := []) ⟨hx, hb, hml, hown, hg⟩ (e_houseAt l D cy K L M s.heap.size xa x0 x1 x2 x3 x4 x5 x6 x7 x8 x9 x10 k1 Bo T PK PT SX SY  hW i0 b1 i2 b3 i4 i5 i6 i8 hC) (cwV 1 hg (gV wd_340 wd_341 wd_342 wd_3 wd_343) rfl rfl rfl (by decide +kernel) ⟨(Nat.le_trans (Nat.le_of_ble_eq_true rfl) hRf), (Nat.le_trans (Nat.le_of_ble_eq_true rfl) hRl)⟩) ⟨PG.blind, va_recv hK hP (ci := 11) (q0 := 0) rfl rfl, fun U hU hW => ⟨rfl, PG.at hPc hK hDc hN hU hW⟩⟩ rfl rfl hl.1 rfl (lv_room (Nat.le_of_ble_eq_true rfl)) dX11_mend_2 ⟨(Nat.le_trans (Nat.le_of_ble_eq_true rfl) hRc), (Nat.le_trans (Nat.le_of_ble_eq_true rfl) hRs)⟩) hS (fun q _ h => hFc q h) hFc (fun r_2 M_3 t H_1 locs ht hvm hw hB hz1 hk1 hS => ?_)
  have hp_4 := hw
  obtain ⟨hP1, hD1⟩ := hB
  rw [ht] at hP1
  have hP : va_P D vwCl ([(xa, (b11_1 x0 (nI x1) x2 (nI x3) x4 x5 x6 x7 x8 x9 x10))] ++ va_pl L M) H_1 := hP1
  have hD : va_D A ([(xa, (b11_1 x0 (nI x1) x2 (nI x3) x4 x5 x6 x7 x8 x9 x10))] ++ va_pl L M) := hD1.mono hFc
  obtain ⟨hp_4, hqx⟩ := hp_4
  rcases r_2 with _ | b_5
  · have hz := rfl (a := 0)
    refine lv_astoreN (lv' := [(4, .null), (0, .ref xa), (1, .int k1), (2, .int k2), (3, .int k3)]) hx hb dX11_mend_5 hl (by decide) rfl (fun ls hl => ?_)
    refine lv_aloadN hx hb dX11_mend_7 (lv_at hl 0 rfl) ?_
    refine lv_ifnonnullN hx hb dX11_mend_9 ?_
    refine lv_aload_n hx hb dX11_mend_12 rfl (lv_at hl 1 rfl) ?_
    refine lv_iconst (v := 1) hx hb dX11_mend_13 (by decide) ?_
    have hPc := hP.sub (ws' := [(xa, (b11_1 x0 (nI x1) x2 (nI x3) x4 x5 x6 x7 x8 x9 x10))]) [0] rfl
    have hDc := hD.sub (ws' := [(xa, (b11_1 x0 (nI x1) x2 (nI x3) x4 x5 x6 x7 x8 x9 x10))]) [0] (by decide) rfl
    have hKc := hK.sub (tys' := []) [] rfl
    have hFc := va_free (wc := [(xa, (b11_1 x0 (nI x1) x2 (nI x3) x4 x5 x6 x7 x8 x9 x10))]) hD hS hA [0] rfl
    refine va_calli (va_runV (As := [.int 1]) (rest := []) ⟨hx, hb, hml, hown, hg⟩ (k_refuse l D H_1.size xa x0 (nI x1) x2 (nI x3) x4 x5 x6 x7 x8 x9 x10 1) (cwV 1 hg (gV wd_344 wd_345 wd_346 wd_3 wd_347) rfl rfl rfl (by decide +kernel) ⟨(Nat.le_trans (Nat.le_of_ble_eq_true rfl) hRf), (Nat.le_trans (Nat.le_of_ble_eq_true rfl) hRl)⟩) ⟨Pr.blind, va_recv hK hP (ci := 11) (q0 := 0) rfl rfl, fun U hU hW => ⟨rfl, Pr.at hPc hKc hDc hN hU hW⟩⟩ rfl rfl hl.1 rfl (lv_room (Nat.le_of_ble_eq_true rfl)) dX11_mend_14 ⟨(Nat.le_trans (Nat.le_of_ble_eq_true rfl) hRc), (Nat.le_trans (Nat.le_of_ble_eq_true rfl) hRs)⟩) hS (fun q _ h => hFc q h) hFc (fun r_7 M_8 t H_6 locs ht hvm hw hB hz1 hk1 hS => ?_)
    have hp_9 := hw
    obtain ⟨hP1, hK1, hD1⟩ := hB
    rw [ht] at hP1
    obtain ⟨hP, hD⟩ := va_joinQ (X := [(xa, (b11_1 x0 (nI x1) x2 (nI x3) x4 x5 x6 x7 x8 x9 x10))]) (cx := [(xa, (b11_1 x0 (nI x1) x2 (nI x3) x4 x5 x6 x7 x8 x9 x10))]) (wr := []) (w1 := [(xa, (b11_1 x0 (nI x1) x2 (nI x3) x4 x5 x6 x7 x8 1 (-1)))]) (pl := va_pl L M) hP hD [0] [] rfl rfl (by decide) (by decide) hk1 hFc hP1 hD1
    have hP : va_P D vwCl ([(xa, (b11_1 x0 (nI x1) x2 (nI x3) x4 x5 x6 x7 x8 1 (-1)))] ++ va_pl L M) H_6 := hP
    have hD : va_D A ([(xa, (b11_1 x0 (nI x1) x2 (nI x3) x4 x5 x6 x7 x8 1 (-1)))] ++ va_pl L M) := hD
    have hq := Eq.symm hp_9
    subst hq
    have hnh := hqx.2 rfl
    have hno : ¬ okMe x1 SX k1 k2 k3 := fun q9 => by unfold okMe okH at q9; first | omega | (obtain ⟨⟨_, _⟩, _, _, _, _, _, _⟩ := q9; first | omega | contradiction)
    rw [hQ]
    exact W.iret (v := (-1)) hx hb hr (fun t ht hW9 => ⟨⟨(-1), M, rfl, ⟨hW, hF, hT1, (by unfold sxMe syMe; rw [if_neg hno, if_neg hno]; exact hC.mono), (by unfold anMe; rw [if_neg hno])⟩, ⟨1, by rw [ht]; exact hP, hD⟩⟩, hS.F ht⟩) hS.2.2 dX11_mend_17
  · have hb_10 := hp_4 b_5 rfl
    refine lv_astore (lv' := [(4, .ref b_5), (0, .ref xa), (1, .int k1), (2, .int k2), (3, .int k3)]) hx hb dX11_mend_5 hl (by decide) rfl (fun ls hl => ?_)
    obtain ⟨hr9, hb9⟩ := hqx.1 b_5 rfl
    have hck : ((k1 : Int32).toNatClampNeg : Int) = (k1 : Int32).toInt := clT (by omega)
    have hkn : (k1 : Int32).toNatClampNeg < x1 := by omega
    have hSM := hC.at hkn hb9
    have hSVk := hSV (k1 : Int32).toNatClampNeg hkn
    have hHIk := hHI (k1 : Int32).toNatClampNeg hkn
    have hV : VC Bo K L M M b_5 (cfx M b_5) (cax M b_5) := VC.rf b_5 hC.oc
    obtain ⟨v11_0, v11_1, v11_2, v11_3, v11_4, v11_5, v11_6, v11_7, v11_8, v11_9, v11_10, v11_11, v11_12, v11_13, v11_14, v11_15, v11_16, v11_17, v11_18, v11_19, hM11, h11_3, h11_4, h11_5, h11_6, h11_7, h11_8, h11_9, h11_10, h11_11, h11_12, h11_13, h11_16, h11_17, h11_18, h11_19⟩ := hW.open_2 hb_10
    have hA_12 : (cV 2 M b_5 0).toInt = (v11_0 : Int32).toInt := by rw [cV_of hM11 rfl]
    have hA_13 : (cV 2 M b_5 1).toInt = (v11_1 : Int32).toInt := by rw [cV_of hM11 rfl]
    have hA_14 : (cV 2 M b_5 2).toInt = (v11_2 : Int32).toInt := by rw [cV_of hM11 rfl]
    have hA_15 : (cV 2 M b_5 4).toInt = ((v11_4 : Nat) : Int) := by rw [cV_of hM11 rfl]; exact nI_toInt (by omega)
    have hA_16 : (cV 2 M b_5 5).toInt = ((v11_5 : Nat) : Int) := by rw [cV_of hM11 rfl]; exact nI_toInt (by omega)
    have hA_17 : (cV 2 M b_5 9).toInt = ((v11_9 : Nat) : Int) := by rw [cV_of hM11 rfl]; exact nI_toInt (by omega)
    have hA_18 : (cV 2 M b_5 11).toInt = ((v11_11 : Nat) : Int) := by rw [cV_of hM11 rfl]; exact nI_toInt (by omega)
    have hA_19 : (cV 2 M b_5 15).toInt = (v11_15 : Int32).toInt := by rw [cV_of hM11 rfl]
    have hq0 : (cV 2 M b_5 1).toInt = SX (k1 : Int32).toNatClampNeg 0 := hSM.x0
    have hq1 : (cV 2 M b_5 2).toInt = SX (k1 : Int32).toNatClampNeg 1 := hSM.x1
    have hq10 : (cV 2 M b_5 9).toInt = SX (k1 : Int32).toNatClampNeg 10 := hSM.x10
    have hq11 : (cV 2 M b_5 11).toInt = SX (k1 : Int32).toNatClampNeg 11 := hSM.x11
    have hq12 : (cV 2 M b_5 4).toInt = SX (k1 : Int32).toNatClampNeg 12 := hSM.x12
    have hq13 : (cV 2 M b_5 5).toInt = SX (k1 : Int32).toNatClampNeg 13 := hSM.x13
    have hq14 : (cV 1 M v11_16 3).toInt = SX (k1 : Int32).toNatClampNeg 14 := by have h9 := hSM.x14; rw [← h9]; show _ = (cV 1 M (rA 2 M b_5 16) 3).toInt; rw [rA_of (j := 16) hM11 rfl]
    have hq15 : (cV 1 M v11_17 3).toInt = SX (k1 : Int32).toNatClampNeg 15 := by have h9 := hSM.x15; rw [← h9]; show _ = (cV 1 M (rA 2 M b_5 17) 3).toInt; rw [rA_of (j := 17) hM11 rfl]
    have hq16 : (cV 10 M v11_18 2).toInt = SX (k1 : Int32).toNatClampNeg 16 := by have h9 := hSM.x16; rw [← h9]; show _ = (cV 10 M (rA 2 M b_5 18) 2).toInt; rw [rA_of (j := 18) hM11 rfl]
    have hq19 : (cV 10 M v11_18 1).toInt = cfx M b_5 19 := by show _ = (cV 10 M (rA 2 M b_5 18) 1).toInt; rw [rA_of (j := 18) hM11 rfl]
    have hun := hSM.un
    have hl16 : (ALc (M (rA 1 M v11_16 1)) : Int) = 120 := by have h9 := hC.oc.l16 hW hb_10; rw [rA_of (j := 16) hM11 rfl] at h9; omega
    have hl17 : (ALc (M (rA 1 M v11_17 1)) : Int) = 20 := by have h9 := hC.oc.l17 hW hb_10; rw [rA_of (j := 17) hM11 rfl] at h9; omega
    have hbd0 := hSVk.b0
    have hbd1 := hSVk.b1
    have hbd10 := hSVk.b10
    have hbd11 := hSVk.b11
    have hbd12 := hSVk.b12
    have hbd13 := hSVk.b13
    have hbd14 := hSVk.b14
    have hbd15 := hSVk.b15
    have hbd16 := hSVk.b16
    have hqx14 : cfx M b_5 14 = SX (k1 : Int32).toNatClampNeg 14 := hSM.x14
    have hqx15 : cfx M b_5 15 = SX (k1 : Int32).toNatClampNeg 15 := hSM.x15
    have hqx16 : cfx M b_5 16 = SX (k1 : Int32).toNatClampNeg 16 := hSM.x16
    refine lv_aload hx hb dX11_mend_7 (lv_at hl 0 rfl) ?_
    refine lv_ifnonnull (tgt := 18) hx hb dX11_mend_9 (by decide) ?_
    refine lv_iload_n hx hb dX11_mend_18 rfl (lv_at hl 4 rfl) ?_
    refine lv_if_eq (tgt := 34) hx hb dX11_mend_19 (by decide) (fun c_20 => ?_) (fun c_20 => ?_)
    · have hz := rfl (a := 0)
      refine lv_aload_n hx hb dX11_mend_34 rfl (lv_at hl 1 rfl) ?_
      refine lv_iconst (v := 2) hx hb dX11_mend_35 (by decide) ?_
      have hPc := hP.sub (ws' := [(xa, (b11_1 x0 (nI x1) x2 (nI x3) x4 x5 x6 x7 x8 x9 x10))]) [0] rfl
      have hDc := hD.sub (ws' := [(xa, (b11_1 x0 (nI x1) x2 (nI x3) x4 x5 x6 x7 x8 x9 x10))]) [0] (by decide) rfl
      have hKc := hK.sub (tys' := []) [] rfl
      have hFc := va_free (wc := [(xa, (b11_1 x0 (nI x1) x2 (nI x3) x4 x5 x6 x7 x8 x9 x10))]) hD hS hA [0] rfl
      refine va_calli (va_runV (As := [.int 2]) (rest := []) ⟨hx, hb, hml, hown, hg⟩ (k_refuse l D H_1.size xa x0 (nI x1) x2 (nI x3) x4 x5 x6 x7 x8 x9 x10 2) (cwV 1 hg (gV wd_344 wd_345 wd_346 wd_3 wd_347) rfl rfl rfl (by decide +kernel) ⟨(Nat.le_trans (Nat.le_of_ble_eq_true rfl) hRf), (Nat.le_trans (Nat.le_of_ble_eq_true rfl) hRl)⟩) ⟨Pr.blind, va_recv hK hP (ci := 11) (q0 := 0) rfl rfl, fun U hU hW => ⟨rfl, Pr.at hPc hKc hDc hN hU hW⟩⟩ rfl rfl hl.1 rfl (lv_room (Nat.le_of_ble_eq_true rfl)) dX11_mend_36 ⟨(Nat.le_trans (Nat.le_of_ble_eq_true rfl) hRc), (Nat.le_trans (Nat.le_of_ble_eq_true rfl) hRs)⟩) hS (fun q _ h => hFc q h) hFc (fun r_22 M_23 t H_21 locs ht hvm hw hB hz1 hk1 hS => ?_)
      have hp_24 := hw
      obtain ⟨hP1, hK1, hD1⟩ := hB
      rw [ht] at hP1
      obtain ⟨hP, hD⟩ := va_joinQ (X := [(xa, (b11_1 x0 (nI x1) x2 (nI x3) x4 x5 x6 x7 x8 x9 x10))]) (cx := [(xa, (b11_1 x0 (nI x1) x2 (nI x3) x4 x5 x6 x7 x8 x9 x10))]) (wr := []) (w1 := [(xa, (b11_1 x0 (nI x1) x2 (nI x3) x4 x5 x6 x7 x8 2 (-1)))]) (pl := va_pl L M) hP hD [0] [] rfl rfl (by decide) (by decide) hk1 hFc hP1 hD1
      have hP : va_P D vwCl ([(xa, (b11_1 x0 (nI x1) x2 (nI x3) x4 x5 x6 x7 x8 2 (-1)))] ++ va_pl L M) H_21 := hP
      have hD : va_D A ([(xa, (b11_1 x0 (nI x1) x2 (nI x3) x4 x5 x6 x7 x8 2 (-1)))] ++ va_pl L M) := hD
      have hq := Eq.symm hp_24
      subst hq
      have hI_25 : (k3 : Int32).toInt = (0 : Int) := ieqI rfl rfl c_20
      have hno : ¬ okMe x1 SX k1 k2 k3 := fun q9 => by unfold okMe okH at q9; first | omega | (obtain ⟨⟨_, _⟩, _, _, _, _, _, _⟩ := q9; first | omega | contradiction)
      rw [hQ]
      exact W.iret (v := (-1)) hx hb hr (fun t ht hW9 => ⟨⟨(-1), M, rfl, ⟨hW, hF, hT1, (by unfold sxMe syMe; rw [if_neg hno, if_neg hno]; exact hC.mono), (by unfold anMe; rw [if_neg hno])⟩, ⟨2, by rw [ht]; exact hP, hD⟩⟩, hS.F ht⟩) hS.2.2 dX11_mend_39
    · have hz := rfl (a := 0)
      refine lv_iload_n hx hb dX11_mend_22 rfl (lv_at hl 4 rfl) ?_
      refine lv_ldc (v := (-1000000000)) hx hb hown (hg _ wd_401) dX11_mend_23 ?_
      refine lv_icmp_lt (tgt := 34) hx hb dX11_mend_25 (by decide) (fun c_26 => ?_) (fun c_26 => ?_)
      · have hz := rfl (a := 0)
        refine lv_aload_n hx hb dX11_mend_34 rfl (lv_at hl 1 rfl) ?_
        refine lv_iconst (v := 2) hx hb dX11_mend_35 (by decide) ?_
        have hPc := hP.sub (ws' := [(xa, (b11_1 x0 (nI x1) x2 (nI x3) x4 x5 x6 x7 x8 x9 x10))]) [0] rfl
        have hDc := hD.sub (ws' := [(xa, (b11_1 x0 (nI x1) x2 (nI x3) x4 x5 x6 x7 x8 x9 x10))]) [0] (by decide) rfl
        have hKc := hK.sub (tys' := []) [] rfl
        have hFc := va_free (wc := [(xa, (b11_1 x0 (nI x1) x2 (nI x3) x4 x5 x6 x7 x8 x9 x10))]) hD hS hA [0] rfl
        refine va_calli (va_runV (As := [.int 2]) (rest := []) ⟨hx, hb, hml, hown, hg⟩ (k_refuse l D H_1.size xa x0 (nI x1) x2 (nI x3) x4 x5 x6 x7 x8 x9 x10 2) (cwV 1 hg (gV wd_344 wd_345 wd_346 wd_3 wd_347) rfl rfl rfl (by decide +kernel) ⟨(Nat.le_trans (Nat.le_of_ble_eq_true rfl) hRf), (Nat.le_trans (Nat.le_of_ble_eq_true rfl) hRl)⟩) ⟨Pr.blind, va_recv hK hP (ci := 11) (q0 := 0) rfl rfl, fun U hU hW => ⟨rfl, Pr.at hPc hKc hDc hN hU hW⟩⟩ rfl rfl hl.1 rfl (lv_room (Nat.le_of_ble_eq_true rfl)) dX11_mend_36 ⟨(Nat.le_trans (Nat.le_of_ble_eq_true rfl) hRc), (Nat.le_trans (Nat.le_of_ble_eq_true rfl) hRs)⟩) hS (fun q _ h => hFc q h) hFc (fun r_28 M_29 t H_27 locs ht hvm hw hB hz1 hk1 hS => ?_)
        have hp_30 := hw
        obtain ⟨hP1, hK1, hD1⟩ := hB
        rw [ht] at hP1
        obtain ⟨hP, hD⟩ := va_joinQ (X := [(xa, (b11_1 x0 (nI x1) x2 (nI x3) x4 x5 x6 x7 x8 x9 x10))]) (cx := [(xa, (b11_1 x0 (nI x1) x2 (nI x3) x4 x5 x6 x7 x8 x9 x10))]) (wr := []) (w1 := [(xa, (b11_1 x0 (nI x1) x2 (nI x3) x4 x5 x6 x7 x8 2 (-1)))]) (pl := va_pl L M) hP hD [0] [] rfl rfl (by decide) (by decide) hk1 hFc hP1 hD1
        have hP : va_P D vwCl ([(xa, (b11_1 x0 (nI x1) x2 (nI x3) x4 x5 x6 x7 x8 2 (-1)))] ++ va_pl L M) H_27 := hP
        have hD : va_D A ([(xa, (b11_1 x0 (nI x1) x2 (nI x3) x4 x5 x6 x7 x8 2 (-1)))] ++ va_pl L M) := hD
        have hq := Eq.symm hp_30
        subst hq
        have hI_31 : (k3 : Int32).toInt ≠ (0 : Int) := ineI rfl rfl c_20
        have hI_32 : (k3 : Int32).toInt < (-1000000000) := iltI rfl rfl c_26
        have hno : ¬ okMe x1 SX k1 k2 k3 := fun q9 => by unfold okMe okH at q9; first | omega | (obtain ⟨⟨_, _⟩, _, _, _, _, _, _⟩ := q9; first | omega | contradiction)
        rw [hQ]
        exact W.iret (v := (-1)) hx hb hr (fun t ht hW9 => ⟨⟨(-1), M, rfl, ⟨hW, hF, hT1, (by unfold sxMe syMe; rw [if_neg hno, if_neg hno]; exact hC.mono), (by unfold anMe; rw [if_neg hno])⟩, ⟨2, by rw [ht]; exact hP, hD⟩⟩, hS.F ht⟩) hS.2.2 dX11_mend_39
      · have hz := rfl (a := 0)
        refine lv_iload_n hx hb dX11_mend_28 rfl (lv_at hl 4 rfl) ?_
        refine lv_ldc (v := 1000000000) hx hb hown (hg _ wd_0) dX11_mend_29 ?_
        refine lv_icmp_le (tgt := 40) hx hb dX11_mend_31 (by decide) (fun c_33 => ?_) (fun c_33 => ?_)
        · have hz := rfl (a := 0)
          refine lv_iload_n hx hb dX11_mend_40 rfl (lv_at hl 3 rfl) ?_
          refine lv_aload hx hb dX11_mend_41 (lv_at hl 0 rfl) ?_
          refine pg_get (D := D) (ci := 2) (v := .int v11_1) (C := RX2) (T := TX2) (N := 20) hx hb hg inG2 hown hK hP hb_10.1 hM11 rfl 1 (by decide) (hg _ wd_439) (fun _ h9 => h9) rfl dX11_mend_43 ?_
          refine lv_icmp_lt (tgt := 58) hx hb dX11_mend_46 (by decide) (fun c_34 => ?_) (fun c_34 => ?_)
          · have hz := rfl (a := 0)
            refine lv_aload_n hx hb dX11_mend_58 rfl (lv_at hl 1 rfl) ?_
            refine lv_iconst (v := 3) hx hb dX11_mend_59 (by decide) ?_
            have hPc := hP.sub (ws' := [(xa, (b11_1 x0 (nI x1) x2 (nI x3) x4 x5 x6 x7 x8 x9 x10))]) [0] rfl
            have hDc := hD.sub (ws' := [(xa, (b11_1 x0 (nI x1) x2 (nI x3) x4 x5 x6 x7 x8 x9 x10))]) [0] (by decide) rfl
            have hKc := hK.sub (tys' := []) [] rfl
            have hFc := va_free (wc := [(xa, (b11_1 x0 (nI x1) x2 (nI x3) x4 x5 x6 x7 x8 x9 x10))]) hD hS hA [0] rfl
            refine va_calli (va_runV (As := [.int 3]) (rest := []) ⟨hx, hb, hml, hown, hg⟩ (k_refuse l D H_1.size xa x0 (nI x1) x2 (nI x3) x4 x5 x6 x7 x8 x9 x10 3) (cwV 1 hg (gV wd_344 wd_345 wd_346 wd_3 wd_347) rfl rfl rfl (by decide +kernel) ⟨(Nat.le_trans (Nat.le_of_ble_eq_true rfl) hRf), (Nat.le_trans (Nat.le_of_ble_eq_true rfl) hRl)⟩) ⟨Pr.blind, va_recv hK hP (ci := 11) (q0 := 0) rfl rfl, fun U hU hW => ⟨rfl, Pr.at hPc hKc hDc hN hU hW⟩⟩ rfl rfl hl.1 rfl (lv_room (Nat.le_of_ble_eq_true rfl)) dX11_mend_60 ⟨(Nat.le_trans (Nat.le_of_ble_eq_true rfl) hRc), (Nat.le_trans (Nat.le_of_ble_eq_true rfl) hRs)⟩) hS (fun q _ h => hFc q h) hFc (fun r_36 M_37 t H_35 locs ht hvm hw hB hz1 hk1 hS => ?_)
            have hp_38 := hw
            obtain ⟨hP1, hK1, hD1⟩ := hB
            rw [ht] at hP1
            obtain ⟨hP, hD⟩ := va_joinQ (X := [(xa, (b11_1 x0 (nI x1) x2 (nI x3) x4 x5 x6 x7 x8 x9 x10))]) (cx := [(xa, (b11_1 x0 (nI x1) x2 (nI x3) x4 x5 x6 x7 x8 x9 x10))]) (wr := []) (w1 := [(xa, (b11_1 x0 (nI x1) x2 (nI x3) x4 x5 x6 x7 x8 3 (-1)))]) (pl := va_pl L M) hP hD [0] [] rfl rfl (by decide) (by decide) hk1 hFc hP1 hD1
            have hP : va_P D vwCl ([(xa, (b11_1 x0 (nI x1) x2 (nI x3) x4 x5 x6 x7 x8 3 (-1)))] ++ va_pl L M) H_35 := hP
            have hD : va_D A ([(xa, (b11_1 x0 (nI x1) x2 (nI x3) x4 x5 x6 x7 x8 3 (-1)))] ++ va_pl L M) := hD
            have hq := Eq.symm hp_38
            subst hq
            have hI_39 : (k3 : Int32).toInt ≠ (0 : Int) := ineI rfl rfl c_20
            have hI_40 : (-1000000000) ≤ (k3 : Int32).toInt := inltI rfl rfl c_26
            have hI_41 : (k3 : Int32).toInt ≤ (1000000000 : Int) := ileI rfl rfl c_33
            have hI_42 : (k2 : Int32).toInt < (v11_1 : Int32).toInt := iltI rfl rfl c_34
            have hno : ¬ okMe x1 SX k1 k2 k3 := fun q9 => by unfold okMe okH at q9; first | omega | (obtain ⟨⟨_, _⟩, _, _, _, _, _, _⟩ := q9; first | omega | contradiction)
            rw [hQ]
            exact W.iret (v := (-1)) hx hb hr (fun t ht hW9 => ⟨⟨(-1), M, rfl, ⟨hW, hF, hT1, (by unfold sxMe syMe; rw [if_neg hno, if_neg hno]; exact hC.mono), (by unfold anMe; rw [if_neg hno])⟩, ⟨3, by rw [ht]; exact hP, hD⟩⟩, hS.F ht⟩) hS.2.2 dX11_mend_63
          · have hz := rfl (a := 0)
            refine lv_iload_n hx hb dX11_mend_49 rfl (lv_at hl 3 rfl) ?_
            refine lv_aload hx hb dX11_mend_50 (lv_at hl 0 rfl) ?_
            refine pg_get (D := D) (ci := 2) (v := .int v11_2) (C := RX2) (T := TX2) (N := 20) hx hb hg inG2 hown hK hP hb_10.1 hM11 rfl 2 (by decide) (hg _ wd_440) (fun _ h9 => h9) rfl dX11_mend_52 ?_
            refine lv_icmp_le (tgt := 64) hx hb dX11_mend_55 (by decide) (fun c_43 => ?_) (fun c_43 => ?_)
            · have hz := rfl (a := 0)
              refine lv_aload hx hb dX11_mend_64 (lv_at hl 0 rfl) ?_
              refine pg_get (D := D) (ci := 2) (v := .ref v11_17) (C := RX2) (T := TX2) (N := 20) hx hb hg inG2 hown hK hP hb_10.1 hM11 rfl 17 (by decide) (hg _ wd_441) (fun _ h9 => h9) rfl dX11_mend_66 ?_
              obtain ⟨n44, v44_0, v44_1, v44_2, v44_3, hM44, h44_0, h44_1, h44_2, h44_3, y44_0⟩ := hW.open_1 h11_17
              have hPc : va_P D vwCl ([] ++ va_pl L M) H_1 := hP.part (cx := []) [] rfl
              have hDc : va_D A ([] ++ va_pl L M) := hD.part (cx := []) [] (by decide) rfl
              have hFc : ∀ q, va_A ([] ++ va_pl L M) H_1.size q → A q := pg_free hDc hS hA
              refine va_calli (va_runV (As := []) (rest := []) ⟨hx, hb, hml, hown, hg⟩ (e_X1_isFull l D cy K L M H_1.size v11_17 n44 v44_0 v44_1 v44_2 v44_3 hW h11_17 hM44 h44_0 h44_1 h44_2 h44_3 y44_0) (cwV 0 hg (gV wd_408 wd_121 wd_122 wd_123 wd_124) rfl rfl rfl (by decide +kernel) ⟨(Nat.le_trans (Nat.le_of_ble_eq_true rfl) hRf), (Nat.le_trans (Nat.le_of_ble_eq_true rfl) hRl)⟩) ⟨PG.blind, pg_recv hK hP h11_17.1 hM44 rfl, fun U hU hW => ⟨rfl, PG.at hPc hK hDc hN hU hW⟩⟩ rfl rfl hl.1 rfl (lv_room (Nat.le_of_ble_eq_true rfl)) dX11_mend_69 ⟨(Nat.le_trans (Nat.le_of_ble_eq_true rfl) hRc), (Nat.le_trans (Nat.le_of_ble_eq_true rfl) hRs)⟩) hS (fun q _ h => hFc q h) hFc (fun r_46 M_47 t H_45 locs ht hvm hw hB hz1 hk1 hS => ?_)
              have hp_48 := hw
              obtain ⟨hP1, hD1⟩ := hB
              rw [ht] at hP1
              obtain ⟨hP, hD⟩ := va_joinP (X := [(xa, (b11_1 x0 (nI x1) x2 (nI x3) x4 x5 x6 x7 x8 x9 x10))]) (cx := []) (wr := [(xa, (b11_1 x0 (nI x1) x2 (nI x3) x4 x5 x6 x7 x8 x9 x10))]) (rx := []) (pl := va_pl L M) (pl1 := va_pl L M) hP hD [] [0] rfl rfl (by decide) (by decide) hk1 hFc hP1 hD1
              have hP : va_P D vwCl ([(xa, (b11_1 x0 (nI x1) x2 (nI x3) x4 x5 x6 x7 x8 x9 x10))] ++ va_pl L M) H_45 := hP
              have hD : va_D A ([(xa, (b11_1 x0 (nI x1) x2 (nI x3) x4 x5 x6 x7 x8 x9 x10))] ++ va_pl L M) := hD
              rcases hp_48 with ⟨rfl, c_49⟩ | ⟨rfl, c_50, c_51⟩
              · have hz := rfl (a := 0)
                refine lv_if_eq (tgt := 82) hx hb dX11_mend_72 (by decide) (fun c_52 => absurd c_52 (by decide)) (fun _ => ?_)
                refine lv_aload_n hx hb dX11_mend_75 rfl (lv_at hl 1 rfl) ?_
                refine lv_bipush (v := 9) hx hb dX11_mend_76 (by decide) ?_
                have hPc := hP.sub (ws' := [(xa, (b11_1 x0 (nI x1) x2 (nI x3) x4 x5 x6 x7 x8 x9 x10))]) [0] rfl
                have hDc := hD.sub (ws' := [(xa, (b11_1 x0 (nI x1) x2 (nI x3) x4 x5 x6 x7 x8 x9 x10))]) [0] (by decide) rfl
                have hKc := hK.sub (tys' := []) [] rfl
                have hFc := va_free (wc := [(xa, (b11_1 x0 (nI x1) x2 (nI x3) x4 x5 x6 x7 x8 x9 x10))]) hD hS hA [0] rfl
                refine va_calli (va_runV (As := [.int 9]) (rest := []) ⟨hx, hb, hml, hown, hg⟩ (k_refuse l D H_45.size xa x0 (nI x1) x2 (nI x3) x4 x5 x6 x7 x8 x9 x10 9) (cwV 1 hg (gV wd_344 wd_345 wd_346 wd_3 wd_347) rfl rfl rfl (by decide +kernel) ⟨(Nat.le_trans (Nat.le_of_ble_eq_true rfl) hRf), (Nat.le_trans (Nat.le_of_ble_eq_true rfl) hRl)⟩) ⟨Pr.blind, va_recv hK hP (ci := 11) (q0 := 0) rfl rfl, fun U hU hW => ⟨rfl, Pr.at hPc hKc hDc hN hU hW⟩⟩ rfl rfl hl.1 rfl (lv_room (Nat.le_of_ble_eq_true rfl)) dX11_mend_78 ⟨(Nat.le_trans (Nat.le_of_ble_eq_true rfl) hRc), (Nat.le_trans (Nat.le_of_ble_eq_true rfl) hRs)⟩) hS (fun q _ h => hFc q h) hFc (fun r_54 M_55 t H_53 locs ht hvm hw hB hz1 hk1 hS => ?_)
                have hp_56 := hw
                obtain ⟨hP1, hK1, hD1⟩ := hB
                rw [ht] at hP1
                obtain ⟨hP, hD⟩ := va_joinQ (X := [(xa, (b11_1 x0 (nI x1) x2 (nI x3) x4 x5 x6 x7 x8 x9 x10))]) (cx := [(xa, (b11_1 x0 (nI x1) x2 (nI x3) x4 x5 x6 x7 x8 x9 x10))]) (wr := []) (w1 := [(xa, (b11_1 x0 (nI x1) x2 (nI x3) x4 x5 x6 x7 x8 9 (-1)))]) (pl := va_pl L M) hP hD [0] [] rfl rfl (by decide) (by decide) hk1 hFc hP1 hD1
                have hP : va_P D vwCl ([(xa, (b11_1 x0 (nI x1) x2 (nI x3) x4 x5 x6 x7 x8 9 (-1)))] ++ va_pl L M) H_53 := hP
                have hD : va_D A ([(xa, (b11_1 x0 (nI x1) x2 (nI x3) x4 x5 x6 x7 x8 9 (-1)))] ++ va_pl L M) := hD
                have hq := Eq.symm hp_56
                subst hq
                have hI_57 : (k3 : Int32).toInt ≠ (0 : Int) := ineI rfl rfl c_20
                have hI_58 : (-1000000000) ≤ (k3 : Int32).toInt := inltI rfl rfl c_26
                have hI_59 : (k3 : Int32).toInt ≤ (1000000000 : Int) := ileI rfl rfl c_33
                have hI_60 : (v11_1 : Int32).toInt ≤ (k2 : Int32).toInt := inltI rfl rfl c_34
                have hI_61 : (k2 : Int32).toInt ≤ (v11_2 : Int32).toInt := ileI rfl rfl c_43
                have hA_62 : (cV 1 M v11_17 3).toInt = ((v44_3 : Nat) : Int) := by rw [cV_of hM44 rfl]; exact nI_toInt (by omega)
                have hno : ¬ okMe x1 SX k1 k2 k3 := fun q9 => by unfold okMe okH at q9; first | omega | (obtain ⟨⟨_, _⟩, _, _, _, _, _, _⟩ := q9; first | omega | contradiction)
                rw [hQ]
                exact W.iret (v := (-1)) hx hb hr (fun t ht hW9 => ⟨⟨(-1), M, rfl, ⟨hW, hF, hT1, (by unfold sxMe syMe; rw [if_neg hno, if_neg hno]; exact hC.mono), (by unfold anMe; rw [if_neg hno])⟩, ⟨9, by rw [ht]; exact hP, hD⟩⟩, hS.F ht⟩) hS.2.2 dX11_mend_81
              · have hz := rfl (a := 0)
                refine lv_if_eq (tgt := 82) hx hb dX11_mend_72 (by decide) (fun _ => ?_) (fun c_63 => absurd c_63 (by decide))
                refine lv_aload hx hb dX11_mend_82 (lv_at hl 0 rfl) ?_
                refine pg_get (D := D) (ci := 2) (v := .ref v11_17) (C := RX2) (T := TX2) (N := 20) hx hb hg inG2 hown hK hP hb_10.1 hM11 rfl 17 (by decide) (hg _ wd_441) (fun _ h9 => h9) rfl dX11_mend_84 ?_
                refine lv_null hx hb dX11_mend_87 ?_
                refine lv_iload_n hx hb dX11_mend_88 rfl (lv_at hl 3 rfl) ?_
                refine lv_iload_n hx hb dX11_mend_89 rfl (lv_at hl 4 rfl) ?_
                have hPc : va_P D vwCl ([] ++ va_pl L M) H_45 := hP.part (cx := []) [] rfl
                have hDc : va_D A ([] ++ va_pl L M) := hD.part (cx := []) [] (by decide) rfl
                have hFc : ∀ q, va_A ([] ++ va_pl L M) H_45.size q → A q := pg_free hDc hS hA
                have hI_64 : (k3 : Int32).toInt ≠ (0 : Int) := ineI rfl rfl c_20
                have hI_65 : (-1000000000) ≤ (k3 : Int32).toInt := inltI rfl rfl c_26
                have hI_66 : (k3 : Int32).toInt ≤ (1000000000 : Int) := ileI rfl rfl c_33
                have hI_67 : (v11_1 : Int32).toInt ≤ (k2 : Int32).toInt := inltI rfl rfl c_34
                have hI_68 : (k2 : Int32).toInt ≤ (v11_2 : Int32).toInt := ileI rfl rfl c_43
                have hA_69 : (cV 1 M v11_17 3).toInt = ((v44_3 : Nat) : Int) := by rw [cV_of hM44 rfl]; exact nI_toInt (by omega)
                have hI_70 : (cfx M b_5) 15 = ((cfx M b_5) 15) := rfl
                refine va_callv (va_runV (As := [.null, .int k2, .int k3]) (rest := []) ⟨hx, hb, hml, hown, hg⟩ (e_app_me l D cy K L M H_45.size v11_17 k2 k3 Bo M b_5 (cfx M b_5) (cax M b_5) n44 v44_0 v44_1 v44_2 v44_3 hW h11_17 hb_10 hV (rA_of (j := 17) hM11 rfl) (by omega) hM44 h44_0 h44_1 h44_2 h44_3 y44_0) (cwV 3 hg (gV wd_409 wd_410 wd_411 wd_123 wd_412) rfl rfl rfl (by decide +kernel) ⟨(Nat.le_trans (Nat.le_of_ble_eq_true rfl) hRf), (Nat.le_trans (Nat.le_of_ble_eq_true rfl) hRl)⟩) ⟨PG.blind, pg_recv hK hP h11_17.1 hM44 rfl, fun U hU hW => ⟨rfl, PG.at hPc hK hDc hN hU hW⟩⟩ rfl rfl hl.1 rfl (lv_room (Nat.le_of_ble_eq_true rfl)) dX11_mend_90 ⟨(Nat.le_trans (Nat.le_of_ble_eq_true rfl) hRc), (Nat.le_trans (Nat.le_of_ble_eq_true rfl) hRs)⟩) hS (fun q _ h => hFc q h) hFc (fun M_73 t H_71 locs ht hvm hw hB hz1 hk1 hS => ?_)
                have hWb := hW
                obtain ⟨hW, hF2, gT1, hVP, hp_74⟩ := hw
                obtain ⟨hP1, hD1⟩ := hB
                rw [ht] at hP1
                obtain ⟨hP, hD⟩ := va_joinP (X := [(xa, (b11_1 x0 (nI x1) x2 (nI x3) x4 x5 x6 x7 x8 x9 x10))]) (cx := []) (wr := [(xa, (b11_1 x0 (nI x1) x2 (nI x3) x4 x5 x6 x7 x8 x9 x10))]) (rx := []) (pl := va_pl L M) (pl1 := va_pl L M_73) hP hD [] [0] rfl rfl (by decide) (by decide) hk1 hFc hP1 hD1
                have hP : va_P D vwCl ([(xa, (b11_1 x0 (nI x1) x2 (nI x3) x4 x5 x6 x7 x8 x9 x10))] ++ va_pl L M_73) H_71 := hP
                have hD : va_D A ([(xa, (b11_1 x0 (nI x1) x2 (nI x3) x4 x5 x6 x7 x8 x9 x10))] ++ va_pl L M_73) := hD
                have hM_75 : M_73 b_5 = (b2_2 v11_0 v11_1 v11_2 v11_3 (nI v11_4) (nI v11_5) v11_6 v11_7 v11_8 (nI v11_9) v11_10 (nI v11_11) v11_12 v11_13 v11_14 v11_15 v11_16 v11_17 v11_18 v11_19) := (hF2.at hb_10 (by decide)).trans hM11
                have hF : fr K L [1, 56, 57, 63] M M_73 := hF.tr hF2 (by decide)
                have hT1 : fT 1 K L [3] M M_73 := hT1.tr gT1 (by decide)
                have hV : VC Bo K L M M_73 b_5 (va_up (cfx M b_5) 15 ((cfx M b_5) 15 + 1)) (va_up (va_up (cax M b_5) 41 (upd ((cax M b_5) 41) ((cfx M b_5) 15).toNat k2)) 42 (upd ((cax M b_5) 42) ((cfx M b_5) 15).toNat k3)) := hVP
                refine lv_aload_n hx hb dX11_mend_93 rfl (lv_at hl 1 rfl) ?_
                refine lv_aload hx hb dX11_mend_94 (lv_at hl 0 rfl) ?_
                refine pg_get (D := D) (ci := 2) (v := .ref v11_17) (C := RX2) (T := TX2) (N := 20) hx hb hg inG2 hown hK hP hb_10.1 hM_75 rfl 17 (by decide) (hg _ wd_441) (fun _ h9 => h9) rfl dX11_mend_96 ?_
                obtain ⟨n76, v76_0, v76_1, v76_2, v76_3, hM76, h76_0, h76_1, h76_2, h76_3, y76_0⟩ := hW.open_1 h11_17
                refine pg_get (D := D) (ci := 1) (v := .int (nI v76_3)) (C := RX1) (T := TX1) (N := 4) hx hb hg inG1 hown hK hP h11_17.1 hM76 rfl 3 (by decide) (hg _ wd_417) (fun _ h9 => h9) rfl dX11_mend_99 ?_
                have hPc := hP.sub (ws' := [(xa, (b11_1 x0 (nI x1) x2 (nI x3) x4 x5 x6 x7 x8 x9 x10))]) [0] rfl
                have hDc := hD.sub (ws' := [(xa, (b11_1 x0 (nI x1) x2 (nI x3) x4 x5 x6 x7 x8 x9 x10))]) [0] (by decide) rfl
                have hKc := hK.sub (tys' := []) [] rfl
                have hFc := va_free (wc := [(xa, (b11_1 x0 (nI x1) x2 (nI x3) x4 x5 x6 x7 x8 x9 x10))]) hD hS hA [0] rfl
                refine va_calli (va_runV (As := [.int (nI v76_3)]) (rest := []) ⟨hx, hb, hml, hown, hg⟩ (k_accept l D H_71.size xa x0 (nI x1) x2 (nI x3) x4 x5 x6 x7 x8 x9 x10 (nI v76_3)) (cwV 1 hg (gV wd_356 wd_357 wd_358 wd_3 wd_359) rfl rfl rfl (by decide +kernel) ⟨(Nat.le_trans (Nat.le_of_ble_eq_true rfl) hRf), (Nat.le_trans (Nat.le_of_ble_eq_true rfl) hRl)⟩) ⟨Pr.blind, va_recv hK hP (ci := 11) (q0 := 0) rfl rfl, fun U hU hW => ⟨rfl, Pr.at hPc hKc hDc hN hU hW⟩⟩ rfl rfl hl.1 rfl (lv_room (Nat.le_of_ble_eq_true rfl)) dX11_mend_102 ⟨(Nat.le_trans (Nat.le_of_ble_eq_true rfl) hRc), (Nat.le_trans (Nat.le_of_ble_eq_true rfl) hRs)⟩) hS (fun q _ h => hFc q h) hFc (fun r_78 M_79 t H_77 locs ht hvm hw hB hz1 hk1 hS => ?_)
                have hp_80 := hw
                obtain ⟨hP1, hK1, hD1⟩ := hB
                rw [ht] at hP1
                obtain ⟨hP, hD⟩ := va_joinQ (X := [(xa, (b11_1 x0 (nI x1) x2 (nI x3) x4 x5 x6 x7 x8 x9 x10))]) (cx := [(xa, (b11_1 x0 (nI x1) x2 (nI x3) x4 x5 x6 x7 x8 x9 x10))]) (wr := []) (w1 := [(xa, (b11_1 x0 (nI x1) x2 (nI x3) x4 x5 x6 x7 x8 0 (-1)))]) (pl := va_pl L M_73) hP hD [0] [] rfl rfl (by decide) (by decide) hk1 hFc hP1 hD1
                have hP : va_P D vwCl ([(xa, (b11_1 x0 (nI x1) x2 (nI x3) x4 x5 x6 x7 x8 0 (-1)))] ++ va_pl L M_73) H_77 := hP
                have hD : va_D A ([(xa, (b11_1 x0 (nI x1) x2 (nI x3) x4 x5 x6 x7 x8 0 (-1)))] ++ va_pl L M_73) := hD
                have hq := Eq.symm hp_80
                subst hq
                have hyes : okMe x1 SX k1 k2 k3 := by unfold okMe okH; refine ⟨⟨?_, ?_⟩, ?_, ?_, ?_, ?_, ?_, ?_⟩ <;> first | omega | assumption
                rw [hQ]
                exact W.iret (v := (nI v76_3)) hx hb hr (fun t ht hW9 => ⟨⟨(nI v76_3), M_73, rfl, ⟨hW, hF, hT1, (by unfold sxMe syMe; rw [if_pos hyes, if_pos hyes]; have hZ := hC.fin hW0 i0 b1 hkn hb9 hV ext.rf (by rw [hF.at i0 (by decide)]) (fun q iq => ⟨iq, cR_c (fr.cv hF (by decide) q iq 3 rfl)⟩) (((hSM.mend (d := k2) (s := k3) hbd15.1).up1)); exact hZ), (by unfold anMe; rw [if_pos hyes]; have h9 := congrFun hV.2.1 15; have h8 : (cV 1 M_73 (rA 2 M_73 b_5 17) 3).toInt = _ := h9; rw [rA_of (j := 17) hM_75 rfl, cV_of (j := 3) hM76 rfl, nI_toInt (by omega)] at h8; have h7 : ((v76_3 : Nat) : Int) = cfx M b_5 15 + 1 := h8; exact congrArg nI (by omega))⟩, ⟨0, by rw [ht]; exact hP, hD⟩⟩, hS.F ht⟩) hS.2.2 dX11_mend_105
            · have hz := rfl (a := 0)
              refine lv_aload_n hx hb dX11_mend_58 rfl (lv_at hl 1 rfl) ?_
              refine lv_iconst (v := 3) hx hb dX11_mend_59 (by decide) ?_
              have hPc := hP.sub (ws' := [(xa, (b11_1 x0 (nI x1) x2 (nI x3) x4 x5 x6 x7 x8 x9 x10))]) [0] rfl
              have hDc := hD.sub (ws' := [(xa, (b11_1 x0 (nI x1) x2 (nI x3) x4 x5 x6 x7 x8 x9 x10))]) [0] (by decide) rfl
              have hKc := hK.sub (tys' := []) [] rfl
              have hFc := va_free (wc := [(xa, (b11_1 x0 (nI x1) x2 (nI x3) x4 x5 x6 x7 x8 x9 x10))]) hD hS hA [0] rfl
              refine va_calli (va_runV (As := [.int 3]) (rest := []) ⟨hx, hb, hml, hown, hg⟩ (k_refuse l D H_1.size xa x0 (nI x1) x2 (nI x3) x4 x5 x6 x7 x8 x9 x10 3) (cwV 1 hg (gV wd_344 wd_345 wd_346 wd_3 wd_347) rfl rfl rfl (by decide +kernel) ⟨(Nat.le_trans (Nat.le_of_ble_eq_true rfl) hRf), (Nat.le_trans (Nat.le_of_ble_eq_true rfl) hRl)⟩) ⟨Pr.blind, va_recv hK hP (ci := 11) (q0 := 0) rfl rfl, fun U hU hW => ⟨rfl, Pr.at hPc hKc hDc hN hU hW⟩⟩ rfl rfl hl.1 rfl (lv_room (Nat.le_of_ble_eq_true rfl)) dX11_mend_60 ⟨(Nat.le_trans (Nat.le_of_ble_eq_true rfl) hRc), (Nat.le_trans (Nat.le_of_ble_eq_true rfl) hRs)⟩) hS (fun q _ h => hFc q h) hFc (fun r_82 M_83 t H_81 locs ht hvm hw hB hz1 hk1 hS => ?_)
              have hp_84 := hw
              obtain ⟨hP1, hK1, hD1⟩ := hB
              rw [ht] at hP1
              obtain ⟨hP, hD⟩ := va_joinQ (X := [(xa, (b11_1 x0 (nI x1) x2 (nI x3) x4 x5 x6 x7 x8 x9 x10))]) (cx := [(xa, (b11_1 x0 (nI x1) x2 (nI x3) x4 x5 x6 x7 x8 x9 x10))]) (wr := []) (w1 := [(xa, (b11_1 x0 (nI x1) x2 (nI x3) x4 x5 x6 x7 x8 3 (-1)))]) (pl := va_pl L M) hP hD [0] [] rfl rfl (by decide) (by decide) hk1 hFc hP1 hD1
              have hP : va_P D vwCl ([(xa, (b11_1 x0 (nI x1) x2 (nI x3) x4 x5 x6 x7 x8 3 (-1)))] ++ va_pl L M) H_81 := hP
              have hD : va_D A ([(xa, (b11_1 x0 (nI x1) x2 (nI x3) x4 x5 x6 x7 x8 3 (-1)))] ++ va_pl L M) := hD
              have hq := Eq.symm hp_84
              subst hq
              have hI_85 : (k3 : Int32).toInt ≠ (0 : Int) := ineI rfl rfl c_20
              have hI_86 : (-1000000000) ≤ (k3 : Int32).toInt := inltI rfl rfl c_26
              have hI_87 : (k3 : Int32).toInt ≤ (1000000000 : Int) := ileI rfl rfl c_33
              have hI_88 : (v11_1 : Int32).toInt ≤ (k2 : Int32).toInt := inltI rfl rfl c_34
              have hI_89 : (v11_2 : Int32).toInt < (k2 : Int32).toInt := inleI rfl rfl c_43
              have hno : ¬ okMe x1 SX k1 k2 k3 := fun q9 => by unfold okMe okH at q9; first | omega | (obtain ⟨⟨_, _⟩, _, _, _, _, _, _⟩ := q9; first | omega | contradiction)
              rw [hQ]
              exact W.iret (v := (-1)) hx hb hr (fun t ht hW9 => ⟨⟨(-1), M, rfl, ⟨hW, hF, hT1, (by unfold sxMe syMe; rw [if_neg hno, if_neg hno]; exact hC.mono), (by unfold anMe; rw [if_neg hno])⟩, ⟨3, by rw [ht]; exact hP, hD⟩⟩, hS.F ht⟩) hS.2.2 dX11_mend_63
        · have hz := rfl (a := 0)
          refine lv_aload_n hx hb dX11_mend_34 rfl (lv_at hl 1 rfl) ?_
          refine lv_iconst (v := 2) hx hb dX11_mend_35 (by decide) ?_
          have hPc := hP.sub (ws' := [(xa, (b11_1 x0 (nI x1) x2 (nI x3) x4 x5 x6 x7 x8 x9 x10))]) [0] rfl
          have hDc := hD.sub (ws' := [(xa, (b11_1 x0 (nI x1) x2 (nI x3) x4 x5 x6 x7 x8 x9 x10))]) [0] (by decide) rfl
          have hKc := hK.sub (tys' := []) [] rfl
          have hFc := va_free (wc := [(xa, (b11_1 x0 (nI x1) x2 (nI x3) x4 x5 x6 x7 x8 x9 x10))]) hD hS hA [0] rfl
          refine va_calli (va_runV (As := [.int 2]) (rest := []) ⟨hx, hb, hml, hown, hg⟩ (k_refuse l D H_1.size xa x0 (nI x1) x2 (nI x3) x4 x5 x6 x7 x8 x9 x10 2) (cwV 1 hg (gV wd_344 wd_345 wd_346 wd_3 wd_347) rfl rfl rfl (by decide +kernel) ⟨(Nat.le_trans (Nat.le_of_ble_eq_true rfl) hRf), (Nat.le_trans (Nat.le_of_ble_eq_true rfl) hRl)⟩) ⟨Pr.blind, va_recv hK hP (ci := 11) (q0 := 0) rfl rfl, fun U hU hW => ⟨rfl, Pr.at hPc hKc hDc hN hU hW⟩⟩ rfl rfl hl.1 rfl (lv_room (Nat.le_of_ble_eq_true rfl)) dX11_mend_36 ⟨(Nat.le_trans (Nat.le_of_ble_eq_true rfl) hRc), (Nat.le_trans (Nat.le_of_ble_eq_true rfl) hRs)⟩) hS (fun q _ h => hFc q h) hFc (fun r_91 M_92 t H_90 locs ht hvm hw hB hz1 hk1 hS => ?_)
          have hp_93 := hw
          obtain ⟨hP1, hK1, hD1⟩ := hB
          rw [ht] at hP1
          obtain ⟨hP, hD⟩ := va_joinQ (X := [(xa, (b11_1 x0 (nI x1) x2 (nI x3) x4 x5 x6 x7 x8 x9 x10))]) (cx := [(xa, (b11_1 x0 (nI x1) x2 (nI x3) x4 x5 x6 x7 x8 x9 x10))]) (wr := []) (w1 := [(xa, (b11_1 x0 (nI x1) x2 (nI x3) x4 x5 x6 x7 x8 2 (-1)))]) (pl := va_pl L M) hP hD [0] [] rfl rfl (by decide) (by decide) hk1 hFc hP1 hD1
          have hP : va_P D vwCl ([(xa, (b11_1 x0 (nI x1) x2 (nI x3) x4 x5 x6 x7 x8 2 (-1)))] ++ va_pl L M) H_90 := hP
          have hD : va_D A ([(xa, (b11_1 x0 (nI x1) x2 (nI x3) x4 x5 x6 x7 x8 2 (-1)))] ++ va_pl L M) := hD
          have hq := Eq.symm hp_93
          subst hq
          have hI_94 : (k3 : Int32).toInt ≠ (0 : Int) := ineI rfl rfl c_20
          have hI_95 : (-1000000000) ≤ (k3 : Int32).toInt := inltI rfl rfl c_26
          have hI_96 : (1000000000 : Int) < (k3 : Int32).toInt := inleI rfl rfl c_33
          have hno : ¬ okMe x1 SX k1 k2 k3 := fun q9 => by unfold okMe okH at q9; first | omega | (obtain ⟨⟨_, _⟩, _, _, _, _, _, _⟩ := q9; first | omega | contradiction)
          rw [hQ]
          exact W.iret (v := (-1)) hx hb hr (fun t ht hW9 => ⟨⟨(-1), M, rfl, ⟨hW, hF, hT1, (by unfold sxMe syMe; rw [if_neg hno, if_neg hno]; exact hC.mono), (by unfold anMe; rw [if_neg hno])⟩, ⟨2, by rw [ht]; exact hP, hD⟩⟩, hS.F ht⟩) hS.2.2 dX11_mend_39
set_option maxHeartbeats 4000000 in
set_option maxRecDepth 100000 in
theorem x_move (l : Launch) (D : va_G) (cy : Nat → ClassId) (K : Kp) (L : List Nat) (M : Hp) (sz : Nat) (xa : Nat) (x0 : Nat) (x1 : Nat) (x2 : Nat) (x3 : Nat) (x4 : Nat) (x5 : Nat) (x6 : Nat) (x7 : Int32) (x8 : Nat) (x9 : Int32) (x10 : Int32) (k1 : Int32) (k2 : Int32) (k3 : Int32) (k4 : Int32) (k5 : Int32) (Bo : Nat → Nat × Nat) (T : Int) (PK : Nat → Int32) (PT : Nat → Int32) (SX : Nat → Nat → Int) (SY : Nat → Nat → Nat → Int32) (hW : WOK cy K L M) (i0 : isk K L x0 17 8) (b1 : x1 ≤ 8) (i2 : isk K L x2 19 40) (b3 : x3 ≤ 40) (i4 : isk K L x4 7 0) (i5 : isk K L x5 5 0) (i6 : isk K L x6 60 24) (i8 : isk K L x8 73 25) (zk5 : (k5 = 0 ∨ k5 = 1)) (hC : CX Bo K L x0 x1 T x3 PK PT SX SY M) (hSV : ∀ k, k < x1 → SV (SX k) (SY k)) (hHI : ∀ k, k < x1 → HI (SX k) (SY k)) (hT : (0 ≤ T ∧ T ≤ 900000)) : Met l yX11_move (wsM yX11_move cX11_move 8 (some .int)) ({ frames := 3, cells := 0, slots := 0, locals := 63 }) (va_Pc [.ref xa, .int k1, .int k2, .int k3, .int k4, .int k5] (PG D cy [(xa, (b11_1 x0 (nI x1) x2 (nI x3) x4 x5 x6 x7 x8 x9 x10))] L M sz)) (va_Qi (fun (r : Int32) (M9 : Hp) => WOK cy K L M9 ∧ fr K L [1, 10, 55, 56, 57, 63] M M9 ∧ fT 1 K L [3] M M9 ∧ fT 10 K L [1, 2] M M9 ∧ (∀ n9 l9, (okMv x1 SX SY k1 k2 k3 k4 → REMF (SX k1.toNatClampNeg 16) (SY k1.toNatClampNeg 43) (-1) n9 l9) → CX Bo K L x0 x1 (T + 1) x3 PK PT (sxMv x1 SX SY k1 k2 k3 k4 n9) (syMv x1 SX SY k1 k2 k3 k4 k5 l9) M9) ∧ ((r = anMv x1 SX SY k1 k2 k3 k4))) (fun M9 t => ∃ (w9 : Int32), PQ D [(xa, (b11_1 x0 (nI x1) x2 (nI x3) x4 x5 x6 x7 x8 w9 (-1)))] L M9 (va_A ([(xa, (b11_1 x0 (nI x1) x2 (nI x3) x4 x5 x6 x7 x8 x9 x10))] ++ va_pl L M) sz) t) (va_A ([(xa, (b11_1 x0 (nI x1) x2 (nI x3) x4 x5 x6 x7 x8 x9 x10))] ++ va_pl L M) sz)) 0 0 (va_A ([(xa, (b11_1 x0 (nI x1) x2 (nI x3) x4 x5 x6 x7 x8 x9 x10))] ++ va_pl L M) sz) := by
  refine Met.ofW (cc := cX11_move) (maxL := 8) (ret := (some .int)) (by decide) rfl ?_
  intro p e s m args below meth c s₁ B hml hv
  obtain ⟨rfl, hsz, hP, hK, hD0, hN⟩ := hv
  have hx := B.exec
  have hb := B.bytes
  have hr := B.returns
  have hts := atoms_spec (ws := (wsM yX11_move cX11_move 8 (some .int))) B.pre
  have hg : ∀ w ∈ lw_good, w.before _ s = true := fun w h => hts w (List.mem_cons_of_mem _ h)
  have hown : s.vm.findClass RX11 = some m.cls := findClass_of_methodNamed B.named
  have hlocks := B.notSynchronized
  subst hsz
  have hD := hD0.self (sz := s.heap.size)
  generalize hAe : va_A ([(xa, (b11_1 x0 (nI x1) x2 (nI x3) x4 x5 x6 x7 x8 x9 x10))] ++ va_pl L M) s.heap.size = A at hD ⊢
  have hA : ∀ q : Nat, s.heap.size ≤ q → A q := fun q h => by rw [← hAe]; exact Or.inr h
  have hS : va_S A s.heap s.heap [] := va_S.rf
  have hl := lv_entry ([.ref xa, .int k1, .int k2, .int k3, .int k4, .int k5]) (n := 8) (Nat.le_of_ble_eq_true rfl)
  rw [lg_entry_eq]
  generalize (lg_sl ([.ref xa, .int k1, .int k2, .int k3, .int k4, .int k5]) ++ List.replicate (8 - (lg_sl ([.ref xa, .int k1, .int k2, .int k3, .int k4, .int k5])).length) Slot.unset).toArray = ls at hl ⊢
  refine W.nameQ (fun Q hQ => ?_)
  refine W.nameR (fun R hR => ?_)
  have hRf : 3 ≤ R.frames := by rw [hR]; exact Nat.le_of_ble_eq_true rfl
  have hRl : 63 ≤ R.locals := by rw [hR]; exact Nat.le_of_ble_eq_true rfl
  have hRc : 0 ≤ R.cells := by rw [hR]; exact Nat.le_of_ble_eq_true rfl
  have hRs : 0 ≤ R.slots := by rw [hR]; exact Nat.le_of_ble_eq_true rfl
  have hF : fr K L [1, 10, 55, 56, 57, 63] M M := fr.rf
  have hT1 : fT 1 K L [3] M M := fT.rf
  have hT10 : fT 10 K L [1, 2] M M := fT.rf
  have hl : lv_has ls 8 [(0, .ref xa), (1, .int k1), (2, .int k2), (3, .int k3), (4, .int k4), (5, .int k5)] := hl
  have hW0 := hW
  refine lv_aload_n hx hb dX11_move_0 rfl (lv_at hl 0 rfl) ?_
  refine lv_iload_n hx hb dX11_move_1 rfl (lv_at hl 1 rfl) ?_
  have hPc : va_P D vwCl ([(xa, (b11_1 x0 (nI x1) x2 (nI x3) x4 x5 x6 x7 x8 x9 x10))] ++ va_pl L M) s.heap := hP
  have hDc : va_D A ([(xa, (b11_1 x0 (nI x1) x2 (nI x3) x4 x5 x6 x7 x8 x9 x10))] ++ va_pl L M) := hD
  have hFc : ∀ q, va_A ([(xa, (b11_1 x0 (nI x1) x2 (nI x3) x4 x5 x6 x7 x8 x9 x10))] ++ va_pl L M) s.heap.size q → A q := pg_free hDc hS hA
  refine va_callq (va_runV (As := [.int k1]) (rest := []) ⟨hx, hb, hml, hown, hg⟩ (e_houseAt l D cy K L M s.heap.size xa x0 x1 x2 x3 x4 x5 x6 x7 x8 x9 x10 k1 Bo T PK PT SX SY  hW i0 b1 i2 b3 i4 i5 i6 i8 hC) (cwV 1 hg (gV wd_340 wd_341 wd_342 wd_3 wd_343) rfl rfl rfl (by decide +kernel) ⟨(Nat.le_trans (Nat.le_of_ble_eq_true rfl) hRf), (Nat.le_trans (Nat.le_of_ble_eq_true rfl) hRl)⟩) ⟨PG.blind, va_recv hK hP (ci := 11) (q0 := 0) rfl rfl, fun U hU hW => ⟨rfl, PG.at hPc hK hDc hN hU hW⟩⟩ rfl rfl hl.1 rfl (lv_room (Nat.le_of_ble_eq_true rfl)) dX11_move_2 ⟨(Nat.le_trans (Nat.le_of_ble_eq_true rfl) hRc), (Nat.le_trans (Nat.le_of_ble_eq_true rfl) hRs)⟩) hS (fun q _ h => hFc q h) hFc (fun r_2 M_3 t H_1 locs ht hvm hw hB hz1 hk1 hS => ?_)
  have hp_4 := hw
  obtain ⟨hP1, hD1⟩ := hB
  rw [ht] at hP1
  have hP : va_P D vwCl ([(xa, (b11_1 x0 (nI x1) x2 (nI x3) x4 x5 x6 x7 x8 x9 x10))] ++ va_pl L M) H_1 := hP1
  have hD : va_D A ([(xa, (b11_1 x0 (nI x1) x2 (nI x3) x4 x5 x6 x7 x8 x9 x10))] ++ va_pl L M) := hD1.mono hFc
  obtain ⟨hp_4, hqx⟩ := hp_4
  rcases r_2 with _ | b_5
  · have hz := rfl (a := 0)
    refine lv_astoreN (lv' := [(6, .null), (0, .ref xa), (1, .int k1), (2, .int k2), (3, .int k3), (4, .int k4), (5, .int k5)]) hx hb dX11_move_5 hl (by decide) rfl (fun ls hl => ?_)
    refine lv_aloadN hx hb dX11_move_7 (lv_at hl 0 rfl) ?_
    refine lv_ifnonnullN hx hb dX11_move_9 ?_
    refine lv_null hx hb dX11_move_12 ?_
    refine lv_goto (tgt := 22) hx hb dX11_move_13 (by decide) ?_
    refine lv_astoreN (lv' := [(7, .null), (6, .null), (0, .ref xa), (1, .int k1), (2, .int k2), (3, .int k3), (4, .int k4), (5, .int k5)]) hx hb dX11_move_22 hl (by decide) rfl (fun ls hl => ?_)
    refine lv_aloadN hx hb dX11_move_24 (lv_at hl 1 rfl) ?_
    refine lv_ifnullN (tgt := 34) hx hb dX11_move_26 (by decide) ?_
    refine lv_aload_n hx hb dX11_move_34 rfl (lv_at hl 2 rfl) ?_
    refine lv_iconst (v := 1) hx hb dX11_move_35 (by decide) ?_
    have hPc := hP.sub (ws' := [(xa, (b11_1 x0 (nI x1) x2 (nI x3) x4 x5 x6 x7 x8 x9 x10))]) [0] rfl
    have hDc := hD.sub (ws' := [(xa, (b11_1 x0 (nI x1) x2 (nI x3) x4 x5 x6 x7 x8 x9 x10))]) [0] (by decide) rfl
    have hKc := hK.sub (tys' := []) [] rfl
    have hFc := va_free (wc := [(xa, (b11_1 x0 (nI x1) x2 (nI x3) x4 x5 x6 x7 x8 x9 x10))]) hD hS hA [0] rfl
    refine va_calli (va_runV (As := [.int 1]) (rest := []) ⟨hx, hb, hml, hown, hg⟩ (k_refuse l D H_1.size xa x0 (nI x1) x2 (nI x3) x4 x5 x6 x7 x8 x9 x10 1) (cwV 1 hg (gV wd_344 wd_345 wd_346 wd_3 wd_347) rfl rfl rfl (by decide +kernel) ⟨(Nat.le_trans (Nat.le_of_ble_eq_true rfl) hRf), (Nat.le_trans (Nat.le_of_ble_eq_true rfl) hRl)⟩) ⟨Pr.blind, va_recv hK hP (ci := 11) (q0 := 0) rfl rfl, fun U hU hW => ⟨rfl, Pr.at hPc hKc hDc hN hU hW⟩⟩ rfl rfl hl.1 rfl (lv_room (Nat.le_of_ble_eq_true rfl)) dX11_move_36 ⟨(Nat.le_trans (Nat.le_of_ble_eq_true rfl) hRc), (Nat.le_trans (Nat.le_of_ble_eq_true rfl) hRs)⟩) hS (fun q _ h => hFc q h) hFc (fun r_7 M_8 t H_6 locs ht hvm hw hB hz1 hk1 hS => ?_)
    have hp_9 := hw
    obtain ⟨hP1, hK1, hD1⟩ := hB
    rw [ht] at hP1
    obtain ⟨hP, hD⟩ := va_joinQ (X := [(xa, (b11_1 x0 (nI x1) x2 (nI x3) x4 x5 x6 x7 x8 x9 x10))]) (cx := [(xa, (b11_1 x0 (nI x1) x2 (nI x3) x4 x5 x6 x7 x8 x9 x10))]) (wr := []) (w1 := [(xa, (b11_1 x0 (nI x1) x2 (nI x3) x4 x5 x6 x7 x8 1 (-1)))]) (pl := va_pl L M) hP hD [0] [] rfl rfl (by decide) (by decide) hk1 hFc hP1 hD1
    have hP : va_P D vwCl ([(xa, (b11_1 x0 (nI x1) x2 (nI x3) x4 x5 x6 x7 x8 1 (-1)))] ++ va_pl L M) H_6 := hP
    have hD : va_D A ([(xa, (b11_1 x0 (nI x1) x2 (nI x3) x4 x5 x6 x7 x8 1 (-1)))] ++ va_pl L M) := hD
    have hq := Eq.symm hp_9
    subst hq
    have hnh := hqx.2 rfl
    have hno : ¬ okMv x1 SX SY k1 k2 k3 k4 := fun q9 => by unfold okMv okH at q9; first | omega | (obtain ⟨⟨_, _⟩, _, _, _, _, _, _, _, _, _⟩ := q9; first | omega | contradiction)
    rw [hQ]
    exact W.iret (v := (-1)) hx hb hr (fun t ht hW9 => ⟨⟨(-1), M, rfl, ⟨hW, hF, hT1, hT10, (by intro n9 l9 hR9; unfold sxMv syMv; rw [if_neg hno, if_neg hno]; exact hC.mono), (by unfold anMv; rw [if_neg hno])⟩, ⟨1, by rw [ht]; exact hP, hD⟩⟩, hS.F ht⟩) hS.2.2 dX11_move_39
  · have hb_10 := hp_4 b_5 rfl
    refine lv_astore (lv' := [(6, .ref b_5), (0, .ref xa), (1, .int k1), (2, .int k2), (3, .int k3), (4, .int k4), (5, .int k5)]) hx hb dX11_move_5 hl (by decide) rfl (fun ls hl => ?_)
    obtain ⟨hr9, hb9⟩ := hqx.1 b_5 rfl
    have hck : ((k1 : Int32).toNatClampNeg : Int) = (k1 : Int32).toInt := clT (by omega)
    have hkn : (k1 : Int32).toNatClampNeg < x1 := by omega
    have hSM := hC.at hkn hb9
    have hSVk := hSV (k1 : Int32).toNatClampNeg hkn
    have hHIk := hHI (k1 : Int32).toNatClampNeg hkn
    have hV : VC Bo K L M M b_5 (cfx M b_5) (cax M b_5) := VC.rf b_5 hC.oc
    obtain ⟨v11_0, v11_1, v11_2, v11_3, v11_4, v11_5, v11_6, v11_7, v11_8, v11_9, v11_10, v11_11, v11_12, v11_13, v11_14, v11_15, v11_16, v11_17, v11_18, v11_19, hM11, h11_3, h11_4, h11_5, h11_6, h11_7, h11_8, h11_9, h11_10, h11_11, h11_12, h11_13, h11_16, h11_17, h11_18, h11_19⟩ := hW.open_2 hb_10
    have hA_12 : (cV 2 M b_5 0).toInt = (v11_0 : Int32).toInt := by rw [cV_of hM11 rfl]
    have hA_13 : (cV 2 M b_5 1).toInt = (v11_1 : Int32).toInt := by rw [cV_of hM11 rfl]
    have hA_14 : (cV 2 M b_5 2).toInt = (v11_2 : Int32).toInt := by rw [cV_of hM11 rfl]
    have hA_15 : (cV 2 M b_5 4).toInt = ((v11_4 : Nat) : Int) := by rw [cV_of hM11 rfl]; exact nI_toInt (by omega)
    have hA_16 : (cV 2 M b_5 5).toInt = ((v11_5 : Nat) : Int) := by rw [cV_of hM11 rfl]; exact nI_toInt (by omega)
    have hA_17 : (cV 2 M b_5 9).toInt = ((v11_9 : Nat) : Int) := by rw [cV_of hM11 rfl]; exact nI_toInt (by omega)
    have hA_18 : (cV 2 M b_5 11).toInt = ((v11_11 : Nat) : Int) := by rw [cV_of hM11 rfl]; exact nI_toInt (by omega)
    have hA_19 : (cV 2 M b_5 15).toInt = (v11_15 : Int32).toInt := by rw [cV_of hM11 rfl]
    have hq0 : (cV 2 M b_5 1).toInt = SX (k1 : Int32).toNatClampNeg 0 := hSM.x0
    have hq1 : (cV 2 M b_5 2).toInt = SX (k1 : Int32).toNatClampNeg 1 := hSM.x1
    have hq10 : (cV 2 M b_5 9).toInt = SX (k1 : Int32).toNatClampNeg 10 := hSM.x10
    have hq11 : (cV 2 M b_5 11).toInt = SX (k1 : Int32).toNatClampNeg 11 := hSM.x11
    have hq12 : (cV 2 M b_5 4).toInt = SX (k1 : Int32).toNatClampNeg 12 := hSM.x12
    have hq13 : (cV 2 M b_5 5).toInt = SX (k1 : Int32).toNatClampNeg 13 := hSM.x13
    have hq14 : (cV 1 M v11_16 3).toInt = SX (k1 : Int32).toNatClampNeg 14 := by have h9 := hSM.x14; rw [← h9]; show _ = (cV 1 M (rA 2 M b_5 16) 3).toInt; rw [rA_of (j := 16) hM11 rfl]
    have hq15 : (cV 1 M v11_17 3).toInt = SX (k1 : Int32).toNatClampNeg 15 := by have h9 := hSM.x15; rw [← h9]; show _ = (cV 1 M (rA 2 M b_5 17) 3).toInt; rw [rA_of (j := 17) hM11 rfl]
    have hq16 : (cV 10 M v11_18 2).toInt = SX (k1 : Int32).toNatClampNeg 16 := by have h9 := hSM.x16; rw [← h9]; show _ = (cV 10 M (rA 2 M b_5 18) 2).toInt; rw [rA_of (j := 18) hM11 rfl]
    have hq19 : (cV 10 M v11_18 1).toInt = cfx M b_5 19 := by show _ = (cV 10 M (rA 2 M b_5 18) 1).toInt; rw [rA_of (j := 18) hM11 rfl]
    have hun := hSM.un
    have hl16 : (ALc (M (rA 1 M v11_16 1)) : Int) = 120 := by have h9 := hC.oc.l16 hW hb_10; rw [rA_of (j := 16) hM11 rfl] at h9; omega
    have hl17 : (ALc (M (rA 1 M v11_17 1)) : Int) = 20 := by have h9 := hC.oc.l17 hW hb_10; rw [rA_of (j := 17) hM11 rfl] at h9; omega
    have hbd0 := hSVk.b0
    have hbd1 := hSVk.b1
    have hbd10 := hSVk.b10
    have hbd11 := hSVk.b11
    have hbd12 := hSVk.b12
    have hbd13 := hSVk.b13
    have hbd14 := hSVk.b14
    have hbd15 := hSVk.b15
    have hbd16 := hSVk.b16
    have hqx14 : cfx M b_5 14 = SX (k1 : Int32).toNatClampNeg 14 := hSM.x14
    have hqx15 : cfx M b_5 15 = SX (k1 : Int32).toNatClampNeg 15 := hSM.x15
    have hqx16 : cfx M b_5 16 = SX (k1 : Int32).toNatClampNeg 16 := hSM.x16
    refine lv_aload hx hb dX11_move_7 (lv_at hl 0 rfl) ?_
    refine lv_ifnonnull (tgt := 16) hx hb dX11_move_9 (by decide) ?_
    refine lv_aload hx hb dX11_move_16 (lv_at hl 0 rfl) ?_
    refine lv_iload_n hx hb dX11_move_18 rfl (lv_at hl 3 rfl) ?_
    have hPc : va_P D vwCl ([] ++ va_pl L M) H_1 := hP.part (cx := []) [] rfl
    have hDc : va_D A ([] ++ va_pl L M) := hD.part (cx := []) [] (by decide) rfl
    have hFc : ∀ q, va_A ([] ++ va_pl L M) H_1.size q → A q := pg_free hDc hS hA
    refine va_callq (va_runV (As := [.int k2]) (rest := []) ⟨hx, hb, hml, hown, hg⟩ (e_X2_tenureAt l D cy K L M H_1.size b_5 k2  hW hb_10) (cwV 1 hg (gV wd_405 wd_55 wd_56 wd_57 wd_58) rfl rfl rfl (by decide +kernel) ⟨(Nat.le_trans (Nat.le_of_ble_eq_true rfl) hRf), (Nat.le_trans (Nat.le_of_ble_eq_true rfl) hRl)⟩) ⟨PG.blind, pg_recv hK hP hb_10.1 hM11 rfl, fun U hU hW => ⟨rfl, PG.at hPc hK hDc hN hU hW⟩⟩ rfl rfl hl.1 rfl (lv_room (Nat.le_of_ble_eq_true rfl)) dX11_move_19 ⟨(Nat.le_trans (Nat.le_of_ble_eq_true rfl) hRc), (Nat.le_trans (Nat.le_of_ble_eq_true rfl) hRs)⟩) hS (fun q _ h => hFc q h) hFc (fun r_21 M_22 t H_20 locs ht hvm hw hB hz1 hk1 hS => ?_)
    have hp_23 := hw
    obtain ⟨hP1, hD1⟩ := hB
    rw [ht] at hP1
    obtain ⟨hP, hD⟩ := va_joinP (X := [(xa, (b11_1 x0 (nI x1) x2 (nI x3) x4 x5 x6 x7 x8 x9 x10))]) (cx := []) (wr := [(xa, (b11_1 x0 (nI x1) x2 (nI x3) x4 x5 x6 x7 x8 x9 x10))]) (rx := []) (pl := va_pl L M) (pl1 := va_pl L M) hP hD [] [0] rfl rfl (by decide) (by decide) hk1 hFc hP1 hD1
    have hP : va_P D vwCl ([(xa, (b11_1 x0 (nI x1) x2 (nI x3) x4 x5 x6 x7 x8 x9 x10))] ++ va_pl L M) H_20 := hP
    have hD : va_D A ([(xa, (b11_1 x0 (nI x1) x2 (nI x3) x4 x5 x6 x7 x8 x9 x10))] ++ va_pl L M) := hD
    obtain ⟨hp_23, hqx⟩ := hp_23
    rcases r_21 with _ | b_24
    · have hz := rfl (a := 0)
      have hnt : ¬ (0 ≤ (k2 : Int32).toInt ∧ (k2 : Int32).toInt < SX (k1 : Int32).toNatClampNeg 10) := fun w9 => by
        have hct : ((k2 : Int32).toNatClampNeg : Int) = (k2 : Int32).toInt := clT w9.1
        rcases hqx.2 rfl with q9 | q9
        · exact q9 (by omega)
        · have h9 := (hSM.tn (k2 : Int32).toNatClampNeg (by omega)).mpr (by omega)
          rw [tn0 q9 (by omega)] at h9
          exact absurd h9 (by decide)
      refine lv_astoreN (lv' := [(7, .null), (6, .ref b_5), (0, .ref xa), (1, .int k1), (2, .int k2), (3, .int k3), (4, .int k4), (5, .int k5)]) hx hb dX11_move_22 hl (by decide) rfl (fun ls hl => ?_)
      refine lv_aload hx hb dX11_move_24 (lv_at hl 1 rfl) ?_
      refine lv_ifnull hx hb dX11_move_26 ?_
      refine lv_aloadN hx hb dX11_move_29 (lv_at hl 0 rfl) ?_
      refine lv_ifnonnullN hx hb dX11_move_31 ?_
      refine lv_aload_n hx hb dX11_move_34 rfl (lv_at hl 2 rfl) ?_
      refine lv_iconst (v := 1) hx hb dX11_move_35 (by decide) ?_
      have hPc := hP.sub (ws' := [(xa, (b11_1 x0 (nI x1) x2 (nI x3) x4 x5 x6 x7 x8 x9 x10))]) [0] rfl
      have hDc := hD.sub (ws' := [(xa, (b11_1 x0 (nI x1) x2 (nI x3) x4 x5 x6 x7 x8 x9 x10))]) [0] (by decide) rfl
      have hKc := hK.sub (tys' := []) [] rfl
      have hFc := va_free (wc := [(xa, (b11_1 x0 (nI x1) x2 (nI x3) x4 x5 x6 x7 x8 x9 x10))]) hD hS hA [0] rfl
      refine va_calli (va_runV (As := [.int 1]) (rest := []) ⟨hx, hb, hml, hown, hg⟩ (k_refuse l D H_20.size xa x0 (nI x1) x2 (nI x3) x4 x5 x6 x7 x8 x9 x10 1) (cwV 1 hg (gV wd_344 wd_345 wd_346 wd_3 wd_347) rfl rfl rfl (by decide +kernel) ⟨(Nat.le_trans (Nat.le_of_ble_eq_true rfl) hRf), (Nat.le_trans (Nat.le_of_ble_eq_true rfl) hRl)⟩) ⟨Pr.blind, va_recv hK hP (ci := 11) (q0 := 0) rfl rfl, fun U hU hW => ⟨rfl, Pr.at hPc hKc hDc hN hU hW⟩⟩ rfl rfl hl.1 rfl (lv_room (Nat.le_of_ble_eq_true rfl)) dX11_move_36 ⟨(Nat.le_trans (Nat.le_of_ble_eq_true rfl) hRc), (Nat.le_trans (Nat.le_of_ble_eq_true rfl) hRs)⟩) hS (fun q _ h => hFc q h) hFc (fun r_26 M_27 t H_25 locs ht hvm hw hB hz1 hk1 hS => ?_)
      have hp_28 := hw
      obtain ⟨hP1, hK1, hD1⟩ := hB
      rw [ht] at hP1
      obtain ⟨hP, hD⟩ := va_joinQ (X := [(xa, (b11_1 x0 (nI x1) x2 (nI x3) x4 x5 x6 x7 x8 x9 x10))]) (cx := [(xa, (b11_1 x0 (nI x1) x2 (nI x3) x4 x5 x6 x7 x8 x9 x10))]) (wr := []) (w1 := [(xa, (b11_1 x0 (nI x1) x2 (nI x3) x4 x5 x6 x7 x8 1 (-1)))]) (pl := va_pl L M) hP hD [0] [] rfl rfl (by decide) (by decide) hk1 hFc hP1 hD1
      have hP : va_P D vwCl ([(xa, (b11_1 x0 (nI x1) x2 (nI x3) x4 x5 x6 x7 x8 1 (-1)))] ++ va_pl L M) H_25 := hP
      have hD : va_D A ([(xa, (b11_1 x0 (nI x1) x2 (nI x3) x4 x5 x6 x7 x8 1 (-1)))] ++ va_pl L M) := hD
      have hq := Eq.symm hp_28
      subst hq
      have hno : ¬ okMv x1 SX SY k1 k2 k3 k4 := fun q9 => by unfold okMv okH at q9; first | omega | (obtain ⟨⟨_, _⟩, _, _, _, _, _, _, _, _, _⟩ := q9; first | omega | contradiction)
      rw [hQ]
      exact W.iret (v := (-1)) hx hb hr (fun t ht hW9 => ⟨⟨(-1), M, rfl, ⟨hW, hF, hT1, hT10, (by intro n9 l9 hR9; unfold sxMv syMv; rw [if_neg hno, if_neg hno]; exact hC.mono), (by unfold anMv; rw [if_neg hno])⟩, ⟨1, by rw [ht]; exact hP, hD⟩⟩, hS.F ht⟩) hS.2.2 dX11_move_39
    · have hb_29 := hp_23 b_24 rfl
      obtain ⟨htc, hst⟩ := hqx.1 _ rfl
      have hct : ((k2 : Int32).toNatClampNeg : Int) = (k2 : Int32).toInt := clT (by omega)
      have htn : (k2 : Int32).toNatClampNeg < 24 := by omega
      have hlt := lk_te hst htn
      have hte := hSM.te (k2 : Int32).toNatClampNeg (by omega)
      have ht21 : (SY (k1 : Int32).toNatClampNeg 21 (k2 : Int32).toNatClampNeg).toInt = (cV 9 M b_24 3).toInt := by rw [← hte.2.2.1, hlt.2.2.1]
      have ht22 : (SY (k1 : Int32).toNatClampNeg 22 (k2 : Int32).toNatClampNeg).toInt = (cV 9 M b_24 5).toInt := by rw [← hte.2.2.2.1, hlt.2.2.2.1]
      have htm : cV 9 M b_24 0 = k2 := by rw [hC.oc.nm b_5 hb_10 _ b_24 htn hst]; exact (i32_of (by omega) (by omega)).symm
      refine lv_astore (lv' := [(7, .ref b_24), (6, .ref b_5), (0, .ref xa), (1, .int k1), (2, .int k2), (3, .int k3), (4, .int k4), (5, .int k5)]) hx hb dX11_move_22 hl (by decide) rfl (fun ls hl => ?_)
      refine lv_aload hx hb dX11_move_24 (lv_at hl 1 rfl) ?_
      refine lv_ifnull hx hb dX11_move_26 ?_
      refine lv_aload hx hb dX11_move_29 (lv_at hl 0 rfl) ?_
      refine lv_ifnonnull (tgt := 40) hx hb dX11_move_31 (by decide) ?_
      refine lv_iload hx hb dX11_move_40 (lv_at hl 6 rfl) ?_
      have hPc : va_P D vwCl ([] ++ va_pl L M) H_20 := hP.part (cx := []) [] rfl
      have hDc : va_D A ([] ++ va_pl L M) := hD.part (cx := []) [] (by decide) rfl
      have hFc : ∀ q, va_A ([] ++ va_pl L M) H_20.size q → A q := pg_free hDc hS hA
      refine va_calli (va_runS (As := [.int k4]) (rest := []) ⟨hx, hb, hml, hown, hg⟩ (e_X11_isSum l D cy K L M H_20.size k4  hW ) (va_cwS 1 hg (gS wd_384 wd_385 wd_3 wd_386) rfl rfl rfl (by decide +kernel) ⟨(Nat.le_trans (Nat.le_of_ble_eq_true rfl) hRf), (Nat.le_trans (Nat.le_of_ble_eq_true rfl) hRl)⟩) ⟨PG.blind, fun U hU hW => ⟨rfl, PG.at hPc hK hDc hN hU hW⟩⟩ rfl rfl hl.1 rfl (lv_room (Nat.le_of_ble_eq_true rfl)) dX11_move_42 ⟨(Nat.le_trans (Nat.le_of_ble_eq_true rfl) hRc), (Nat.le_trans (Nat.le_of_ble_eq_true rfl) hRs)⟩) hS (fun q _ h => hFc q h) hFc (fun r_31 M_32 t H_30 locs ht hvm hw hB hz1 hk1 hS => ?_)
      have hp_33 := hw
      obtain ⟨hP1, hD1⟩ := hB
      rw [ht] at hP1
      obtain ⟨hP, hD⟩ := va_joinP (X := [(xa, (b11_1 x0 (nI x1) x2 (nI x3) x4 x5 x6 x7 x8 x9 x10))]) (cx := []) (wr := [(xa, (b11_1 x0 (nI x1) x2 (nI x3) x4 x5 x6 x7 x8 x9 x10))]) (rx := []) (pl := va_pl L M) (pl1 := va_pl L M) hP hD [] [0] rfl rfl (by decide) (by decide) hk1 hFc hP1 hD1
      have hP : va_P D vwCl ([(xa, (b11_1 x0 (nI x1) x2 (nI x3) x4 x5 x6 x7 x8 x9 x10))] ++ va_pl L M) H_30 := hP
      have hD : va_D A ([(xa, (b11_1 x0 (nI x1) x2 (nI x3) x4 x5 x6 x7 x8 x9 x10))] ++ va_pl L M) := hD
      rcases hp_33 with ⟨rfl, c_34⟩ | ⟨rfl, c_35⟩
      · have hz := rfl (a := 0)
        refine lv_if_ne (tgt := 54) hx hb dX11_move_45 (by decide) (fun _ => ?_) (fun c_36 => absurd c_36 (by decide))
        refine lv_aload hx hb dX11_move_54 (lv_at hl 1 rfl) ?_
        refine lv_iload_n hx hb dX11_move_56 rfl (lv_at hl 5 rfl) ?_
        have hPc : va_P D vwCl ([] ++ va_pl L M) H_30 := hP.part (cx := []) [] rfl
        have hDc : va_D A ([] ++ va_pl L M) := hD.part (cx := []) [] (by decide) rfl
        have hFc : ∀ q, va_A ([] ++ va_pl L M) H_30.size q → A q := pg_free hDc hS hA
        refine va_calli (va_runV (As := [.int k3]) (rest := []) ⟨hx, hb, hml, hown, hg⟩ (e_X2_isFree l D cy K L M H_30.size b_5 k3  hW hb_10) (cwV 1 hg (gV wd_361 wd_362 wd_363 wd_57 wd_364) rfl rfl rfl (by decide +kernel) ⟨(Nat.le_trans (Nat.le_of_ble_eq_true rfl) hRf), (Nat.le_trans (Nat.le_of_ble_eq_true rfl) hRl)⟩) ⟨PG.blind, pg_recv hK hP hb_10.1 hM11 rfl, fun U hU hW => ⟨rfl, PG.at hPc hK hDc hN hU hW⟩⟩ rfl rfl hl.1 rfl (lv_room (Nat.le_of_ble_eq_true rfl)) dX11_move_57 ⟨(Nat.le_trans (Nat.le_of_ble_eq_true rfl) hRc), (Nat.le_trans (Nat.le_of_ble_eq_true rfl) hRs)⟩) hS (fun q _ h => hFc q h) hFc (fun r_38 M_39 t H_37 locs ht hvm hw hB hz1 hk1 hS => ?_)
        have hp_40 := hw
        obtain ⟨hP1, hD1⟩ := hB
        rw [ht] at hP1
        obtain ⟨hP, hD⟩ := va_joinP (X := [(xa, (b11_1 x0 (nI x1) x2 (nI x3) x4 x5 x6 x7 x8 x9 x10))]) (cx := []) (wr := [(xa, (b11_1 x0 (nI x1) x2 (nI x3) x4 x5 x6 x7 x8 x9 x10))]) (rx := []) (pl := va_pl L M) (pl1 := va_pl L M) hP hD [] [0] rfl rfl (by decide) (by decide) hk1 hFc hP1 hD1
        have hP : va_P D vwCl ([(xa, (b11_1 x0 (nI x1) x2 (nI x3) x4 x5 x6 x7 x8 x9 x10))] ++ va_pl L M) H_37 := hP
        have hD : va_D A ([(xa, (b11_1 x0 (nI x1) x2 (nI x3) x4 x5 x6 x7 x8 x9 x10))] ++ va_pl L M) := hD
        rcases hp_40 with ⟨rfl, c_41, c_42, c_43⟩ | ⟨rfl, c_44⟩
        · have hz := rfl (a := 0)
          refine lv_if_eq (tgt := 72) hx hb dX11_move_60 (by decide) (fun c_45 => absurd c_45 (by decide)) (fun _ => ?_)
          refine lv_aload hx hb dX11_move_63 (lv_at hl 0 rfl) ?_
          refine lv_iload_n hx hb dX11_move_65 rfl (lv_at hl 5 rfl) ?_
          obtain ⟨v46_0, v46_1, v46_2, v46_3, v46_4, v46_5, v46_6, v46_7, v46_8, v46_9, v46_10, v46_11, v46_12, v46_13, v46_14, v46_15, hM46, h46_0, h46_1, h46_4, h46_8⟩ := hW.open_9 hb_29
          have hPc : va_P D vwCl ([] ++ va_pl L M) H_37 := hP.part (cx := []) [] rfl
          have hDc : va_D A ([] ++ va_pl L M) := hD.part (cx := []) [] (by decide) rfl
          have hFc : ∀ q, va_A ([] ++ va_pl L M) H_37.size q → A q := pg_free hDc hS hA
          refine va_calli (va_runV (As := [.int k3]) (rest := []) ⟨hx, hb, hml, hown, hg⟩ (e_X9_isIn l D cy K L M H_37.size b_24 k3  hW hb_29) (cwV 1 hg (gV wd_406 wd_63 wd_64 wd_52 wd_65) rfl rfl rfl (by decide +kernel) ⟨(Nat.le_trans (Nat.le_of_ble_eq_true rfl) hRf), (Nat.le_trans (Nat.le_of_ble_eq_true rfl) hRl)⟩) ⟨PG.blind, pg_recv hK hP hb_29.1 hM46 rfl, fun U hU hW => ⟨rfl, PG.at hPc hK hDc hN hU hW⟩⟩ rfl rfl hl.1 rfl (lv_room (Nat.le_of_ble_eq_true rfl)) dX11_move_66 ⟨(Nat.le_trans (Nat.le_of_ble_eq_true rfl) hRc), (Nat.le_trans (Nat.le_of_ble_eq_true rfl) hRs)⟩) hS (fun q _ h => hFc q h) hFc (fun r_48 M_49 t H_47 locs ht hvm hw hB hz1 hk1 hS => ?_)
          have hp_50 := hw
          obtain ⟨hP1, hD1⟩ := hB
          rw [ht] at hP1
          obtain ⟨hP, hD⟩ := va_joinP (X := [(xa, (b11_1 x0 (nI x1) x2 (nI x3) x4 x5 x6 x7 x8 x9 x10))]) (cx := []) (wr := [(xa, (b11_1 x0 (nI x1) x2 (nI x3) x4 x5 x6 x7 x8 x9 x10))]) (rx := []) (pl := va_pl L M) (pl1 := va_pl L M) hP hD [] [0] rfl rfl (by decide) (by decide) hk1 hFc hP1 hD1
          have hP : va_P D vwCl ([(xa, (b11_1 x0 (nI x1) x2 (nI x3) x4 x5 x6 x7 x8 x9 x10))] ++ va_pl L M) H_47 := hP
          have hD : va_D A ([(xa, (b11_1 x0 (nI x1) x2 (nI x3) x4 x5 x6 x7 x8 x9 x10))] ++ va_pl L M) := hD
          rcases hp_50 with ⟨rfl, c_51⟩ | ⟨rfl, c_52⟩
          · have hz := rfl (a := 0)
            refine lv_if_ne (tgt := 78) hx hb dX11_move_69 (by decide) (fun _ => ?_) (fun c_53 => absurd c_53 (by decide))
            refine lv_aload hx hb dX11_move_78 (lv_at hl 1 rfl) ?_
            refine pg_get (D := D) (ci := 2) (v := .ref v11_16) (C := RX2) (T := TX2) (N := 20) hx hb hg inG2 hown hK hP hb_10.1 hM11 rfl 16 (by decide) (hg _ wd_407) (fun _ h9 => h9) rfl dX11_move_80 ?_
            obtain ⟨n54, v54_0, v54_1, v54_2, v54_3, hM54, h54_0, h54_1, h54_2, h54_3, y54_0⟩ := hW.open_1 h11_16
            have hPc : va_P D vwCl ([] ++ va_pl L M) H_47 := hP.part (cx := []) [] rfl
            have hDc : va_D A ([] ++ va_pl L M) := hD.part (cx := []) [] (by decide) rfl
            have hFc : ∀ q, va_A ([] ++ va_pl L M) H_47.size q → A q := pg_free hDc hS hA
            refine va_calli (va_runV (As := []) (rest := []) ⟨hx, hb, hml, hown, hg⟩ (e_X1_isFull l D cy K L M H_47.size v11_16 n54 v54_0 v54_1 v54_2 v54_3 hW h11_16 hM54 h54_0 h54_1 h54_2 h54_3 y54_0) (cwV 0 hg (gV wd_408 wd_121 wd_122 wd_123 wd_124) rfl rfl rfl (by decide +kernel) ⟨(Nat.le_trans (Nat.le_of_ble_eq_true rfl) hRf), (Nat.le_trans (Nat.le_of_ble_eq_true rfl) hRl)⟩) ⟨PG.blind, pg_recv hK hP h11_16.1 hM54 rfl, fun U hU hW => ⟨rfl, PG.at hPc hK hDc hN hU hW⟩⟩ rfl rfl hl.1 rfl (lv_room (Nat.le_of_ble_eq_true rfl)) dX11_move_83 ⟨(Nat.le_trans (Nat.le_of_ble_eq_true rfl) hRc), (Nat.le_trans (Nat.le_of_ble_eq_true rfl) hRs)⟩) hS (fun q _ h => hFc q h) hFc (fun r_56 M_57 t H_55 locs ht hvm hw hB hz1 hk1 hS => ?_)
            have hp_58 := hw
            obtain ⟨hP1, hD1⟩ := hB
            rw [ht] at hP1
            obtain ⟨hP, hD⟩ := va_joinP (X := [(xa, (b11_1 x0 (nI x1) x2 (nI x3) x4 x5 x6 x7 x8 x9 x10))]) (cx := []) (wr := [(xa, (b11_1 x0 (nI x1) x2 (nI x3) x4 x5 x6 x7 x8 x9 x10))]) (rx := []) (pl := va_pl L M) (pl1 := va_pl L M) hP hD [] [0] rfl rfl (by decide) (by decide) hk1 hFc hP1 hD1
            have hP : va_P D vwCl ([(xa, (b11_1 x0 (nI x1) x2 (nI x3) x4 x5 x6 x7 x8 x9 x10))] ++ va_pl L M) H_55 := hP
            have hD : va_D A ([(xa, (b11_1 x0 (nI x1) x2 (nI x3) x4 x5 x6 x7 x8 x9 x10))] ++ va_pl L M) := hD
            rcases hp_58 with ⟨rfl, c_59⟩ | ⟨rfl, c_60, c_61⟩
            · have hz := rfl (a := 0)
              refine lv_if_eq (tgt := 96) hx hb dX11_move_86 (by decide) (fun c_62 => absurd c_62 (by decide)) (fun _ => ?_)
              refine lv_aload_n hx hb dX11_move_89 rfl (lv_at hl 2 rfl) ?_
              refine lv_bipush (v := 9) hx hb dX11_move_90 (by decide) ?_
              have hPc := hP.sub (ws' := [(xa, (b11_1 x0 (nI x1) x2 (nI x3) x4 x5 x6 x7 x8 x9 x10))]) [0] rfl
              have hDc := hD.sub (ws' := [(xa, (b11_1 x0 (nI x1) x2 (nI x3) x4 x5 x6 x7 x8 x9 x10))]) [0] (by decide) rfl
              have hKc := hK.sub (tys' := []) [] rfl
              have hFc := va_free (wc := [(xa, (b11_1 x0 (nI x1) x2 (nI x3) x4 x5 x6 x7 x8 x9 x10))]) hD hS hA [0] rfl
              refine va_calli (va_runV (As := [.int 9]) (rest := []) ⟨hx, hb, hml, hown, hg⟩ (k_refuse l D H_55.size xa x0 (nI x1) x2 (nI x3) x4 x5 x6 x7 x8 x9 x10 9) (cwV 1 hg (gV wd_344 wd_345 wd_346 wd_3 wd_347) rfl rfl rfl (by decide +kernel) ⟨(Nat.le_trans (Nat.le_of_ble_eq_true rfl) hRf), (Nat.le_trans (Nat.le_of_ble_eq_true rfl) hRl)⟩) ⟨Pr.blind, va_recv hK hP (ci := 11) (q0 := 0) rfl rfl, fun U hU hW => ⟨rfl, Pr.at hPc hKc hDc hN hU hW⟩⟩ rfl rfl hl.1 rfl (lv_room (Nat.le_of_ble_eq_true rfl)) dX11_move_92 ⟨(Nat.le_trans (Nat.le_of_ble_eq_true rfl) hRc), (Nat.le_trans (Nat.le_of_ble_eq_true rfl) hRs)⟩) hS (fun q _ h => hFc q h) hFc (fun r_64 M_65 t H_63 locs ht hvm hw hB hz1 hk1 hS => ?_)
              have hp_66 := hw
              obtain ⟨hP1, hK1, hD1⟩ := hB
              rw [ht] at hP1
              obtain ⟨hP, hD⟩ := va_joinQ (X := [(xa, (b11_1 x0 (nI x1) x2 (nI x3) x4 x5 x6 x7 x8 x9 x10))]) (cx := [(xa, (b11_1 x0 (nI x1) x2 (nI x3) x4 x5 x6 x7 x8 x9 x10))]) (wr := []) (w1 := [(xa, (b11_1 x0 (nI x1) x2 (nI x3) x4 x5 x6 x7 x8 9 (-1)))]) (pl := va_pl L M) hP hD [0] [] rfl rfl (by decide) (by decide) hk1 hFc hP1 hD1
              have hP : va_P D vwCl ([(xa, (b11_1 x0 (nI x1) x2 (nI x3) x4 x5 x6 x7 x8 9 (-1)))] ++ va_pl L M) H_63 := hP
              have hD : va_D A ([(xa, (b11_1 x0 (nI x1) x2 (nI x3) x4 x5 x6 x7 x8 9 (-1)))] ++ va_pl L M) := hD
              have hq := Eq.symm hp_66
              subst hq
              have hI_67 : (0 : Int) ≤ (k3 : Int32).toInt := inltI rfl rfl c_42
              have hI_68 : (k3 : Int32).toInt ≤ (999 : Int) := inltI rfl rfl c_43
              have hA_69 : (cV 9 M b_24 0).toInt = ((v46_0 : Nat) : Int) := by rw [cV_of hM46 rfl]; exact nI_toInt (by omega)
              have hA_70 : (cV 9 M b_24 2).toInt = (v46_2 : Int32).toInt := by rw [cV_of hM46 rfl]
              have hA_71 : (cV 9 M b_24 3).toInt = (v46_3 : Int32).toInt := by rw [cV_of hM46 rfl]
              have hA_72 : (cV 9 M b_24 4).toInt = (v46_4 : Int32).toInt := by rw [cV_of hM46 rfl]
              have hA_73 : (cV 9 M b_24 5).toInt = (v46_5 : Int32).toInt := by rw [cV_of hM46 rfl]
              have hA_74 : (cV 9 M b_24 6).toInt = (v46_6 : Int32).toInt := by rw [cV_of hM46 rfl]
              have hA_75 : (cV 9 M b_24 7).toInt = (v46_7 : Int32).toInt := by rw [cV_of hM46 rfl]
              have hA_76 : (cV 1 M v11_16 3).toInt = ((v54_3 : Nat) : Int) := by rw [cV_of hM54 rfl]; exact nI_toInt (by omega)
              have hno : ¬ okMv x1 SX SY k1 k2 k3 k4 := fun q9 => by unfold okMv okH at q9; first | omega | (obtain ⟨⟨_, _⟩, _, _, _, _, _, _, _, _, _⟩ := q9; first | omega | contradiction)
              rw [hQ]
              exact W.iret (v := (-1)) hx hb hr (fun t ht hW9 => ⟨⟨(-1), M, rfl, ⟨hW, hF, hT1, hT10, (by intro n9 l9 hR9; unfold sxMv syMv; rw [if_neg hno, if_neg hno]; exact hC.mono), (by unfold anMv; rw [if_neg hno])⟩, ⟨9, by rw [ht]; exact hP, hD⟩⟩, hS.F ht⟩) hS.2.2 dX11_move_95
            · have hz := rfl (a := 0)
              refine lv_if_eq (tgt := 96) hx hb dX11_move_86 (by decide) (fun _ => ?_) (fun c_77 => absurd c_77 (by decide))
              refine lv_aload hx hb dX11_move_96 (lv_at hl 1 rfl) ?_
              refine pg_get (D := D) (ci := 2) (v := .ref v11_16) (C := RX2) (T := TX2) (N := 20) hx hb hg inG2 hown hK hP hb_10.1 hM11 rfl 16 (by decide) (hg _ wd_407) (fun _ h9 => h9) rfl dX11_move_98 ?_
              refine lv_aload hx hb dX11_move_101 (lv_at hl 0 rfl) ?_
              refine lv_iload_n hx hb dX11_move_103 rfl (lv_at hl 5 rfl) ?_
              refine lv_iload hx hb dX11_move_104 (lv_at hl 7 rfl) ?_
              refine lv_if_eq (tgt := 115) hx hb dX11_move_106 (by decide) (fun c_78 => ?_) (fun c_78 => ?_)
              · have hz := rfl (a := 0)
                refine lv_iload hx hb dX11_move_115 (lv_at hl 6 rfl) ?_
                have hPc : va_P D vwCl ([] ++ va_pl L M) H_55 := hP.part (cx := []) [] rfl
                have hDc : va_D A ([] ++ va_pl L M) := hD.part (cx := []) [] (by decide) rfl
                have hFc : ∀ q, va_A ([] ++ va_pl L M) H_55.size q → A q := pg_free hDc hS hA
                have hI_79 : (0 : Int) ≤ (k3 : Int32).toInt := inltI rfl rfl c_42
                have hI_80 : (k3 : Int32).toInt ≤ (999 : Int) := inltI rfl rfl c_43
                have hI_81 : (k5 : Int32).toInt = (0 : Int) := ieqI rfl rfl c_78
                have hA_82 : (cV 9 M b_24 0).toInt = ((v46_0 : Nat) : Int) := by rw [cV_of hM46 rfl]; exact nI_toInt (by omega)
                have hA_83 : (cV 9 M b_24 2).toInt = (v46_2 : Int32).toInt := by rw [cV_of hM46 rfl]
                have hA_84 : (cV 9 M b_24 3).toInt = (v46_3 : Int32).toInt := by rw [cV_of hM46 rfl]
                have hA_85 : (cV 9 M b_24 4).toInt = (v46_4 : Int32).toInt := by rw [cV_of hM46 rfl]
                have hA_86 : (cV 9 M b_24 5).toInt = (v46_5 : Int32).toInt := by rw [cV_of hM46 rfl]
                have hA_87 : (cV 9 M b_24 6).toInt = (v46_6 : Int32).toInt := by rw [cV_of hM46 rfl]
                have hA_88 : (cV 9 M b_24 7).toInt = (v46_7 : Int32).toInt := by rw [cV_of hM46 rfl]
                have hA_89 : (cV 1 M v11_16 3).toInt = ((v54_3 : Nat) : Int) := by rw [cV_of hM54 rfl]; exact nI_toInt (by omega)
                have hI_90 : (cfx M b_5) 14 = ((cfx M b_5) 14) := rfl
                refine va_callv (va_runV (As := [.ref b_24, .int k3, .int k4]) (rest := []) ⟨hx, hb, hml, hown, hg⟩ (e_app_mo l D cy K L M H_55.size v11_16 b_24 k3 k4 Bo M b_5 (cfx M b_5) (cax M b_5) n54 v54_0 v54_1 v54_2 v54_3 hW h11_16 hb_29 hb_10 hV (rA_of (j := 16) hM11 rfl) (by omega) hM54 h54_0 h54_1 h54_2 h54_3 y54_0) (cwV 3 hg (gV wd_409 wd_410 wd_411 wd_123 wd_412) rfl rfl rfl (by decide +kernel) ⟨(Nat.le_trans (Nat.le_of_ble_eq_true rfl) hRf), (Nat.le_trans (Nat.le_of_ble_eq_true rfl) hRl)⟩) ⟨PG.blind, pg_recv hK hP h11_16.1 hM54 rfl, fun U hU hW => ⟨rfl, PG.at hPc hK hDc hN hU hW⟩⟩ rfl rfl hl.1 rfl (lv_room (Nat.le_of_ble_eq_true rfl)) dX11_move_117 ⟨(Nat.le_trans (Nat.le_of_ble_eq_true rfl) hRc), (Nat.le_trans (Nat.le_of_ble_eq_true rfl) hRs)⟩) hS (fun q _ h => hFc q h) hFc (fun M_93 t H_91 locs ht hvm hw hB hz1 hk1 hS => ?_)
                have hWb := hW
                obtain ⟨hW, hF2, gT1, hVP, hp_94⟩ := hw
                obtain ⟨hP1, hD1⟩ := hB
                rw [ht] at hP1
                obtain ⟨hP, hD⟩ := va_joinP (X := [(xa, (b11_1 x0 (nI x1) x2 (nI x3) x4 x5 x6 x7 x8 x9 x10))]) (cx := []) (wr := [(xa, (b11_1 x0 (nI x1) x2 (nI x3) x4 x5 x6 x7 x8 x9 x10))]) (rx := []) (pl := va_pl L M) (pl1 := va_pl L M_93) hP hD [] [0] rfl rfl (by decide) (by decide) hk1 hFc hP1 hD1
                have hP : va_P D vwCl ([(xa, (b11_1 x0 (nI x1) x2 (nI x3) x4 x5 x6 x7 x8 x9 x10))] ++ va_pl L M_93) H_91 := hP
                have hD : va_D A ([(xa, (b11_1 x0 (nI x1) x2 (nI x3) x4 x5 x6 x7 x8 x9 x10))] ++ va_pl L M_93) := hD
                have hM_95 : M_93 b_5 = (b2_2 v11_0 v11_1 v11_2 v11_3 (nI v11_4) (nI v11_5) v11_6 v11_7 v11_8 (nI v11_9) v11_10 (nI v11_11) v11_12 v11_13 v11_14 v11_15 v11_16 v11_17 v11_18 v11_19) := (hF2.at hb_10 (by decide)).trans hM11
                have hM_96 : M_93 b_24 = (b9_9 (nI v46_0) v46_1 v46_2 v46_3 v46_4 v46_5 v46_6 v46_7 v46_8 v46_9 v46_10 v46_11 v46_12 v46_13 v46_14 v46_15) := (hF2.at hb_29 (by decide)).trans hM46
                have hF : fr K L [1, 10, 55, 56, 57, 63] M M_93 := hF.tr hF2 (by decide)
                have hT1 : fT 1 K L [3] M M_93 := hT1.tr gT1 (by decide)
                have hT10 : fT 10 K L [1, 2] M M_93 := hT10.frr hF2 (by decide)
                have hV : VC Bo K L M M_93 b_5 (va_up (cfx M b_5) 14 ((cfx M b_5) 14 + 1)) (va_up (va_up (va_up (cax M b_5) 38 (upd ((cax M b_5) 38) ((cfx M b_5) 14).toNat (cV 9 M b_24 0))) 39 (upd ((cax M b_5) 39) ((cfx M b_5) 14).toNat k3)) 40 (upd ((cax M b_5) 40) ((cfx M b_5) 14).toNat k4)) := hVP
                have hs_97 : RFc (M_93 (rA 2 M_93 b_5 8)) (k2 : Int32).toNatClampNeg = some b_24 := by rw [rA_c ((fr.cv hF2 (by decide)) _ hb_10 8 rfl), hF2.at (KH hWb hb_10).2.2.2.1 (by decide)]; exact hst
                refine lv_aload hx hb dX11_move_120 (lv_at hl 1 rfl) ?_
                refine pg_get (D := D) (ci := 2) (v := .ref v11_18) (C := RX2) (T := TX2) (N := 20) hx hb hg inG2 hown hK hP hb_10.1 hM_95 rfl 18 (by decide) (hg _ wd_378) (fun _ h9 => h9) rfl dX11_move_122 ?_
                obtain ⟨v98_0, v98_1, v98_2, hM98, h98_0⟩ := hW.open_10 h11_18
                have hPc : va_P D vwCl ([] ++ va_pl L M_93) H_91 := hP.part (cx := []) [] rfl
                have hDc : va_D A ([] ++ va_pl L M_93) := hD.part (cx := []) [] (by decide) rfl
                have hFc : ∀ q, va_A ([] ++ va_pl L M_93) H_91.size q → A q := pg_free hDc hS hA
                have hI_99 : (va_up (cfx M b_5) 14 ((cfx M b_5) 14 + 1)) 16 = ((cfx M b_5) 16) := rfl
                have hI_100 : (va_up (cfx M b_5) 14 ((cfx M b_5) 14 + 1)) 19 = ((cfx M b_5) 19) := rfl
                refine va_callv (va_runV (As := []) (rest := []) ⟨hx, hb, hml, hown, hg⟩ (e_noteM l D cy K L M_93 H_91.size v11_18 Bo M b_5 (va_up (cfx M b_5) 14 ((cfx M b_5) 14 + 1)) (va_up (va_up (va_up (cax M b_5) 38 (upd ((cax M b_5) 38) ((cfx M b_5) 14).toNat (cV 9 M b_24 0))) 39 (upd ((cax M b_5) 39) ((cfx M b_5) 14).toNat k3)) 40 (upd ((cax M b_5) 40) ((cfx M b_5) 14).toNat k4))  hW h11_18 hb_10 hV (rA_of (j := 18) hM_95 rfl) (by omega) (by omega)) (cwV 0 hg (gV wd_413 wd_414 wd_415 wd_114 wd_416) rfl rfl rfl (by decide +kernel) ⟨(Nat.le_trans (Nat.le_of_ble_eq_true rfl) hRf), (Nat.le_trans (Nat.le_of_ble_eq_true rfl) hRl)⟩) ⟨PG.blind, pg_recv hK hP h11_18.1 hM98 rfl, fun U hU hW => ⟨rfl, PG.at hPc hK hDc hN hU hW⟩⟩ rfl rfl hl.1 rfl (lv_room (Nat.le_of_ble_eq_true rfl)) dX11_move_125 ⟨(Nat.le_trans (Nat.le_of_ble_eq_true rfl) hRc), (Nat.le_trans (Nat.le_of_ble_eq_true rfl) hRs)⟩) hS (fun q _ h => hFc q h) hFc (fun M_103 t H_101 locs ht hvm hw hB hz1 hk1 hS => ?_)
                have hWb := hW
                obtain ⟨hW, hF2, gT10, hVP, hp_104⟩ := hw
                obtain ⟨hP1, hD1⟩ := hB
                rw [ht] at hP1
                obtain ⟨hP, hD⟩ := va_joinP (X := [(xa, (b11_1 x0 (nI x1) x2 (nI x3) x4 x5 x6 x7 x8 x9 x10))]) (cx := []) (wr := [(xa, (b11_1 x0 (nI x1) x2 (nI x3) x4 x5 x6 x7 x8 x9 x10))]) (rx := []) (pl := va_pl L M_93) (pl1 := va_pl L M_103) hP hD [] [0] rfl rfl (by decide) (by decide) hk1 hFc hP1 hD1
                have hP : va_P D vwCl ([(xa, (b11_1 x0 (nI x1) x2 (nI x3) x4 x5 x6 x7 x8 x9 x10))] ++ va_pl L M_103) H_101 := hP
                have hD : va_D A ([(xa, (b11_1 x0 (nI x1) x2 (nI x3) x4 x5 x6 x7 x8 x9 x10))] ++ va_pl L M_103) := hD
                have hM_105 : M_103 b_5 = (b2_2 v11_0 v11_1 v11_2 v11_3 (nI v11_4) (nI v11_5) v11_6 v11_7 v11_8 (nI v11_9) v11_10 (nI v11_11) v11_12 v11_13 v11_14 v11_15 v11_16 v11_17 v11_18 v11_19) := (hF2.at hb_10 (by decide)).trans hM_95
                have hM_106 : M_103 b_24 = (b9_9 (nI v46_0) v46_1 v46_2 v46_3 v46_4 v46_5 v46_6 v46_7 v46_8 v46_9 v46_10 v46_11 v46_12 v46_13 v46_14 v46_15) := (hF2.at hb_29 (by decide)).trans hM_96
                have hF : fr K L [1, 10, 55, 56, 57, 63] M M_103 := hF.tr hF2 (by decide)
                have hT1 : fT 1 K L [3] M M_103 := hT1.frr hF2 (by decide)
                have hT10 : fT 10 K L [1, 2] M M_103 := hT10.tr gT10 (by decide)
                have hV : VC Bo K L M M_103 b_5 (va_up (va_up (va_up (cfx M b_5) 14 ((cfx M b_5) 14 + 1)) 19 ((va_up (cfx M b_5) 14 ((cfx M b_5) 14 + 1)) 19 + 1)) 16 (min 60 ((va_up (cfx M b_5) 14 ((cfx M b_5) 14 + 1)) 16 + 1))) (va_up (va_up (va_up (va_up (cax M b_5) 38 (upd ((cax M b_5) 38) ((cfx M b_5) 14).toNat (cV 9 M b_24 0))) 39 (upd ((cax M b_5) 39) ((cfx M b_5) 14).toNat k3)) 40 (upd ((cax M b_5) 40) ((cfx M b_5) 14).toNat k4)) 43 (upd ((va_up (va_up (va_up (cax M b_5) 38 (upd ((cax M b_5) 38) ((cfx M b_5) 14).toNat (cV 9 M b_24 0))) 39 (upd ((cax M b_5) 39) ((cfx M b_5) 14).toNat k3)) 40 (upd ((cax M b_5) 40) ((cfx M b_5) 14).toNat k4)) 43) (((va_up (cfx M b_5) 14 ((cfx M b_5) 14 + 1)) 19).toNat % 60) (-1))) := hVP
                have hs_107 : RFc (M_103 (rA 2 M_103 b_5 8)) (k2 : Int32).toNatClampNeg = some b_24 := by rw [rA_c ((fr.cv hF2 (by decide)) _ hb_10 8 rfl), hF2.at (KH hWb hb_10).2.2.2.1 (by decide)]; exact hs_97
                refine lv_aload_n hx hb dX11_move_128 rfl (lv_at hl 2 rfl) ?_
                refine lv_aload hx hb dX11_move_129 (lv_at hl 1 rfl) ?_
                refine pg_get (D := D) (ci := 2) (v := .ref v11_16) (C := RX2) (T := TX2) (N := 20) hx hb hg inG2 hown hK hP hb_10.1 hM_105 rfl 16 (by decide) (hg _ wd_407) (fun _ h9 => h9) rfl dX11_move_131 ?_
                obtain ⟨n108, v108_0, v108_1, v108_2, v108_3, hM108, h108_0, h108_1, h108_2, h108_3, y108_0⟩ := hW.open_1 h11_16
                refine pg_get (D := D) (ci := 1) (v := .int (nI v108_3)) (C := RX1) (T := TX1) (N := 4) hx hb hg inG1 hown hK hP h11_16.1 hM108 rfl 3 (by decide) (hg _ wd_417) (fun _ h9 => h9) rfl dX11_move_134 ?_
                have hPc := hP.sub (ws' := [(xa, (b11_1 x0 (nI x1) x2 (nI x3) x4 x5 x6 x7 x8 x9 x10))]) [0] rfl
                have hDc := hD.sub (ws' := [(xa, (b11_1 x0 (nI x1) x2 (nI x3) x4 x5 x6 x7 x8 x9 x10))]) [0] (by decide) rfl
                have hKc := hK.sub (tys' := []) [] rfl
                have hFc := va_free (wc := [(xa, (b11_1 x0 (nI x1) x2 (nI x3) x4 x5 x6 x7 x8 x9 x10))]) hD hS hA [0] rfl
                refine va_calli (va_runV (As := [.int (nI v108_3)]) (rest := []) ⟨hx, hb, hml, hown, hg⟩ (k_accept l D H_101.size xa x0 (nI x1) x2 (nI x3) x4 x5 x6 x7 x8 x9 x10 (nI v108_3)) (cwV 1 hg (gV wd_356 wd_357 wd_358 wd_3 wd_359) rfl rfl rfl (by decide +kernel) ⟨(Nat.le_trans (Nat.le_of_ble_eq_true rfl) hRf), (Nat.le_trans (Nat.le_of_ble_eq_true rfl) hRl)⟩) ⟨Pr.blind, va_recv hK hP (ci := 11) (q0 := 0) rfl rfl, fun U hU hW => ⟨rfl, Pr.at hPc hKc hDc hN hU hW⟩⟩ rfl rfl hl.1 rfl (lv_room (Nat.le_of_ble_eq_true rfl)) dX11_move_137 ⟨(Nat.le_trans (Nat.le_of_ble_eq_true rfl) hRc), (Nat.le_trans (Nat.le_of_ble_eq_true rfl) hRs)⟩) hS (fun q _ h => hFc q h) hFc (fun r_110 M_111 t H_109 locs ht hvm hw hB hz1 hk1 hS => ?_)
                have hp_112 := hw
                obtain ⟨hP1, hK1, hD1⟩ := hB
                rw [ht] at hP1
                obtain ⟨hP, hD⟩ := va_joinQ (X := [(xa, (b11_1 x0 (nI x1) x2 (nI x3) x4 x5 x6 x7 x8 x9 x10))]) (cx := [(xa, (b11_1 x0 (nI x1) x2 (nI x3) x4 x5 x6 x7 x8 x9 x10))]) (wr := []) (w1 := [(xa, (b11_1 x0 (nI x1) x2 (nI x3) x4 x5 x6 x7 x8 0 (-1)))]) (pl := va_pl L M_103) hP hD [0] [] rfl rfl (by decide) (by decide) hk1 hFc hP1 hD1
                have hP : va_P D vwCl ([(xa, (b11_1 x0 (nI x1) x2 (nI x3) x4 x5 x6 x7 x8 0 (-1)))] ++ va_pl L M_103) H_109 := hP
                have hD : va_D A ([(xa, (b11_1 x0 (nI x1) x2 (nI x3) x4 x5 x6 x7 x8 0 (-1)))] ++ va_pl L M_103) := hD
                have hq := Eq.symm hp_112
                subst hq
                have hyes : okMv x1 SX SY k1 k2 k3 k4 := by unfold okMv okH; refine ⟨⟨?_, ?_⟩, ?_, ?_, ?_, ?_, ?_, ?_, ?_, ?_, ?_⟩ <;> first | omega | assumption
                rw [htm] at hV
                have hk5 : (if k5 = 0 then k4 else -k4) = k4 := if_pos c_78
                rw [← hk5] at hV
                rw [hQ]
                exact W.iret (v := (nI v108_3)) hx hb hr (fun t ht hW9 => ⟨⟨(nI v108_3), M_103, rfl, ⟨hW, hF, hT1, hT10, (by intro n9 l9 hR9; unfold sxMv syMv; rw [if_pos hyes, if_pos hyes]; have hZ := hC.fin hW0 i0 b1 hkn hb9 hV ext.rf (by rw [hF.at i0 (by decide)]) (fun q iq => ⟨iq, cR_c (fr.cv hF (by decide) q iq 3 rfl)⟩) (((hSM.move (t := k2) (d := k3) (s := if k5 = 0 then k4 else -k4) hbd14.1 (by omega) (by omega)).note hbd16 (hR9 hyes))); exact hZ), (by unfold anMv; rw [if_pos hyes]; have h9 := congrFun hV.2.1 14; have h8 : (cV 1 M_103 (rA 2 M_103 b_5 16) 3).toInt = _ := h9; rw [rA_of (j := 16) hM_105 rfl, cV_of (j := 3) hM108 rfl, nI_toInt (by omega)] at h8; have h7 : ((v108_3 : Nat) : Int) = cfx M b_5 14 + 1 := h8; exact congrArg nI (by omega))⟩, ⟨0, by rw [ht]; exact hP, hD⟩⟩, hS.F ht⟩) hS.2.2 dX11_move_140
              · have hz := rfl (a := 0)
                refine lv_iload hx hb dX11_move_109 (lv_at hl 6 rfl) ?_
                refine lv_ineg hx hb dX11_move_111 ?_
                refine lv_topi (fun f_113 ef_113 => ?_)
                refine lv_goto (tgt := 117) hx hb dX11_move_112 (by decide) ?_
                have hPc : va_P D vwCl ([] ++ va_pl L M) H_55 := hP.part (cx := []) [] rfl
                have hDc : va_D A ([] ++ va_pl L M) := hD.part (cx := []) [] (by decide) rfl
                have hFc : ∀ q, va_A ([] ++ va_pl L M) H_55.size q → A q := pg_free hDc hS hA
                have hI_114 : (0 : Int) ≤ (k3 : Int32).toInt := inltI rfl rfl c_42
                have hI_115 : (k3 : Int32).toInt ≤ (999 : Int) := inltI rfl rfl c_43
                have hI_116 : (k5 : Int32).toInt ≠ (0 : Int) := ineI rfl rfl c_78
                have hA_117 : (cV 9 M b_24 0).toInt = ((v46_0 : Nat) : Int) := by rw [cV_of hM46 rfl]; exact nI_toInt (by omega)
                have hA_118 : (cV 9 M b_24 2).toInt = (v46_2 : Int32).toInt := by rw [cV_of hM46 rfl]
                have hA_119 : (cV 9 M b_24 3).toInt = (v46_3 : Int32).toInt := by rw [cV_of hM46 rfl]
                have hA_120 : (cV 9 M b_24 4).toInt = (v46_4 : Int32).toInt := by rw [cV_of hM46 rfl]
                have hA_121 : (cV 9 M b_24 5).toInt = (v46_5 : Int32).toInt := by rw [cV_of hM46 rfl]
                have hA_122 : (cV 9 M b_24 6).toInt = (v46_6 : Int32).toInt := by rw [cV_of hM46 rfl]
                have hA_123 : (cV 9 M b_24 7).toInt = (v46_7 : Int32).toInt := by rw [cV_of hM46 rfl]
                have hA_124 : (cV 1 M v11_16 3).toInt = ((v54_3 : Nat) : Int) := by rw [cV_of hM54 rfl]; exact nI_toInt (by omega)
                have hI_125 : (cfx M b_5) 14 = ((cfx M b_5) 14) := rfl
                refine va_callv (va_runV (As := [.ref b_24, .int k3, .int f_113]) (rest := []) ⟨hx, hb, hml, hown, hg⟩ (e_app_mo l D cy K L M H_55.size v11_16 b_24 k3 f_113 Bo M b_5 (cfx M b_5) (cax M b_5) n54 v54_0 v54_1 v54_2 v54_3 hW h11_16 hb_29 hb_10 hV (rA_of (j := 16) hM11 rfl) (by omega) hM54 h54_0 h54_1 h54_2 h54_3 y54_0) (cwV 3 hg (gV wd_409 wd_410 wd_411 wd_123 wd_412) rfl rfl rfl (by decide +kernel) ⟨(Nat.le_trans (Nat.le_of_ble_eq_true rfl) hRf), (Nat.le_trans (Nat.le_of_ble_eq_true rfl) hRl)⟩) ⟨PG.blind, pg_recv hK hP h11_16.1 hM54 rfl, fun U hU hW => ⟨rfl, PG.at hPc hK hDc hN hU hW⟩⟩ rfl rfl hl.1 rfl (lv_room (Nat.le_of_ble_eq_true rfl)) dX11_move_117 ⟨(Nat.le_trans (Nat.le_of_ble_eq_true rfl) hRc), (Nat.le_trans (Nat.le_of_ble_eq_true rfl) hRs)⟩) hS (fun q _ h => hFc q h) hFc (fun M_128 t H_126 locs ht hvm hw hB hz1 hk1 hS => ?_)
                have hWb := hW
                obtain ⟨hW, hF2, gT1, hVP, hp_129⟩ := hw
                obtain ⟨hP1, hD1⟩ := hB
                rw [ht] at hP1
                obtain ⟨hP, hD⟩ := va_joinP (X := [(xa, (b11_1 x0 (nI x1) x2 (nI x3) x4 x5 x6 x7 x8 x9 x10))]) (cx := []) (wr := [(xa, (b11_1 x0 (nI x1) x2 (nI x3) x4 x5 x6 x7 x8 x9 x10))]) (rx := []) (pl := va_pl L M) (pl1 := va_pl L M_128) hP hD [] [0] rfl rfl (by decide) (by decide) hk1 hFc hP1 hD1
                have hP : va_P D vwCl ([(xa, (b11_1 x0 (nI x1) x2 (nI x3) x4 x5 x6 x7 x8 x9 x10))] ++ va_pl L M_128) H_126 := hP
                have hD : va_D A ([(xa, (b11_1 x0 (nI x1) x2 (nI x3) x4 x5 x6 x7 x8 x9 x10))] ++ va_pl L M_128) := hD
                have hM_130 : M_128 b_5 = (b2_2 v11_0 v11_1 v11_2 v11_3 (nI v11_4) (nI v11_5) v11_6 v11_7 v11_8 (nI v11_9) v11_10 (nI v11_11) v11_12 v11_13 v11_14 v11_15 v11_16 v11_17 v11_18 v11_19) := (hF2.at hb_10 (by decide)).trans hM11
                have hM_131 : M_128 b_24 = (b9_9 (nI v46_0) v46_1 v46_2 v46_3 v46_4 v46_5 v46_6 v46_7 v46_8 v46_9 v46_10 v46_11 v46_12 v46_13 v46_14 v46_15) := (hF2.at hb_29 (by decide)).trans hM46
                have hF : fr K L [1, 10, 55, 56, 57, 63] M M_128 := hF.tr hF2 (by decide)
                have hT1 : fT 1 K L [3] M M_128 := hT1.tr gT1 (by decide)
                have hT10 : fT 10 K L [1, 2] M M_128 := hT10.frr hF2 (by decide)
                have hV : VC Bo K L M M_128 b_5 (va_up (cfx M b_5) 14 ((cfx M b_5) 14 + 1)) (va_up (va_up (va_up (cax M b_5) 38 (upd ((cax M b_5) 38) ((cfx M b_5) 14).toNat (cV 9 M b_24 0))) 39 (upd ((cax M b_5) 39) ((cfx M b_5) 14).toNat k3)) 40 (upd ((cax M b_5) 40) ((cfx M b_5) 14).toNat f_113)) := hVP
                have hs_132 : RFc (M_128 (rA 2 M_128 b_5 8)) (k2 : Int32).toNatClampNeg = some b_24 := by rw [rA_c ((fr.cv hF2 (by decide)) _ hb_10 8 rfl), hF2.at (KH hWb hb_10).2.2.2.1 (by decide)]; exact hst
                refine lv_aload hx hb dX11_move_120 (lv_at hl 1 rfl) ?_
                refine pg_get (D := D) (ci := 2) (v := .ref v11_18) (C := RX2) (T := TX2) (N := 20) hx hb hg inG2 hown hK hP hb_10.1 hM_130 rfl 18 (by decide) (hg _ wd_378) (fun _ h9 => h9) rfl dX11_move_122 ?_
                obtain ⟨v133_0, v133_1, v133_2, hM133, h133_0⟩ := hW.open_10 h11_18
                have hPc : va_P D vwCl ([] ++ va_pl L M_128) H_126 := hP.part (cx := []) [] rfl
                have hDc : va_D A ([] ++ va_pl L M_128) := hD.part (cx := []) [] (by decide) rfl
                have hFc : ∀ q, va_A ([] ++ va_pl L M_128) H_126.size q → A q := pg_free hDc hS hA
                have hI_134 : (va_up (cfx M b_5) 14 ((cfx M b_5) 14 + 1)) 16 = ((cfx M b_5) 16) := rfl
                have hI_135 : (va_up (cfx M b_5) 14 ((cfx M b_5) 14 + 1)) 19 = ((cfx M b_5) 19) := rfl
                refine va_callv (va_runV (As := []) (rest := []) ⟨hx, hb, hml, hown, hg⟩ (e_noteM l D cy K L M_128 H_126.size v11_18 Bo M b_5 (va_up (cfx M b_5) 14 ((cfx M b_5) 14 + 1)) (va_up (va_up (va_up (cax M b_5) 38 (upd ((cax M b_5) 38) ((cfx M b_5) 14).toNat (cV 9 M b_24 0))) 39 (upd ((cax M b_5) 39) ((cfx M b_5) 14).toNat k3)) 40 (upd ((cax M b_5) 40) ((cfx M b_5) 14).toNat f_113))  hW h11_18 hb_10 hV (rA_of (j := 18) hM_130 rfl) (by omega) (by omega)) (cwV 0 hg (gV wd_413 wd_414 wd_415 wd_114 wd_416) rfl rfl rfl (by decide +kernel) ⟨(Nat.le_trans (Nat.le_of_ble_eq_true rfl) hRf), (Nat.le_trans (Nat.le_of_ble_eq_true rfl) hRl)⟩) ⟨PG.blind, pg_recv hK hP h11_18.1 hM133 rfl, fun U hU hW => ⟨rfl, PG.at hPc hK hDc hN hU hW⟩⟩ rfl rfl hl.1 rfl (lv_room (Nat.le_of_ble_eq_true rfl)) dX11_move_125 ⟨(Nat.le_trans (Nat.le_of_ble_eq_true rfl) hRc), (Nat.le_trans (Nat.le_of_ble_eq_true rfl) hRs)⟩) hS (fun q _ h => hFc q h) hFc (fun M_138 t H_136 locs ht hvm hw hB hz1 hk1 hS => ?_)
                have hWb := hW
                obtain ⟨hW, hF2, gT10, hVP, hp_139⟩ := hw
                obtain ⟨hP1, hD1⟩ := hB
                rw [ht] at hP1
                obtain ⟨hP, hD⟩ := va_joinP (X := [(xa, (b11_1 x0 (nI x1) x2 (nI x3) x4 x5 x6 x7 x8 x9 x10))]) (cx := []) (wr := [(xa, (b11_1 x0 (nI x1) x2 (nI x3) x4 x5 x6 x7 x8 x9 x10))]) (rx := []) (pl := va_pl L M_128) (pl1 := va_pl L M_138) hP hD [] [0] rfl rfl (by decide) (by decide) hk1 hFc hP1 hD1
                have hP : va_P D vwCl ([(xa, (b11_1 x0 (nI x1) x2 (nI x3) x4 x5 x6 x7 x8 x9 x10))] ++ va_pl L M_138) H_136 := hP
                have hD : va_D A ([(xa, (b11_1 x0 (nI x1) x2 (nI x3) x4 x5 x6 x7 x8 x9 x10))] ++ va_pl L M_138) := hD
                have hM_140 : M_138 b_5 = (b2_2 v11_0 v11_1 v11_2 v11_3 (nI v11_4) (nI v11_5) v11_6 v11_7 v11_8 (nI v11_9) v11_10 (nI v11_11) v11_12 v11_13 v11_14 v11_15 v11_16 v11_17 v11_18 v11_19) := (hF2.at hb_10 (by decide)).trans hM_130
                have hM_141 : M_138 b_24 = (b9_9 (nI v46_0) v46_1 v46_2 v46_3 v46_4 v46_5 v46_6 v46_7 v46_8 v46_9 v46_10 v46_11 v46_12 v46_13 v46_14 v46_15) := (hF2.at hb_29 (by decide)).trans hM_131
                have hF : fr K L [1, 10, 55, 56, 57, 63] M M_138 := hF.tr hF2 (by decide)
                have hT1 : fT 1 K L [3] M M_138 := hT1.frr hF2 (by decide)
                have hT10 : fT 10 K L [1, 2] M M_138 := hT10.tr gT10 (by decide)
                have hV : VC Bo K L M M_138 b_5 (va_up (va_up (va_up (cfx M b_5) 14 ((cfx M b_5) 14 + 1)) 19 ((va_up (cfx M b_5) 14 ((cfx M b_5) 14 + 1)) 19 + 1)) 16 (min 60 ((va_up (cfx M b_5) 14 ((cfx M b_5) 14 + 1)) 16 + 1))) (va_up (va_up (va_up (va_up (cax M b_5) 38 (upd ((cax M b_5) 38) ((cfx M b_5) 14).toNat (cV 9 M b_24 0))) 39 (upd ((cax M b_5) 39) ((cfx M b_5) 14).toNat k3)) 40 (upd ((cax M b_5) 40) ((cfx M b_5) 14).toNat f_113)) 43 (upd ((va_up (va_up (va_up (cax M b_5) 38 (upd ((cax M b_5) 38) ((cfx M b_5) 14).toNat (cV 9 M b_24 0))) 39 (upd ((cax M b_5) 39) ((cfx M b_5) 14).toNat k3)) 40 (upd ((cax M b_5) 40) ((cfx M b_5) 14).toNat f_113)) 43) (((va_up (cfx M b_5) 14 ((cfx M b_5) 14 + 1)) 19).toNat % 60) (-1))) := hVP
                have hs_142 : RFc (M_138 (rA 2 M_138 b_5 8)) (k2 : Int32).toNatClampNeg = some b_24 := by rw [rA_c ((fr.cv hF2 (by decide)) _ hb_10 8 rfl), hF2.at (KH hWb hb_10).2.2.2.1 (by decide)]; exact hs_132
                refine lv_aload_n hx hb dX11_move_128 rfl (lv_at hl 2 rfl) ?_
                refine lv_aload hx hb dX11_move_129 (lv_at hl 1 rfl) ?_
                refine pg_get (D := D) (ci := 2) (v := .ref v11_16) (C := RX2) (T := TX2) (N := 20) hx hb hg inG2 hown hK hP hb_10.1 hM_140 rfl 16 (by decide) (hg _ wd_407) (fun _ h9 => h9) rfl dX11_move_131 ?_
                obtain ⟨n143, v143_0, v143_1, v143_2, v143_3, hM143, h143_0, h143_1, h143_2, h143_3, y143_0⟩ := hW.open_1 h11_16
                refine pg_get (D := D) (ci := 1) (v := .int (nI v143_3)) (C := RX1) (T := TX1) (N := 4) hx hb hg inG1 hown hK hP h11_16.1 hM143 rfl 3 (by decide) (hg _ wd_417) (fun _ h9 => h9) rfl dX11_move_134 ?_
                have hPc := hP.sub (ws' := [(xa, (b11_1 x0 (nI x1) x2 (nI x3) x4 x5 x6 x7 x8 x9 x10))]) [0] rfl
                have hDc := hD.sub (ws' := [(xa, (b11_1 x0 (nI x1) x2 (nI x3) x4 x5 x6 x7 x8 x9 x10))]) [0] (by decide) rfl
                have hKc := hK.sub (tys' := []) [] rfl
                have hFc := va_free (wc := [(xa, (b11_1 x0 (nI x1) x2 (nI x3) x4 x5 x6 x7 x8 x9 x10))]) hD hS hA [0] rfl
                refine va_calli (va_runV (As := [.int (nI v143_3)]) (rest := []) ⟨hx, hb, hml, hown, hg⟩ (k_accept l D H_136.size xa x0 (nI x1) x2 (nI x3) x4 x5 x6 x7 x8 x9 x10 (nI v143_3)) (cwV 1 hg (gV wd_356 wd_357 wd_358 wd_3 wd_359) rfl rfl rfl (by decide +kernel) ⟨(Nat.le_trans (Nat.le_of_ble_eq_true rfl) hRf), (Nat.le_trans (Nat.le_of_ble_eq_true rfl) hRl)⟩) ⟨Pr.blind, va_recv hK hP (ci := 11) (q0 := 0) rfl rfl, fun U hU hW => ⟨rfl, Pr.at hPc hKc hDc hN hU hW⟩⟩ rfl rfl hl.1 rfl (lv_room (Nat.le_of_ble_eq_true rfl)) dX11_move_137 ⟨(Nat.le_trans (Nat.le_of_ble_eq_true rfl) hRc), (Nat.le_trans (Nat.le_of_ble_eq_true rfl) hRs)⟩) hS (fun q _ h => hFc q h) hFc (fun r_145 M_146 t H_144 locs ht hvm hw hB hz1 hk1 hS => ?_)
                have hp_147 := hw
                obtain ⟨hP1, hK1, hD1⟩ := hB
                rw [ht] at hP1
                obtain ⟨hP, hD⟩ := va_joinQ (X := [(xa, (b11_1 x0 (nI x1) x2 (nI x3) x4 x5 x6 x7 x8 x9 x10))]) (cx := [(xa, (b11_1 x0 (nI x1) x2 (nI x3) x4 x5 x6 x7 x8 x9 x10))]) (wr := []) (w1 := [(xa, (b11_1 x0 (nI x1) x2 (nI x3) x4 x5 x6 x7 x8 0 (-1)))]) (pl := va_pl L M_138) hP hD [0] [] rfl rfl (by decide) (by decide) hk1 hFc hP1 hD1
                have hP : va_P D vwCl ([(xa, (b11_1 x0 (nI x1) x2 (nI x3) x4 x5 x6 x7 x8 0 (-1)))] ++ va_pl L M_138) H_144 := hP
                have hD : va_D A ([(xa, (b11_1 x0 (nI x1) x2 (nI x3) x4 x5 x6 x7 x8 0 (-1)))] ++ va_pl L M_138) := hD
                have hq := Eq.symm hp_147
                subst hq
                have hyes : okMv x1 SX SY k1 k2 k3 k4 := by unfold okMv okH; refine ⟨⟨?_, ?_⟩, ?_, ?_, ?_, ?_, ?_, ?_, ?_, ?_, ?_⟩ <;> first | omega | assumption
                rw [htm] at hV
                have hk5 : (if k5 = 0 then k4 else -k4) = f_113 := by rw [if_neg c_78]; exact ef_113.symm
                rw [← hk5] at hV
                rw [hQ]
                exact W.iret (v := (nI v143_3)) hx hb hr (fun t ht hW9 => ⟨⟨(nI v143_3), M_138, rfl, ⟨hW, hF, hT1, hT10, (by intro n9 l9 hR9; unfold sxMv syMv; rw [if_pos hyes, if_pos hyes]; have hZ := hC.fin hW0 i0 b1 hkn hb9 hV ext.rf (by rw [hF.at i0 (by decide)]) (fun q iq => ⟨iq, cR_c (fr.cv hF (by decide) q iq 3 rfl)⟩) (((hSM.move (t := k2) (d := k3) (s := if k5 = 0 then k4 else -k4) hbd14.1 (by omega) (by omega)).note hbd16 (hR9 hyes))); exact hZ), (by unfold anMv; rw [if_pos hyes]; have h9 := congrFun hV.2.1 14; have h8 : (cV 1 M_138 (rA 2 M_138 b_5 16) 3).toInt = _ := h9; rw [rA_of (j := 16) hM_140 rfl, cV_of (j := 3) hM143 rfl, nI_toInt (by omega)] at h8; have h7 : ((v143_3 : Nat) : Int) = cfx M b_5 14 + 1 := h8; exact congrArg nI (by omega))⟩, ⟨0, by rw [ht]; exact hP, hD⟩⟩, hS.F ht⟩) hS.2.2 dX11_move_140
          · have hz := rfl (a := 0)
            refine lv_if_ne (tgt := 78) hx hb dX11_move_69 (by decide) (fun c_148 => absurd c_148 (by decide)) (fun _ => ?_)
            refine lv_aload_n hx hb dX11_move_72 rfl (lv_at hl 2 rfl) ?_
            refine lv_iconst (v := 3) hx hb dX11_move_73 (by decide) ?_
            have hPc := hP.sub (ws' := [(xa, (b11_1 x0 (nI x1) x2 (nI x3) x4 x5 x6 x7 x8 x9 x10))]) [0] rfl
            have hDc := hD.sub (ws' := [(xa, (b11_1 x0 (nI x1) x2 (nI x3) x4 x5 x6 x7 x8 x9 x10))]) [0] (by decide) rfl
            have hKc := hK.sub (tys' := []) [] rfl
            have hFc := va_free (wc := [(xa, (b11_1 x0 (nI x1) x2 (nI x3) x4 x5 x6 x7 x8 x9 x10))]) hD hS hA [0] rfl
            refine va_calli (va_runV (As := [.int 3]) (rest := []) ⟨hx, hb, hml, hown, hg⟩ (k_refuse l D H_47.size xa x0 (nI x1) x2 (nI x3) x4 x5 x6 x7 x8 x9 x10 3) (cwV 1 hg (gV wd_344 wd_345 wd_346 wd_3 wd_347) rfl rfl rfl (by decide +kernel) ⟨(Nat.le_trans (Nat.le_of_ble_eq_true rfl) hRf), (Nat.le_trans (Nat.le_of_ble_eq_true rfl) hRl)⟩) ⟨Pr.blind, va_recv hK hP (ci := 11) (q0 := 0) rfl rfl, fun U hU hW => ⟨rfl, Pr.at hPc hKc hDc hN hU hW⟩⟩ rfl rfl hl.1 rfl (lv_room (Nat.le_of_ble_eq_true rfl)) dX11_move_74 ⟨(Nat.le_trans (Nat.le_of_ble_eq_true rfl) hRc), (Nat.le_trans (Nat.le_of_ble_eq_true rfl) hRs)⟩) hS (fun q _ h => hFc q h) hFc (fun r_150 M_151 t H_149 locs ht hvm hw hB hz1 hk1 hS => ?_)
            have hp_152 := hw
            obtain ⟨hP1, hK1, hD1⟩ := hB
            rw [ht] at hP1
            obtain ⟨hP, hD⟩ := va_joinQ (X := [(xa, (b11_1 x0 (nI x1) x2 (nI x3) x4 x5 x6 x7 x8 x9 x10))]) (cx := [(xa, (b11_1 x0 (nI x1) x2 (nI x3) x4 x5 x6 x7 x8 x9 x10))]) (wr := []) (w1 := [(xa, (b11_1 x0 (nI x1) x2 (nI x3) x4 x5 x6 x7 x8 3 (-1)))]) (pl := va_pl L M) hP hD [0] [] rfl rfl (by decide) (by decide) hk1 hFc hP1 hD1
            have hP : va_P D vwCl ([(xa, (b11_1 x0 (nI x1) x2 (nI x3) x4 x5 x6 x7 x8 3 (-1)))] ++ va_pl L M) H_149 := hP
            have hD : va_D A ([(xa, (b11_1 x0 (nI x1) x2 (nI x3) x4 x5 x6 x7 x8 3 (-1)))] ++ va_pl L M) := hD
            have hq := Eq.symm hp_152
            subst hq
            have hI_153 : (0 : Int) ≤ (k3 : Int32).toInt := inltI rfl rfl c_42
            have hI_154 : (k3 : Int32).toInt ≤ (999 : Int) := inltI rfl rfl c_43
            have hA_155 : (cV 9 M b_24 0).toInt = ((v46_0 : Nat) : Int) := by rw [cV_of hM46 rfl]; exact nI_toInt (by omega)
            have hA_156 : (cV 9 M b_24 2).toInt = (v46_2 : Int32).toInt := by rw [cV_of hM46 rfl]
            have hA_157 : (cV 9 M b_24 3).toInt = (v46_3 : Int32).toInt := by rw [cV_of hM46 rfl]
            have hA_158 : (cV 9 M b_24 4).toInt = (v46_4 : Int32).toInt := by rw [cV_of hM46 rfl]
            have hA_159 : (cV 9 M b_24 5).toInt = (v46_5 : Int32).toInt := by rw [cV_of hM46 rfl]
            have hA_160 : (cV 9 M b_24 6).toInt = (v46_6 : Int32).toInt := by rw [cV_of hM46 rfl]
            have hA_161 : (cV 9 M b_24 7).toInt = (v46_7 : Int32).toInt := by rw [cV_of hM46 rfl]
            have hno : ¬ okMv x1 SX SY k1 k2 k3 k4 := fun q9 => by unfold okMv okH at q9; first | omega | (obtain ⟨⟨_, _⟩, _, _, _, _, _, _, _, _, _⟩ := q9; first | omega | contradiction)
            rw [hQ]
            exact W.iret (v := (-1)) hx hb hr (fun t ht hW9 => ⟨⟨(-1), M, rfl, ⟨hW, hF, hT1, hT10, (by intro n9 l9 hR9; unfold sxMv syMv; rw [if_neg hno, if_neg hno]; exact hC.mono), (by unfold anMv; rw [if_neg hno])⟩, ⟨3, by rw [ht]; exact hP, hD⟩⟩, hS.F ht⟩) hS.2.2 dX11_move_77
        · have hz := rfl (a := 0)
          refine lv_if_eq (tgt := 72) hx hb dX11_move_60 (by decide) (fun _ => ?_) (fun c_162 => absurd c_162 (by decide))
          refine lv_aload_n hx hb dX11_move_72 rfl (lv_at hl 2 rfl) ?_
          refine lv_iconst (v := 3) hx hb dX11_move_73 (by decide) ?_
          have hPc := hP.sub (ws' := [(xa, (b11_1 x0 (nI x1) x2 (nI x3) x4 x5 x6 x7 x8 x9 x10))]) [0] rfl
          have hDc := hD.sub (ws' := [(xa, (b11_1 x0 (nI x1) x2 (nI x3) x4 x5 x6 x7 x8 x9 x10))]) [0] (by decide) rfl
          have hKc := hK.sub (tys' := []) [] rfl
          have hFc := va_free (wc := [(xa, (b11_1 x0 (nI x1) x2 (nI x3) x4 x5 x6 x7 x8 x9 x10))]) hD hS hA [0] rfl
          refine va_calli (va_runV (As := [.int 3]) (rest := []) ⟨hx, hb, hml, hown, hg⟩ (k_refuse l D H_37.size xa x0 (nI x1) x2 (nI x3) x4 x5 x6 x7 x8 x9 x10 3) (cwV 1 hg (gV wd_344 wd_345 wd_346 wd_3 wd_347) rfl rfl rfl (by decide +kernel) ⟨(Nat.le_trans (Nat.le_of_ble_eq_true rfl) hRf), (Nat.le_trans (Nat.le_of_ble_eq_true rfl) hRl)⟩) ⟨Pr.blind, va_recv hK hP (ci := 11) (q0 := 0) rfl rfl, fun U hU hW => ⟨rfl, Pr.at hPc hKc hDc hN hU hW⟩⟩ rfl rfl hl.1 rfl (lv_room (Nat.le_of_ble_eq_true rfl)) dX11_move_74 ⟨(Nat.le_trans (Nat.le_of_ble_eq_true rfl) hRc), (Nat.le_trans (Nat.le_of_ble_eq_true rfl) hRs)⟩) hS (fun q _ h => hFc q h) hFc (fun r_164 M_165 t H_163 locs ht hvm hw hB hz1 hk1 hS => ?_)
          have hp_166 := hw
          obtain ⟨hP1, hK1, hD1⟩ := hB
          rw [ht] at hP1
          obtain ⟨hP, hD⟩ := va_joinQ (X := [(xa, (b11_1 x0 (nI x1) x2 (nI x3) x4 x5 x6 x7 x8 x9 x10))]) (cx := [(xa, (b11_1 x0 (nI x1) x2 (nI x3) x4 x5 x6 x7 x8 x9 x10))]) (wr := []) (w1 := [(xa, (b11_1 x0 (nI x1) x2 (nI x3) x4 x5 x6 x7 x8 3 (-1)))]) (pl := va_pl L M) hP hD [0] [] rfl rfl (by decide) (by decide) hk1 hFc hP1 hD1
          have hP : va_P D vwCl ([(xa, (b11_1 x0 (nI x1) x2 (nI x3) x4 x5 x6 x7 x8 3 (-1)))] ++ va_pl L M) H_163 := hP
          have hD : va_D A ([(xa, (b11_1 x0 (nI x1) x2 (nI x3) x4 x5 x6 x7 x8 3 (-1)))] ++ va_pl L M) := hD
          have hq := Eq.symm hp_166
          subst hq
          have hno : ¬ okMv x1 SX SY k1 k2 k3 k4 := fun q9 => by unfold okMv okH at q9; first | omega | (obtain ⟨⟨_, _⟩, _, _, _, _, _, _, _, _, _⟩ := q9; first | omega | contradiction)
          rw [hQ]
          exact W.iret (v := (-1)) hx hb hr (fun t ht hW9 => ⟨⟨(-1), M, rfl, ⟨hW, hF, hT1, hT10, (by intro n9 l9 hR9; unfold sxMv syMv; rw [if_neg hno, if_neg hno]; exact hC.mono), (by unfold anMv; rw [if_neg hno])⟩, ⟨3, by rw [ht]; exact hP, hD⟩⟩, hS.F ht⟩) hS.2.2 dX11_move_77
      · have hz := rfl (a := 0)
        refine lv_if_ne (tgt := 54) hx hb dX11_move_45 (by decide) (fun c_167 => absurd c_167 (by decide)) (fun _ => ?_)
        refine lv_aload_n hx hb dX11_move_48 rfl (lv_at hl 2 rfl) ?_
        refine lv_iconst (v := 2) hx hb dX11_move_49 (by decide) ?_
        have hPc := hP.sub (ws' := [(xa, (b11_1 x0 (nI x1) x2 (nI x3) x4 x5 x6 x7 x8 x9 x10))]) [0] rfl
        have hDc := hD.sub (ws' := [(xa, (b11_1 x0 (nI x1) x2 (nI x3) x4 x5 x6 x7 x8 x9 x10))]) [0] (by decide) rfl
        have hKc := hK.sub (tys' := []) [] rfl
        have hFc := va_free (wc := [(xa, (b11_1 x0 (nI x1) x2 (nI x3) x4 x5 x6 x7 x8 x9 x10))]) hD hS hA [0] rfl
        refine va_calli (va_runV (As := [.int 2]) (rest := []) ⟨hx, hb, hml, hown, hg⟩ (k_refuse l D H_30.size xa x0 (nI x1) x2 (nI x3) x4 x5 x6 x7 x8 x9 x10 2) (cwV 1 hg (gV wd_344 wd_345 wd_346 wd_3 wd_347) rfl rfl rfl (by decide +kernel) ⟨(Nat.le_trans (Nat.le_of_ble_eq_true rfl) hRf), (Nat.le_trans (Nat.le_of_ble_eq_true rfl) hRl)⟩) ⟨Pr.blind, va_recv hK hP (ci := 11) (q0 := 0) rfl rfl, fun U hU hW => ⟨rfl, Pr.at hPc hKc hDc hN hU hW⟩⟩ rfl rfl hl.1 rfl (lv_room (Nat.le_of_ble_eq_true rfl)) dX11_move_50 ⟨(Nat.le_trans (Nat.le_of_ble_eq_true rfl) hRc), (Nat.le_trans (Nat.le_of_ble_eq_true rfl) hRs)⟩) hS (fun q _ h => hFc q h) hFc (fun r_169 M_170 t H_168 locs ht hvm hw hB hz1 hk1 hS => ?_)
        have hp_171 := hw
        obtain ⟨hP1, hK1, hD1⟩ := hB
        rw [ht] at hP1
        obtain ⟨hP, hD⟩ := va_joinQ (X := [(xa, (b11_1 x0 (nI x1) x2 (nI x3) x4 x5 x6 x7 x8 x9 x10))]) (cx := [(xa, (b11_1 x0 (nI x1) x2 (nI x3) x4 x5 x6 x7 x8 x9 x10))]) (wr := []) (w1 := [(xa, (b11_1 x0 (nI x1) x2 (nI x3) x4 x5 x6 x7 x8 2 (-1)))]) (pl := va_pl L M) hP hD [0] [] rfl rfl (by decide) (by decide) hk1 hFc hP1 hD1
        have hP : va_P D vwCl ([(xa, (b11_1 x0 (nI x1) x2 (nI x3) x4 x5 x6 x7 x8 2 (-1)))] ++ va_pl L M) H_168 := hP
        have hD : va_D A ([(xa, (b11_1 x0 (nI x1) x2 (nI x3) x4 x5 x6 x7 x8 2 (-1)))] ++ va_pl L M) := hD
        have hq := Eq.symm hp_171
        subst hq
        have hno : ¬ okMv x1 SX SY k1 k2 k3 k4 := fun q9 => by unfold okMv okH at q9; first | omega | (obtain ⟨⟨_, _⟩, _, _, _, _, _, _, _, _, _⟩ := q9; first | omega | contradiction)
        rw [hQ]
        exact W.iret (v := (-1)) hx hb hr (fun t ht hW9 => ⟨⟨(-1), M, rfl, ⟨hW, hF, hT1, hT10, (by intro n9 l9 hR9; unfold sxMv syMv; rw [if_neg hno, if_neg hno]; exact hC.mono), (by unfold anMv; rw [if_neg hno])⟩, ⟨2, by rw [ht]; exact hP, hD⟩⟩, hS.F ht⟩) hS.2.2 dX11_move_53
