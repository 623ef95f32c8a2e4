theorem cn_pos {l : Nat → Int32} {n i : Nat} {v : Int32} (hi : i < n) (h : l i = v) : 1 ≤ cn l n v := by
  unfold cn
  exact List.countP_pos_iff.mpr ⟨i, List.mem_range.mpr hi, by simp [h]⟩
noncomputable def anUd (n : Nat) (SX : Nat → Nat → Int) (h : Int32) : Int32 := (@ite _ (okH n h) (Classical.propDecidable _) ((if SX h.toNatClampNeg 16 = 0 then 0 else 1)) (-1))
noncomputable def sxUd (n : Nat) (SX : Nat → Nat → Int) (SY : Nat → Nat → Nat → Int32) (h : Int32) : Nat → Nat → Int := (@ite _ (okH n h ∧ SX h.toNatClampNeg 16 ≠ 0) (Classical.propDecidable _) ((if SY h.toNatClampNeg 43 (SX h.toNatClampNeg 16 - 1).toNat = -1 then va_up SX h.toNatClampNeg (va_up (va_up (SX h.toNatClampNeg) 16 (SX h.toNatClampNeg 16 - 1)) 14 (SX h.toNatClampNeg 14 - 1)) else va_up SX h.toNatClampNeg (va_up (SX h.toNatClampNeg) 16 (SX h.toNatClampNeg 16 - 1)))) (SX))
noncomputable def syUd (n : Nat) (SX : Nat → Nat → Int) (SY : Nat → Nat → Nat → Int32) (h : Int32) : Nat → Nat → Nat → Int32 := (@ite _ (okH n h ∧ SX h.toNatClampNeg 16 ≠ 0) (Classical.propDecidable _) ((if SY h.toNatClampNeg 43 (SX h.toNatClampNeg 16 - 1).toNat = -1 then SY else va_up SY h.toNatClampNeg (va_up (SY h.toNatClampNeg) 3 (upd (SY h.toNatClampNeg 3) (SY h.toNatClampNeg 43 (SX h.toNatClampNeg 16 - 1).toNat).toNatClampNeg (SY h.toNatClampNeg 3 (SY h.toNatClampNeg 43 (SX h.toNatClampNeg 16 - 1).toNat).toNatClampNeg - 1))))) (SY))
def okLv (n : Nat) (SX : Nat → Nat → Int) (SY : Nat → Nat → Nat → Int32) (h s d i y : Int32) : Prop := okHS n h s ∧ hold (SY h.toNatClampNeg) s.toNatClampNeg ∧ 1 ≤ i.toInt ∧ i.toInt ≤ 10 ∧ 0 ≤ y.toInt ∧ y.toInt ≤ 5 ∧ SX h.toNatClampNeg 1 < d.toInt ∧ d.toInt < 1000 ∧ (SY h.toNatClampNeg 21 ((SY h.toNatClampNeg 9 s.toNatClampNeg).toInt - 1).toNat).toInt < d.toInt
/-- the tenure that a seat holds -/
def stN (SY : Nat → Nat → Nat → Int32) (h s : Int32) : Nat := ((SY h.toNatClampNeg 9 s.toNatClampNeg).toInt - 1).toNat
noncomputable def anLv (n : Nat) (SX : Nat → Nat → Int) (SY : Nat → Nat → Nat → Int32) (h s d i y : Int32) : Int32 := (@ite _ (okLv n SX SY h s d i y) (Classical.propDecidable _) (nI (stN SY h s)) (-1))
noncomputable def syLv (n : Nat) (SX : Nat → Nat → Int) (SY : Nat → Nat → Nat → Int32) (h s d i y : Int32) : Nat → Nat → Nat → Int32 := (@ite _ (okLv n SX SY h s d i y) (Classical.propDecidable _) (va_up SY h.toNatClampNeg (va_up (va_up (va_up (SY h.toNatClampNeg) 22 (upd (SY h.toNatClampNeg 22) (stN SY h s) d)) 23 (upd (SY h.toNatClampNeg 23) (stN SY h s) i)) 24 (upd (SY h.toNatClampNeg 24) (stN SY h s) y))) (SY))
theorem SIM.leave {k : Nat} {T : Int} {np : Nat} {PK PT : Nat → Int32} {x : Nat → Int} {y : Nat → Nat → Int32} {X : Nat → Int} {Y : Nat → Nat → Int32} {t : Nat} {d i z : Int32} (h : SIM k T np PK PT x y X Y) (hd : 0 ≤ d.toInt) : SIM k T np PK PT x (va_up (va_up (va_up y 22 (upd (y 22) t d)) 23 (upd (y 23) t i)) 24 (upd (y 24) t z)) X (va_up (va_up (va_up Y 22 (upd (Y 22) t d)) 23 (upd (Y 23) t i)) 24 (upd (Y 24) t z)) := by
  refine ⟨h.x0, h.x1, h.x10, h.x11, h.x12, h.x13, h.x14, h.x15, h.x16, h.x20, h.pl, fun j hj => ?_, h.tn, h.se, h.ru, h.en, h.mo, h.me, h.un, h.ow, h.ob, h.wh, ⟨h.ex.tw, fun j hj q => ?_, h.ex.lo, h.ex.lz, h.ex.lb, h.ex.et⟩⟩
  rotate_left
  · by_cases w : j = t
    · rw [w] at q
      have q2 : upd (Y 22) t d t = -1 := q
      rw [upd_self] at q2
      rw [q2] at hd
      exact absurd hd (by decide)
    · have q2 : upd (Y 22) t d j = -1 := q
      rw [upd_ne _ _ w] at q2
      show upd (Y 23) t i j = 0
      rw [upd_ne _ _ w]
      exact h.ex.iz j hj q2
  have g := h.te j hj
  show y 19 j = Y 19 j ∧ y 20 j = Y 20 j ∧ y 21 j = Y 21 j ∧ upd (y 22) t d j = upd (Y 22) t d j ∧ upd (y 23) t i j = upd (Y 23) t i j ∧ upd (y 24) t z j = upd (Y 24) t z j ∧ y 25 j = Y 25 j ∧ y 27 j = ownP PK PT (Y 19 j)
  by_cases q : j = t
  · subst q
    rw [upd_self, upd_self, upd_self, upd_self, upd_self, upd_self]
    exact ⟨g.1, g.2.1, g.2.2.1, rfl, rfl, rfl, g.2.2.2.2.2.2⟩
  · rw [upd_ne _ _ q, upd_ne _ _ q, upd_ne _ _ q, upd_ne _ _ q, upd_ne _ _ q, upd_ne _ _ q]
    exact g
set_option maxHeartbeats 4000000 in
set_option maxRecDepth 100000 in
theorem e_dropE (l : Launch) (D : va_G) (cy : Nat → ClassId) (K : Kp) (L : List Nat) (M : Hp) (sz : Nat) (ha : Nat) (k1 : Int32) (Bo : Nat → Nat × Nat) (Mb : Hp) (Xv : Nat → Int) (Yv : Nat → Nat → Int32) (hW : WOK cy K L M) (iH : isk K L ha 2 0) (hV : VC Bo K L Mb M ha Xv Yv) (hd : (0 ≤ k1.toInt ∧ k1.toInt ≤ 999)) (hp : 1 ≤ (Yv 3 k1.toNatClampNeg).toInt) : Met l yX2_dropEntry (wsM yX2_dropEntry cX2_dropEntry 3 none) ({ frames := 2, cells := 0, slots := 0, locals := 41 }) (va_Pc [.ref ha, .int k1] (PG D cy [] L M sz)) (va_Qv (fun (M9 : Hp) => WOK cy K L M9 ∧ fr K L [3] M M9 ∧ fT 3 K L [2] M M9 ∧ (VC Bo K L Mb M9 ha Xv (va_up Yv 3 (upd (Yv 3) k1.toNatClampNeg (Yv 3 k1.toNatClampNeg - 1)))) ∧ (True)) (fun M9 t => PQ D [] L M9 (va_A ([] ++ va_pl L M) sz) t) (va_A ([] ++ va_pl L M) sz)) 0 0 (va_A ([] ++ va_pl L M) sz) := by
  refine Met.ofW (cc := cX2_dropEntry) (maxL := 3) (ret := none) (by decide) rfl ?_
  intro p e s m args below meth c s₁ B hml hv
  obtain ⟨rfl, hsz, hP, hK, hD0, hN⟩ := hv
  have hx := B.exec
  have hb := B.bytes
  have hr := B.returns
  have hts := atoms_spec (ws := (wsM yX2_dropEntry cX2_dropEntry 3 none)) B.pre
  have hg : ∀ w ∈ lw_good, w.before _ s = true := fun w h => hts w (List.mem_cons_of_mem _ h)
  have hown : s.vm.findClass RX2 = some m.cls := findClass_of_methodNamed B.named
  have hlocks := B.notSynchronized
  subst hsz
  have hD := hD0.self (sz := s.heap.size)
  generalize hAe : va_A ([] ++ va_pl L M) s.heap.size = A at hD ⊢
  have hA : ∀ q : Nat, s.heap.size ≤ q → A q := fun q h => by rw [← hAe]; exact Or.inr h
  have hS : va_S A s.heap s.heap [] := va_S.rf
  have hl := lv_entry ([.ref ha, .int k1]) (n := 3) (Nat.le_of_ble_eq_true rfl)
  rw [lg_entry_eq]
  generalize (lg_sl ([.ref ha, .int k1]) ++ List.replicate (3 - (lg_sl ([.ref ha, .int k1])).length) Slot.unset).toArray = ls at hl ⊢
  refine W.nameQ (fun Q hQ => ?_)
  refine W.nameR (fun R hR => ?_)
  have hRf : 2 ≤ R.frames := by rw [hR]; exact Nat.le_of_ble_eq_true rfl
  have hRl : 41 ≤ R.locals := by rw [hR]; exact Nat.le_of_ble_eq_true rfl
  have hRc : 0 ≤ R.cells := by rw [hR]; exact Nat.le_of_ble_eq_true rfl
  have hRs : 0 ≤ R.slots := by rw [hR]; exact Nat.le_of_ble_eq_true rfl
  have hF : fr K L [3] M M := fr.rf
  have hT3 : fT 3 K L [2] M M := fT.rf
  have hl : lv_has ls 3 [(0, .ref ha), (1, .int k1)] := hl
  have hcd : (k1.toNatClampNeg : Int) = k1.toInt := clT (by omega)
  have hdn : k1.toNatClampNeg < 1000 := by omega
  refine lv_aload_n hx hb dX2_dropEntry_0 rfl (lv_at hl 0 rfl) ?_
  refine lv_iload_n hx hb dX2_dropEntry_1 rfl (lv_at hl 1 rfl) ?_
  obtain ⟨v1_0, v1_1, v1_2, v1_3, v1_4, v1_5, v1_6, v1_7, v1_8, v1_9, v1_10, v1_11, v1_12, v1_13, v1_14, v1_15, v1_16, v1_17, v1_18, v1_19, hM1, h1_3, h1_4, h1_5, h1_6, h1_7, h1_8, h1_9, h1_10, h1_11, h1_12, h1_13, h1_16, h1_17, h1_18, h1_19⟩ := hW.open_2 iH
  have hPc : va_P D vwCl ([] ++ va_pl L M) s.heap := hP
  have hDc : va_D A ([] ++ va_pl L M) := hD
  have hFc : ∀ q, va_A ([] ++ va_pl L M) s.heap.size q → A q := pg_free hDc hS hA
  refine va_callq (va_runV (As := [.int k1]) (rest := []) ⟨hx, hb, hml, hown, hg⟩ (e_X2_leafOn l D cy K L M s.heap.size ha k1  hW iH) (cwV 1 hg (gV wd_70 wd_71 wd_72 wd_57 wd_73) rfl rfl rfl (by decide +kernel) ⟨(Nat.le_trans (Nat.le_of_ble_eq_true rfl) hRf), (Nat.le_trans (Nat.le_of_ble_eq_true rfl) hRl)⟩) ⟨PG.blind, pg_recv hK hP iH.1 hM1 rfl, fun U hU hW => ⟨rfl, PG.at hPc hK hDc hN hU hW⟩⟩ rfl rfl hl.1 rfl (lv_room (Nat.le_of_ble_eq_true rfl)) dX2_dropEntry_2 ⟨(Nat.le_trans (Nat.le_of_ble_eq_true rfl) hRc), (Nat.le_trans (Nat.le_of_ble_eq_true rfl) hRs)⟩) hS (fun q _ h => hFc q h) hFc (fun r_3 M_4 t H_2 locs ht hvm hw hB hz1 hk1 hS => ?_)
  have hp_5 := hw
  obtain ⟨hP1, hD1⟩ := hB
  rw [ht] at hP1
  have hP : va_P D vwCl ([] ++ va_pl L M) H_2 := hP1
  have hD : va_D A ([] ++ va_pl L M) := hD1.mono hFc
  obtain ⟨hp_5, hqx⟩ := hp_5
  rcases r_3 with _ | b_6
  · have hz := rfl (a := 0)
    have h0 := (lk_lf0 ((hqx.2 rfl).resolve_left (fun z9 => z9 (by omega))) hdn).2
    rw [hV.2.2.1] at h0
    rw [h0, show (0 : Int32).toInt = 0 from rfl] at hp
    refine lv_astore_nN (lv' := [(2, .null), (0, .ref ha), (1, .int k1)]) hx hb dX2_dropEntry_5 rfl hl (by decide) rfl (fun ls hl => ?_)
    refine lv_aload_nN hx hb dX2_dropEntry_6 rfl (lv_at hl 0 rfl) ?_
    refine lv_ifnullN (tgt := 14) hx hb dX2_dropEntry_7 (by decide) ?_
    rw [hQ]
    exact W.vret hx hb hr (fun t ht hW9 => ⟨⟨M, rfl, ⟨hW, hF, hT3, (by exfalso; omega), trivial⟩, ⟨by rw [ht]; exact hP, hD⟩⟩, hS.F ht⟩) hS.2.2 dX2_dropEntry_14
  · have hb_7 := hp_5 b_6 rfl
    obtain ⟨hdc, hsl⟩ := hqx.1 _ rfl
    have hlk := (lk_lf hsl hdn).2.1
    rw [hV.2.2.1] at hlk
    have hlk2 := congrArg Int32.toInt hlk
    refine lv_astore_n (lv' := [(2, .ref b_6), (0, .ref ha), (1, .int k1)]) hx hb dX2_dropEntry_5 rfl hl (by decide) rfl (fun ls hl => ?_)
    refine lv_aload_n hx hb dX2_dropEntry_6 rfl (lv_at hl 0 rfl) ?_
    refine lv_ifnull hx hb dX2_dropEntry_7 ?_
    refine lv_aload_n hx hb dX2_dropEntry_10 rfl (lv_at hl 0 rfl) ?_
    obtain ⟨n8, v8_0, v8_1, v8_2, hM8, h8_1, h8_2, y8_0⟩ := hW.open_3 hb_7
    have hPc : va_P D vwCl ([] ++ va_pl L M) H_2 := hP
    have hDc : va_D A ([] ++ va_pl L M) := hD
    have hFc : ∀ q, va_A ([] ++ va_pl L M) H_2.size q → A q := pg_free hDc hS hA
    have hA_9 : (cV 2 M ha 0).toInt = (v1_0 : Int32).toInt := by rw [cV_of hM1 rfl]
    have hA_10 : (cV 2 M ha 1).toInt = (v1_1 : Int32).toInt := by rw [cV_of hM1 rfl]
    have hA_11 : (cV 2 M ha 2).toInt = (v1_2 : Int32).toInt := by rw [cV_of hM1 rfl]
    have hA_12 : (cV 2 M ha 4).toInt = ((v1_4 : Nat) : Int) := by rw [cV_of hM1 rfl]; exact nI_toInt (by omega)
    have hA_13 : (cV 2 M ha 5).toInt = ((v1_5 : Nat) : Int) := by rw [cV_of hM1 rfl]; exact nI_toInt (by omega)
    have hA_14 : (cV 2 M ha 9).toInt = ((v1_9 : Nat) : Int) := by rw [cV_of hM1 rfl]; exact nI_toInt (by omega)
    have hA_15 : (cV 2 M ha 11).toInt = ((v1_11 : Nat) : Int) := by rw [cV_of hM1 rfl]; exact nI_toInt (by omega)
    have hA_16 : (cV 2 M ha 15).toInt = (v1_15 : Int32).toInt := by rw [cV_of hM1 rfl]
    have hA_17 : (cV 3 M b_6 0).toInt = (v8_0 : Int32).toInt := by rw [cV_of hM8 rfl]
    have hA_18 : (cV 3 M b_6 2).toInt = ((v8_2 : Nat) : Int) := by rw [cV_of hM8 rfl]; exact nI_toInt (by omega)
    refine va_callv (va_runV (As := []) (rest := []) ⟨hx, hb, hml, hown, hg⟩ (e_dropl l D cy K L M H_2.size b_6 Bo Mb ha Xv Yv k1.toNatClampNeg n8 v8_0 v8_1 v8_2 hW hb_7 iH hV hsl hdn (by omega) hM8 h8_1 h8_2 y8_0) (cwV 0 hg (gV wd_78 wd_79 wd_80 wd_39 wd_81) rfl rfl rfl (by decide +kernel) ⟨(Nat.le_trans (Nat.le_of_ble_eq_true rfl) hRf), (Nat.le_trans (Nat.le_of_ble_eq_true rfl) hRl)⟩) ⟨PG.blind, pg_recv hK hP hb_7.1 hM8 rfl, fun U hU hW => ⟨rfl, PG.at hPc hK hDc hN hU hW⟩⟩ rfl rfl hl.1 rfl (lv_room (Nat.le_of_ble_eq_true rfl)) dX2_dropEntry_11 ⟨(Nat.le_trans (Nat.le_of_ble_eq_true rfl) hRc), (Nat.le_trans (Nat.le_of_ble_eq_true rfl) hRs)⟩) hS (fun q _ h => hFc q h) hFc (fun M_21 t H_19 locs ht hvm hw hB hz1 hk1 hS => ?_)
    have hWb := hW
    obtain ⟨hW, hF2, gT3, hVP, hp_22⟩ := hw
    obtain ⟨hP1, hD1⟩ := hB
    rw [ht] at hP1
    have hP : va_P D vwCl ([] ++ va_pl L M_21) H_19 := hP1
    have hD : va_D A ([] ++ va_pl L M_21) := hD1.mono hFc
    have hM_23 : M_21 ha = (b2_2 v1_0 v1_1 v1_2 v1_3 (nI v1_4) (nI v1_5) v1_6 v1_7 v1_8 (nI v1_9) v1_10 (nI v1_11) v1_12 v1_13 v1_14 v1_15 v1_16 v1_17 v1_18 v1_19) := (hF2.at iH (by decide)).trans hM1
    have hF : fr K L [3] M M_21 := hF.tr hF2 (by decide)
    have hT3 : fT 3 K L [2] M M_21 := hT3.tr gT3 (by decide)
    have hV : VC Bo K L Mb M_21 ha Xv (va_up Yv 3 (upd (Yv 3) k1.toNatClampNeg (cV 3 M b_6 2 - 1))) := hVP
    have hs_24 : RFc (M_21 (rA 2 M_21 ha 12)) k1.toNatClampNeg = some b_6 := by rw [rA_c ((fr.cv hF2 (by decide)) _ iH 12 rfl), hF2.at (KH hWb iH).2.2.2.2.2.1 (by decide)]; exact hsl
    rw [← hlk] at hV
    rw [hQ]
    exact W.vret hx hb hr (fun t ht hW9 => ⟨⟨M_21, rfl, ⟨hW, hF, hT3, hV, trivial⟩, ⟨by rw [ht]; exact hP, hD⟩⟩, hS.F ht⟩) hS.2.2 dX2_dropEntry_14
set_option maxHeartbeats 4000000 in
set_option maxRecDepth 100000 in
theorem x_undo (l : Launch) (D : va_G) (cy : Nat → ClassId) (K : Kp) (L : List Nat) (M : Hp) (sz : Nat) (xa : Nat) (x0 : Nat) (x1 : Nat) (x2 : Nat) (x3 : Nat) (x4 : Nat) (x5 : Nat) (x6 : Nat) (x7 : Int32) (x8 : Nat) (x9 : Int32) (x10 : Int32) (k1 : Int32) (Bo : Nat → Nat × Nat) (T : Int) (PK : Nat → Int32) (PT : Nat → Int32) (SX : Nat → Nat → Int) (SY : Nat → Nat → Nat → Int32) (hW : WOK cy K L M) (i0 : isk K L x0 17 8) (b1 : x1 ≤ 8) (i2 : isk K L x2 19 40) (b3 : x3 ≤ 40) (i4 : isk K L x4 7 0) (i5 : isk K L x5 5 0) (i6 : isk K L x6 60 24) (i8 : isk K L x8 73 25) (hC : CX Bo K L x0 x1 T x3 PK PT SX SY M) (hSV : ∀ k, k < x1 → SV (SX k) (SY k)) (hHI : ∀ k, k < x1 → HI (SX k) (SY k)) (hT : (0 ≤ T ∧ T ≤ 900000)) : Met l yX11_undo (wsM yX11_undo cX11_undo 4 (some .int)) ({ frames := 3, cells := 0, slots := 0, locals := 63 }) (va_Pc [.ref xa, .int k1] (PG D cy [(xa, (b11_1 x0 (nI x1) x2 (nI x3) x4 x5 x6 x7 x8 x9 x10))] L M sz)) (va_Qi (fun (r : Int32) (M9 : Hp) => WOK cy K L M9 ∧ fr K L [1, 3, 10] M M9 ∧ fT 3 K L [2] M M9 ∧ fT 1 K L [3] M M9 ∧ fT 10 K L [1, 2] M M9 ∧ (CX Bo K L x0 x1 (T + 1) x3 PK PT (sxUd x1 SX SY k1) (syUd x1 SX SY k1) M9) ∧ ((r = anUd x1 SX k1))) (fun M9 t => ∃ (w9 : Int32), PQ D [(xa, (b11_1 x0 (nI x1) x2 (nI x3) x4 x5 x6 x7 x8 w9 (-1)))] L M9 (va_A ([(xa, (b11_1 x0 (nI x1) x2 (nI x3) x4 x5 x6 x7 x8 x9 x10))] ++ va_pl L M) sz) t) (va_A ([(xa, (b11_1 x0 (nI x1) x2 (nI x3) x4 x5 x6 x7 x8 x9 x10))] ++ va_pl L M) sz)) 0 0 (va_A ([(xa, (b11_1 x0 (nI x1) x2 (nI x3) x4 x5 x6 x7 x8 x9 x10))] ++ va_pl L M) sz) := by
  refine Met.ofW (cc := cX11_undo) (maxL := 4) (ret := (some .int)) (by decide) rfl ?_
  intro p e s m args below meth c s₁ B hml hv
  obtain ⟨rfl, hsz, hP, hK, hD0, hN⟩ := hv
  have hx := B.exec
  have hb := B.bytes
  have hr := B.returns
  have hts := atoms_spec (ws := (wsM yX11_undo cX11_undo 4 (some .int))) B.pre
  have hg : ∀ w ∈ lw_good, w.before _ s = true := fun w h => hts w (List.mem_cons_of_mem _ h)
  have hown : s.vm.findClass RX11 = some m.cls := findClass_of_methodNamed B.named
  have hlocks := B.notSynchronized
  subst hsz
  have hD := hD0.self (sz := s.heap.size)
  generalize hAe : va_A ([(xa, (b11_1 x0 (nI x1) x2 (nI x3) x4 x5 x6 x7 x8 x9 x10))] ++ va_pl L M) s.heap.size = A at hD ⊢
  have hA : ∀ q : Nat, s.heap.size ≤ q → A q := fun q h => by rw [← hAe]; exact Or.inr h
  have hS : va_S A s.heap s.heap [] := va_S.rf
  have hl := lv_entry ([.ref xa, .int k1]) (n := 4) (Nat.le_of_ble_eq_true rfl)
  rw [lg_entry_eq]
  generalize (lg_sl ([.ref xa, .int k1]) ++ List.replicate (4 - (lg_sl ([.ref xa, .int k1])).length) Slot.unset).toArray = ls at hl ⊢
  refine W.nameQ (fun Q hQ => ?_)
  refine W.nameR (fun R hR => ?_)
  have hRf : 3 ≤ R.frames := by rw [hR]; exact Nat.le_of_ble_eq_true rfl
  have hRl : 63 ≤ R.locals := by rw [hR]; exact Nat.le_of_ble_eq_true rfl
  have hRc : 0 ≤ R.cells := by rw [hR]; exact Nat.le_of_ble_eq_true rfl
  have hRs : 0 ≤ R.slots := by rw [hR]; exact Nat.le_of_ble_eq_true rfl
  have hF : fr K L [1, 3, 10] M M := fr.rf
  have hT3 : fT 3 K L [2] M M := fT.rf
  have hT1 : fT 1 K L [3] M M := fT.rf
  have hT10 : fT 10 K L [1, 2] M M := fT.rf
  have hl : lv_has ls 4 [(0, .ref xa), (1, .int k1)] := hl
  have hW0 := hW
  refine lv_aload_n hx hb dX11_undo_0 rfl (lv_at hl 0 rfl) ?_
  refine lv_iload_n hx hb dX11_undo_1 rfl (lv_at hl 1 rfl) ?_
  have hPc : va_P D vwCl ([(xa, (b11_1 x0 (nI x1) x2 (nI x3) x4 x5 x6 x7 x8 x9 x10))] ++ va_pl L M) s.heap := hP
  have hDc : va_D A ([(xa, (b11_1 x0 (nI x1) x2 (nI x3) x4 x5 x6 x7 x8 x9 x10))] ++ va_pl L M) := hD
  have hFc : ∀ q, va_A ([(xa, (b11_1 x0 (nI x1) x2 (nI x3) x4 x5 x6 x7 x8 x9 x10))] ++ va_pl L M) s.heap.size q → A q := pg_free hDc hS hA
  refine va_callq (va_runV (As := [.int k1]) (rest := []) ⟨hx, hb, hml, hown, hg⟩ (e_houseAt l D cy K L M s.heap.size xa x0 x1 x2 x3 x4 x5 x6 x7 x8 x9 x10 k1 Bo T PK PT SX SY  hW i0 b1 i2 b3 i4 i5 i6 i8 hC) (cwV 1 hg (gV wd_340 wd_341 wd_342 wd_3 wd_343) rfl rfl rfl (by decide +kernel) ⟨(Nat.le_trans (Nat.le_of_ble_eq_true rfl) hRf), (Nat.le_trans (Nat.le_of_ble_eq_true rfl) hRl)⟩) ⟨PG.blind, va_recv hK hP (ci := 11) (q0 := 0) rfl rfl, fun U hU hW => ⟨rfl, PG.at hPc hK hDc hN hU hW⟩⟩ rfl rfl hl.1 rfl (lv_room (Nat.le_of_ble_eq_true rfl)) dX11_undo_2 ⟨(Nat.le_trans (Nat.le_of_ble_eq_true rfl) hRc), (Nat.le_trans (Nat.le_of_ble_eq_true rfl) hRs)⟩) hS (fun q _ h => hFc q h) hFc (fun r_2 M_3 t H_1 locs ht hvm hw hB hz1 hk1 hS => ?_)
  have hp_4 := hw
  obtain ⟨hP1, hD1⟩ := hB
  rw [ht] at hP1
  have hP : va_P D vwCl ([(xa, (b11_1 x0 (nI x1) x2 (nI x3) x4 x5 x6 x7 x8 x9 x10))] ++ va_pl L M) H_1 := hP1
  have hD : va_D A ([(xa, (b11_1 x0 (nI x1) x2 (nI x3) x4 x5 x6 x7 x8 x9 x10))] ++ va_pl L M) := hD1.mono hFc
  obtain ⟨hp_4, hqx⟩ := hp_4
  rcases r_2 with _ | b_5
  · have hz := rfl (a := 0)
    refine lv_astore_nN (lv' := [(2, .null), (0, .ref xa), (1, .int k1)]) hx hb dX11_undo_5 rfl hl (by decide) rfl (fun ls hl => ?_)
    refine lv_aload_nN hx hb dX11_undo_6 rfl (lv_at hl 0 rfl) ?_
    refine lv_ifnonnullN hx hb dX11_undo_7 ?_
    refine lv_aload_n hx hb dX11_undo_10 rfl (lv_at hl 1 rfl) ?_
    refine lv_iconst (v := 1) hx hb dX11_undo_11 (by decide) ?_
    have hPc := hP.sub (ws' := [(xa, (b11_1 x0 (nI x1) x2 (nI x3) x4 x5 x6 x7 x8 x9 x10))]) [0] rfl
    have hDc := hD.sub (ws' := [(xa, (b11_1 x0 (nI x1) x2 (nI x3) x4 x5 x6 x7 x8 x9 x10))]) [0] (by decide) rfl
    have hKc := hK.sub (tys' := []) [] rfl
    have hFc := va_free (wc := [(xa, (b11_1 x0 (nI x1) x2 (nI x3) x4 x5 x6 x7 x8 x9 x10))]) hD hS hA [0] rfl
    refine va_calli (va_runV (As := [.int 1]) (rest := []) ⟨hx, hb, hml, hown, hg⟩ (k_refuse l D H_1.size xa x0 (nI x1) x2 (nI x3) x4 x5 x6 x7 x8 x9 x10 1) (cwV 1 hg (gV wd_344 wd_345 wd_346 wd_3 wd_347) rfl rfl rfl (by decide +kernel) ⟨(Nat.le_trans (Nat.le_of_ble_eq_true rfl) hRf), (Nat.le_trans (Nat.le_of_ble_eq_true rfl) hRl)⟩) ⟨Pr.blind, va_recv hK hP (ci := 11) (q0 := 0) rfl rfl, fun U hU hW => ⟨rfl, Pr.at hPc hKc hDc hN hU hW⟩⟩ rfl rfl hl.1 rfl (lv_room (Nat.le_of_ble_eq_true rfl)) dX11_undo_12 ⟨(Nat.le_trans (Nat.le_of_ble_eq_true rfl) hRc), (Nat.le_trans (Nat.le_of_ble_eq_true rfl) hRs)⟩) hS (fun q _ h => hFc q h) hFc (fun r_7 M_8 t H_6 locs ht hvm hw hB hz1 hk1 hS => ?_)
    have hp_9 := hw
    obtain ⟨hP1, hK1, hD1⟩ := hB
    rw [ht] at hP1
    obtain ⟨hP, hD⟩ := va_joinQ (X := [(xa, (b11_1 x0 (nI x1) x2 (nI x3) x4 x5 x6 x7 x8 x9 x10))]) (cx := [(xa, (b11_1 x0 (nI x1) x2 (nI x3) x4 x5 x6 x7 x8 x9 x10))]) (wr := []) (w1 := [(xa, (b11_1 x0 (nI x1) x2 (nI x3) x4 x5 x6 x7 x8 1 (-1)))]) (pl := va_pl L M) hP hD [0] [] rfl rfl (by decide) (by decide) hk1 hFc hP1 hD1
    have hP : va_P D vwCl ([(xa, (b11_1 x0 (nI x1) x2 (nI x3) x4 x5 x6 x7 x8 1 (-1)))] ++ va_pl L M) H_6 := hP
    have hD : va_D A ([(xa, (b11_1 x0 (nI x1) x2 (nI x3) x4 x5 x6 x7 x8 1 (-1)))] ++ va_pl L M) := hD
    have hq := Eq.symm hp_9
    subst hq
    have hnh := hqx.2 rfl
    have hno : ¬ okH x1 k1 := fun q9 => by unfold okH at q9; first | omega | (obtain ⟨_, _⟩ := q9; first | omega | contradiction)
    rw [hQ]
    exact W.iret (v := (-1)) hx hb hr (fun t ht hW9 => ⟨⟨(-1), M, rfl, ⟨hW, hF, hT3, hT1, hT10, (by unfold sxUd syUd; rw [if_neg (fun w9 => hno w9.1), if_neg (fun w9 => hno w9.1)]; exact hC.mono), (by unfold anUd; rw [if_neg hno])⟩, ⟨1, by rw [ht]; exact hP, hD⟩⟩, hS.F ht⟩) hS.2.2 dX11_undo_15
  · have hb_10 := hp_4 b_5 rfl
    refine lv_astore_n (lv' := [(2, .ref b_5), (0, .ref xa), (1, .int k1)]) hx hb dX11_undo_5 rfl hl (by decide) rfl (fun ls hl => ?_)
    obtain ⟨hr9, hb9⟩ := hqx.1 b_5 rfl
    have hck : ((k1 : Int32).toNatClampNeg : Int) = (k1 : Int32).toInt := clT (by omega)
    have hkn : (k1 : Int32).toNatClampNeg < x1 := by omega
    have hSM := hC.at hkn hb9
    have hSVk := hSV (k1 : Int32).toNatClampNeg hkn
    have hHIk := hHI (k1 : Int32).toNatClampNeg hkn
    have hV : VC Bo K L M M b_5 (cfx M b_5) (cax M b_5) := VC.rf b_5 hC.oc
    obtain ⟨v11_0, v11_1, v11_2, v11_3, v11_4, v11_5, v11_6, v11_7, v11_8, v11_9, v11_10, v11_11, v11_12, v11_13, v11_14, v11_15, v11_16, v11_17, v11_18, v11_19, hM11, h11_3, h11_4, h11_5, h11_6, h11_7, h11_8, h11_9, h11_10, h11_11, h11_12, h11_13, h11_16, h11_17, h11_18, h11_19⟩ := hW.open_2 hb_10
    have hA_12 : (cV 2 M b_5 0).toInt = (v11_0 : Int32).toInt := by rw [cV_of hM11 rfl]
    have hA_13 : (cV 2 M b_5 1).toInt = (v11_1 : Int32).toInt := by rw [cV_of hM11 rfl]
    have hA_14 : (cV 2 M b_5 2).toInt = (v11_2 : Int32).toInt := by rw [cV_of hM11 rfl]
    have hA_15 : (cV 2 M b_5 4).toInt = ((v11_4 : Nat) : Int) := by rw [cV_of hM11 rfl]; exact nI_toInt (by omega)
    have hA_16 : (cV 2 M b_5 5).toInt = ((v11_5 : Nat) : Int) := by rw [cV_of hM11 rfl]; exact nI_toInt (by omega)
    have hA_17 : (cV 2 M b_5 9).toInt = ((v11_9 : Nat) : Int) := by rw [cV_of hM11 rfl]; exact nI_toInt (by omega)
    have hA_18 : (cV 2 M b_5 11).toInt = ((v11_11 : Nat) : Int) := by rw [cV_of hM11 rfl]; exact nI_toInt (by omega)
    have hA_19 : (cV 2 M b_5 15).toInt = (v11_15 : Int32).toInt := by rw [cV_of hM11 rfl]
    have hq0 : (cV 2 M b_5 1).toInt = SX (k1 : Int32).toNatClampNeg 0 := hSM.x0
    have hq1 : (cV 2 M b_5 2).toInt = SX (k1 : Int32).toNatClampNeg 1 := hSM.x1
    have hq10 : (cV 2 M b_5 9).toInt = SX (k1 : Int32).toNatClampNeg 10 := hSM.x10
    have hq11 : (cV 2 M b_5 11).toInt = SX (k1 : Int32).toNatClampNeg 11 := hSM.x11
    have hq12 : (cV 2 M b_5 4).toInt = SX (k1 : Int32).toNatClampNeg 12 := hSM.x12
    have hq13 : (cV 2 M b_5 5).toInt = SX (k1 : Int32).toNatClampNeg 13 := hSM.x13
    have hq14 : (cV 1 M v11_16 3).toInt = SX (k1 : Int32).toNatClampNeg 14 := by have h9 := hSM.x14; rw [← h9]; show _ = (cV 1 M (rA 2 M b_5 16) 3).toInt; rw [rA_of (j := 16) hM11 rfl]
    have hq15 : (cV 1 M v11_17 3).toInt = SX (k1 : Int32).toNatClampNeg 15 := by have h9 := hSM.x15; rw [← h9]; show _ = (cV 1 M (rA 2 M b_5 17) 3).toInt; rw [rA_of (j := 17) hM11 rfl]
    have hq16 : (cV 10 M v11_18 2).toInt = SX (k1 : Int32).toNatClampNeg 16 := by have h9 := hSM.x16; rw [← h9]; show _ = (cV 10 M (rA 2 M b_5 18) 2).toInt; rw [rA_of (j := 18) hM11 rfl]
    have hq19 : (cV 10 M v11_18 1).toInt = cfx M b_5 19 := by show _ = (cV 10 M (rA 2 M b_5 18) 1).toInt; rw [rA_of (j := 18) hM11 rfl]
    have hun := hSM.un
    have hl16 : (ALc (M (rA 1 M v11_16 1)) : Int) = 120 := by have h9 := hC.oc.l16 hW hb_10; rw [rA_of (j := 16) hM11 rfl] at h9; omega
    have hl17 : (ALc (M (rA 1 M v11_17 1)) : Int) = 20 := by have h9 := hC.oc.l17 hW hb_10; rw [rA_of (j := 17) hM11 rfl] at h9; omega
    have hbd0 := hSVk.b0
    have hbd1 := hSVk.b1
    have hbd10 := hSVk.b10
    have hbd11 := hSVk.b11
    have hbd12 := hSVk.b12
    have hbd13 := hSVk.b13
    have hbd14 := hSVk.b14
    have hbd15 := hSVk.b15
    have hbd16 := hSVk.b16
    have hqx14 : cfx M b_5 14 = SX (k1 : Int32).toNatClampNeg 14 := hSM.x14
    have hqx15 : cfx M b_5 15 = SX (k1 : Int32).toNatClampNeg 15 := hSM.x15
    have hqx16 : cfx M b_5 16 = SX (k1 : Int32).toNatClampNeg 16 := hSM.x16
    refine lv_aload_n hx hb dX11_undo_6 rfl (lv_at hl 0 rfl) ?_
    refine lv_ifnonnull (tgt := 16) hx hb dX11_undo_7 (by decide) ?_
    refine lv_aload_n hx hb dX11_undo_16 rfl (lv_at hl 0 rfl) ?_
    refine pg_get (D := D) (ci := 2) (v := .ref v11_18) (C := RX2) (T := TX2) (N := 20) hx hb hg inG2 hown hK hP hb_10.1 hM11 rfl 18 (by decide) (hg _ wd_378) (fun _ h9 => h9) rfl dX11_undo_17 ?_
    obtain ⟨v20_0, v20_1, v20_2, hM20, h20_0⟩ := hW.open_10 h11_18
    refine pg_get (D := D) (ci := 10) (v := .int v20_2) (C := RX10) (T := TX10) (N := 3) hx hb hg inG10 hown hK hP h11_18.1 hM20 rfl 2 (by decide) (hg _ wd_420) (fun _ h9 => h9) rfl dX11_undo_20 ?_
    refine lv_if_ne (tgt := 32) hx hb dX11_undo_23 (by decide) (fun c_21 => ?_) (fun c_21 => ?_)
    · have hz := rfl (a := 0)
      refine lv_aload_n hx hb dX11_undo_32 rfl (lv_at hl 0 rfl) ?_
      refine pg_get (D := D) (ci := 2) (v := .ref v11_18) (C := RX2) (T := TX2) (N := 20) hx hb hg inG2 hown hK hP hb_10.1 hM11 rfl 18 (by decide) (hg _ wd_378) (fun _ h9 => h9) rfl dX11_undo_33 ?_
      have hPc : va_P D vwCl ([] ++ va_pl L M) H_1 := hP.part (cx := []) [] rfl
      have hDc : va_D A ([] ++ va_pl L M) := hD.part (cx := []) [] (by decide) rfl
      have hFc : ∀ q, va_A ([] ++ va_pl L M) H_1.size q → A q := pg_free hDc hS hA
      have hI_22 : (v20_2 : Int32).toInt ≠ (0 : Int) := ineI rfl rfl c_21
      have hA_23 : (cV 10 M v11_18 1).toInt = (v20_1 : Int32).toInt := by rw [cV_of hM20 rfl]
      have hA_24 : (cV 10 M v11_18 2).toInt = (v20_2 : Int32).toInt := by rw [cV_of hM20 rfl]
      have hI_25 : (cfx M b_5) 16 = ((cfx M b_5) 16) := rfl
      have hI_26 : (cfx M b_5) 19 = ((cfx M b_5) 19) := rfl
      refine va_calli (va_runV (As := []) (rest := []) ⟨hx, hb, hml, hown, hg⟩ (e_take l D cy K L M H_1.size v11_18 Bo M b_5 (cfx M b_5) (cax M b_5) v20_0 v20_1 v20_2 hW h11_18 hb_10 hV (rA_of (j := 18) hM11 rfl) (by omega) (by omega) hM20 h20_0) (cwV 0 hg (gV wd_421 wd_422 wd_423 wd_114 wd_424) rfl rfl rfl (by decide +kernel) ⟨(Nat.le_trans (Nat.le_of_ble_eq_true rfl) hRf), (Nat.le_trans (Nat.le_of_ble_eq_true rfl) hRl)⟩) ⟨PG.blind, pg_recv hK hP h11_18.1 hM20 rfl, fun U hU hW => ⟨rfl, PG.at hPc hK hDc hN hU hW⟩⟩ rfl rfl hl.1 rfl (lv_room (Nat.le_of_ble_eq_true rfl)) dX11_undo_36 ⟨(Nat.le_trans (Nat.le_of_ble_eq_true rfl) hRc), (Nat.le_trans (Nat.le_of_ble_eq_true rfl) hRs)⟩) hS (fun q _ h => hFc q h) hFc (fun r_28 M_29 t H_27 locs ht hvm hw hB hz1 hk1 hS => ?_)
      have hWb := hW
      obtain ⟨hW, hF2, gT10, hVP, hp_30⟩ := hw
      obtain ⟨hP1, hD1⟩ := hB
      rw [ht] at hP1
      obtain ⟨hP, hD⟩ := va_joinP (X := [(xa, (b11_1 x0 (nI x1) x2 (nI x3) x4 x5 x6 x7 x8 x9 x10))]) (cx := []) (wr := [(xa, (b11_1 x0 (nI x1) x2 (nI x3) x4 x5 x6 x7 x8 x9 x10))]) (rx := []) (pl := va_pl L M) (pl1 := va_pl L M_29) hP hD [] [0] rfl rfl (by decide) (by decide) hk1 hFc hP1 hD1
      have hP : va_P D vwCl ([(xa, (b11_1 x0 (nI x1) x2 (nI x3) x4 x5 x6 x7 x8 x9 x10))] ++ va_pl L M_29) H_27 := hP
      have hD : va_D A ([(xa, (b11_1 x0 (nI x1) x2 (nI x3) x4 x5 x6 x7 x8 x9 x10))] ++ va_pl L M_29) := hD
      have hM_31 : M_29 b_5 = (b2_2 v11_0 v11_1 v11_2 v11_3 (nI v11_4) (nI v11_5) v11_6 v11_7 v11_8 (nI v11_9) v11_10 (nI v11_11) v11_12 v11_13 v11_14 v11_15 v11_16 v11_17 v11_18 v11_19) := (hF2.at hb_10 (by decide)).trans hM11
      have hF : fr K L [1, 3, 10] M M_29 := hF.tr hF2 (by decide)
      have hT3 : fT 3 K L [2] M M_29 := hT3.frr hF2 (by decide)
      have hT1 : fT 1 K L [3] M M_29 := hT1.frr hF2 (by decide)
      have hT10 : fT 10 K L [1, 2] M M_29 := hT10.tr gT10 (by decide)
      have hV : VC Bo K L M M_29 b_5 (va_up (va_up (cfx M b_5) 19 ((cfx M b_5) 19 - 1)) 16 ((cfx M b_5) 16 - 1)) (cax M b_5) := hVP
      obtain rfl := hp_30
      have htk := hSM.take (by omega)
      have hr43 := hSVk.r43 (SX k1.toNatClampNeg 16 - 1).toNat (by omega)
      refine lv_istore_n (lv' := [(3, .int ((cax M b_5) 43 (((cfx M b_5) 19 - 1).toNat % 60))), (2, .ref b_5), (0, .ref xa), (1, .int k1)]) hx hb dX11_undo_39 rfl hl (by decide) rfl (fun ls hl => ?_)
      refine lv_iload_n hx hb dX11_undo_40 rfl (lv_at hl 0 rfl) ?_
      refine lv_iconst (v := (-1)) hx hb dX11_undo_41 (by decide) ?_
      refine lv_icmp_ne (tgt := 55) hx hb dX11_undo_42 (by decide) (fun c_32 => ?_) (fun c_32 => ?_)
      · have hz := rfl (a := 0)
        have hd43 : ¬ SY k1.toNatClampNeg 43 (SX k1.toNatClampNeg 16 - 1).toNat = -1 := fun z9 => c_32 (htk.2.trans z9)
        have hdr := hr43.resolve_left hd43
        have hrr : ((cax M b_5) 43 (((cfx M b_5) 19 - 1).toNat % 60)) = SY k1.toNatClampNeg 43 (SX k1.toNatClampNeg 16 - 1).toNat := htk.2
        have hri : (((cax M b_5) 43 (((cfx M b_5) 19 - 1).toNat % 60)) : Int32).toInt = (SY k1.toNatClampNeg 43 (SX k1.toNatClampNeg 16 - 1).toNat).toInt := congrArg Int32.toInt hrr
        have hcd : ((((cax M b_5) 43 (((cfx M b_5) 19 - 1).toNat % 60)) : Int32).toNatClampNeg : Int) = (((cax M b_5) 43 (((cfx M b_5) 19 - 1).toNat % 60)) : Int32).toInt := clT (by omega)
        have hp3q : 1 ≤ (SY k1.toNatClampNeg 3 (((cax M b_5) 43 (((cfx M b_5) 19 - 1).toNat % 60)) : Int32).toNatClampNeg).toInt := by have h9 := cn_pos (l := SY k1.toNatClampNeg 43) (n := (SX k1.toNatClampNeg 16).toNat) (i := (SX k1.toNatClampNeg 16 - 1).toNat) (v := nI (((cax M b_5) 43 (((cfx M b_5) 19 - 1).toNat % 60)) : Int32).toNatClampNeg) (by omega) (by rw [← hrr]; exact i32_of (by omega) (by omega)); have h8 := hHIk.2.1.1 (((cax M b_5) 43 (((cfx M b_5) 19 - 1).toNat % 60)) : Int32).toNatClampNeg (by omega); omega
        have hp3p : 1 ≤ ((cax M b_5) 3 (((cax M b_5) 43 (((cfx M b_5) 19 - 1).toNat % 60)) : Int32).toNatClampNeg).toInt := by show 1 ≤ (cax M b_5 3 (((cax M b_5) 43 (((cfx M b_5) 19 - 1).toNat % 60)) : Int32).toNatClampNeg).toInt; rw [(hSM.pl _ (by omega)).2.1]; exact hp3q
        refine lv_aload_n hx hb dX11_undo_55 rfl (lv_at hl 1 rfl) ?_
        refine lv_iload_n hx hb dX11_undo_56 rfl (lv_at hl 0 rfl) ?_
        have hPc : va_P D vwCl ([] ++ va_pl L M_29) H_27 := hP.part (cx := []) [] rfl
        have hDc : va_D A ([] ++ va_pl L M_29) := hD.part (cx := []) [] (by decide) rfl
        have hFc : ∀ q, va_A ([] ++ va_pl L M_29) H_27.size q → A q := pg_free hDc hS hA
        refine va_callv (va_runV (As := [.int ((cax M b_5) 43 (((cfx M b_5) 19 - 1).toNat % 60))]) (rest := []) ⟨hx, hb, hml, hown, hg⟩ (e_dropE l D cy K L M_29 H_27.size b_5 ((cax M b_5) 43 (((cfx M b_5) 19 - 1).toNat % 60)) Bo M (va_up (va_up (cfx M b_5) 19 ((cfx M b_5) 19 - 1)) 16 ((cfx M b_5) 16 - 1)) (cax M b_5)  hW hb_10 hV (by omega) hp3p) (cwV 1 hg (gV wd_425 wd_426 wd_427 wd_57 wd_428) rfl rfl rfl (by decide +kernel) ⟨(Nat.le_trans (Nat.le_of_ble_eq_true rfl) hRf), (Nat.le_trans (Nat.le_of_ble_eq_true rfl) hRl)⟩) ⟨PG.blind, pg_recv hK hP hb_10.1 hM_31 rfl, fun U hU hW => ⟨rfl, PG.at hPc hK hDc hN hU hW⟩⟩ rfl rfl hl.1 rfl (lv_room (Nat.le_of_ble_eq_true rfl)) dX11_undo_57 ⟨(Nat.le_trans (Nat.le_of_ble_eq_true rfl) hRc), (Nat.le_trans (Nat.le_of_ble_eq_true rfl) hRs)⟩) hS (fun q _ h => hFc q h) hFc (fun M_35 t H_33 locs ht hvm hw hB hz1 hk1 hS => ?_)
        have hWb := hW
        obtain ⟨hW, hF2, gT3, hVP, hp_36⟩ := hw
        obtain ⟨hP1, hD1⟩ := hB
        rw [ht] at hP1
        obtain ⟨hP, hD⟩ := va_joinP (X := [(xa, (b11_1 x0 (nI x1) x2 (nI x3) x4 x5 x6 x7 x8 x9 x10))]) (cx := []) (wr := [(xa, (b11_1 x0 (nI x1) x2 (nI x3) x4 x5 x6 x7 x8 x9 x10))]) (rx := []) (pl := va_pl L M_29) (pl1 := va_pl L M_35) hP hD [] [0] rfl rfl (by decide) (by decide) hk1 hFc hP1 hD1
        have hP : va_P D vwCl ([(xa, (b11_1 x0 (nI x1) x2 (nI x3) x4 x5 x6 x7 x8 x9 x10))] ++ va_pl L M_35) H_33 := hP
        have hD : va_D A ([(xa, (b11_1 x0 (nI x1) x2 (nI x3) x4 x5 x6 x7 x8 x9 x10))] ++ va_pl L M_35) := hD
        have hM_37 : M_35 b_5 = (b2_2 v11_0 v11_1 v11_2 v11_3 (nI v11_4) (nI v11_5) v11_6 v11_7 v11_8 (nI v11_9) v11_10 (nI v11_11) v11_12 v11_13 v11_14 v11_15 v11_16 v11_17 v11_18 v11_19) := (hF2.at hb_10 (by decide)).trans hM_31
        have hF : fr K L [1, 3, 10] M M_35 := hF.tr hF2 (by decide)
        have hT3 : fT 3 K L [2] M M_35 := hT3.tr gT3 (by decide)
        have hT1 : fT 1 K L [3] M M_35 := hT1.frr hF2 (by decide)
        have hT10 : fT 10 K L [1, 2] M M_35 := hT10.frr hF2 (by decide)
        have hV : VC Bo K L M M_35 b_5 (va_up (va_up (cfx M b_5) 19 ((cfx M b_5) 19 - 1)) 16 ((cfx M b_5) 16 - 1)) (va_up (cax M b_5) 3 (upd ((cax M b_5) 3) ((cax M b_5) 43 (((cfx M b_5) 19 - 1).toNat % 60)).toNatClampNeg ((cax M b_5) 3 ((cax M b_5) 43 (((cfx M b_5) 19 - 1).toNat % 60)).toNatClampNeg - 1))) := hVP
        refine lv_aload_n hx hb dX11_undo_60 rfl (lv_at hl 2 rfl) ?_
        refine lv_iconst (v := 1) hx hb dX11_undo_61 (by decide) ?_
        have hPc := hP.sub (ws' := [(xa, (b11_1 x0 (nI x1) x2 (nI x3) x4 x5 x6 x7 x8 x9 x10))]) [0] rfl
        have hDc := hD.sub (ws' := [(xa, (b11_1 x0 (nI x1) x2 (nI x3) x4 x5 x6 x7 x8 x9 x10))]) [0] (by decide) rfl
        have hKc := hK.sub (tys' := []) [] rfl
        have hFc := va_free (wc := [(xa, (b11_1 x0 (nI x1) x2 (nI x3) x4 x5 x6 x7 x8 x9 x10))]) hD hS hA [0] rfl
        refine va_calli (va_runV (As := [.int 1]) (rest := []) ⟨hx, hb, hml, hown, hg⟩ (k_accept l D H_33.size xa x0 (nI x1) x2 (nI x3) x4 x5 x6 x7 x8 x9 x10 1) (cwV 1 hg (gV wd_356 wd_357 wd_358 wd_3 wd_359) rfl rfl rfl (by decide +kernel) ⟨(Nat.le_trans (Nat.le_of_ble_eq_true rfl) hRf), (Nat.le_trans (Nat.le_of_ble_eq_true rfl) hRl)⟩) ⟨Pr.blind, va_recv hK hP (ci := 11) (q0 := 0) rfl rfl, fun U hU hW => ⟨rfl, Pr.at hPc hKc hDc hN hU hW⟩⟩ rfl rfl hl.1 rfl (lv_room (Nat.le_of_ble_eq_true rfl)) dX11_undo_62 ⟨(Nat.le_trans (Nat.le_of_ble_eq_true rfl) hRc), (Nat.le_trans (Nat.le_of_ble_eq_true rfl) hRs)⟩) hS (fun q _ h => hFc q h) hFc (fun r_39 M_40 t H_38 locs ht hvm hw hB hz1 hk1 hS => ?_)
        have hp_41 := hw
        obtain ⟨hP1, hK1, hD1⟩ := hB
        rw [ht] at hP1
        obtain ⟨hP, hD⟩ := va_joinQ (X := [(xa, (b11_1 x0 (nI x1) x2 (nI x3) x4 x5 x6 x7 x8 x9 x10))]) (cx := [(xa, (b11_1 x0 (nI x1) x2 (nI x3) x4 x5 x6 x7 x8 x9 x10))]) (wr := []) (w1 := [(xa, (b11_1 x0 (nI x1) x2 (nI x3) x4 x5 x6 x7 x8 0 (-1)))]) (pl := va_pl L M_35) hP hD [0] [] rfl rfl (by decide) (by decide) hk1 hFc hP1 hD1
        have hP : va_P D vwCl ([(xa, (b11_1 x0 (nI x1) x2 (nI x3) x4 x5 x6 x7 x8 0 (-1)))] ++ va_pl L M_35) H_38 := hP
        have hD : va_D A ([(xa, (b11_1 x0 (nI x1) x2 (nI x3) x4 x5 x6 x7 x8 0 (-1)))] ++ va_pl L M_35) := hD
        have hq := Eq.symm hp_41
        subst hq
        have hyes : okH x1 k1 := by unfold okH; refine ⟨?_, ?_⟩ <;> first | omega | assumption
        have hp3r : cax M b_5 3 (((cax M b_5) 43 (((cfx M b_5) 19 - 1).toNat % 60)) : Int32).toNatClampNeg = SY k1.toNatClampNeg 3 (((cax M b_5) 43 (((cfx M b_5) 19 - 1).toNat % 60)) : Int32).toNatClampNeg := (hSM.pl _ (by omega)).2.1
        have hV : VC Bo K L M M_35 b_5 (va_up (va_up (cfx M b_5) 19 ((cfx M b_5) 19 - 1)) 16 ((cfx M b_5) 16 - 1)) (va_up (cax M b_5) 3 (upd (cax M b_5 3) (((cax M b_5) 43 (((cfx M b_5) 19 - 1).toNat % 60)) : Int32).toNatClampNeg (cax M b_5 3 (((cax M b_5) 43 (((cfx M b_5) 19 - 1).toNat % 60)) : Int32).toNatClampNeg - 1))) := hV
        rw [hp3r, hrr] at hV
        rw [hQ]
        exact W.iret (v := 1) hx hb hr (fun t ht hW9 => ⟨⟨1, M_35, rfl, ⟨hW, hF, hT3, hT1, hT10, (by unfold sxUd syUd; have hc2 : okH x1 k1 ∧ SX k1.toNatClampNeg 16 ≠ 0 := ⟨hyes, by omega⟩; rw [if_pos hc2, if_pos hc2, if_neg hd43, if_neg hd43]; have hZ := hC.fin hW0 i0 b1 hkn hb9 hV ext.rf (by rw [hF.at i0 (by decide)]) (fun q iq => ⟨iq, cR_c (fr.cv hF (by decide) q iq 3 rfl)⟩) ((htk.1.told (d := (SY k1.toNatClampNeg 43 (SX k1.toNatClampNeg 16 - 1).toNat).toNatClampNeg) (c := SY k1.toNatClampNeg 3 (SY k1.toNatClampNeg 43 (SX k1.toNatClampNeg 16 - 1).toNat).toNatClampNeg - 1) (by rw [← hrr]; exact decLe hp3q)).up1); exact hZ), (by unfold anUd; rw [if_pos hyes, if_neg (by omega)])⟩, ⟨0, by rw [ht]; exact hP, hD⟩⟩, hS.F ht⟩) hS.2.2 dX11_undo_65
      · have hz := rfl (a := 0)
        have hd43 : SY k1.toNatClampNeg 43 (SX k1.toNatClampNeg 16 - 1).toNat = -1 := htk.2.symm.trans c_32
        have hm14 : 1 ≤ SX k1.toNatClampNeg 14 := by have h9 := cn_pos (l := SY k1.toNatClampNeg 43) (n := (SX k1.toNatClampNeg 16).toNat) (i := (SX k1.toNatClampNeg 16 - 1).toNat) (by omega) hd43; have h8 := hHIk.2.1.2; omega
        refine lv_aload_n hx hb dX11_undo_45 rfl (lv_at hl 1 rfl) ?_
        refine pg_get (D := D) (ci := 2) (v := .ref v11_16) (C := RX2) (T := TX2) (N := 20) hx hb hg inG2 hown hK hP hb_10.1 hM_31 rfl 16 (by decide) (hg _ wd_407) (fun _ h9 => h9) rfl dX11_undo_46 ?_
        obtain ⟨n42, v42_0, v42_1, v42_2, v42_3, hM42, h42_0, h42_1, h42_2, h42_3, y42_0⟩ := hW.open_1 h11_16
        have hPc : va_P D vwCl ([] ++ va_pl L M_29) H_27 := hP.part (cx := []) [] rfl
        have hDc : va_D A ([] ++ va_pl L M_29) := hD.part (cx := []) [] (by decide) rfl
        have hFc : ∀ q, va_A ([] ++ va_pl L M_29) H_27.size q → A q := pg_free hDc hS hA
        have hI_43 : (va_up (va_up (cfx M b_5) 19 ((cfx M b_5) 19 - 1)) 16 ((cfx M b_5) 16 - 1)) 14 = ((cfx M b_5) 14) := rfl
        refine va_callv (va_runV (As := []) (rest := []) ⟨hx, hb, hml, hown, hg⟩ (e_dropm l D cy K L M_29 H_27.size v11_16 Bo M b_5 (va_up (va_up (cfx M b_5) 19 ((cfx M b_5) 19 - 1)) 16 ((cfx M b_5) 16 - 1)) (cax M b_5) n42 v42_0 v42_1 v42_2 v42_3 hW h11_16 hb_10 hV (rA_of (j := 16) hM_31 rfl) (by omega) hM42 h42_0 h42_1 h42_2 h42_3 y42_0) (cwV 0 hg (gV wd_429 wd_430 wd_431 wd_123 wd_432) rfl rfl rfl (by decide +kernel) ⟨(Nat.le_trans (Nat.le_of_ble_eq_true rfl) hRf), (Nat.le_trans (Nat.le_of_ble_eq_true rfl) hRl)⟩) ⟨PG.blind, pg_recv hK hP h11_16.1 hM42 rfl, fun U hU hW => ⟨rfl, PG.at hPc hK hDc hN hU hW⟩⟩ rfl rfl hl.1 rfl (lv_room (Nat.le_of_ble_eq_true rfl)) dX11_undo_49 ⟨(Nat.le_trans (Nat.le_of_ble_eq_true rfl) hRc), (Nat.le_trans (Nat.le_of_ble_eq_true rfl) hRs)⟩) hS (fun q _ h => hFc q h) hFc (fun M_46 t H_44 locs ht hvm hw hB hz1 hk1 hS => ?_)
        have hWb := hW
        obtain ⟨hW, hF2, gT1, hVP, hp_47⟩ := hw
        obtain ⟨hP1, hD1⟩ := hB
        rw [ht] at hP1
        obtain ⟨hP, hD⟩ := va_joinP (X := [(xa, (b11_1 x0 (nI x1) x2 (nI x3) x4 x5 x6 x7 x8 x9 x10))]) (cx := []) (wr := [(xa, (b11_1 x0 (nI x1) x2 (nI x3) x4 x5 x6 x7 x8 x9 x10))]) (rx := []) (pl := va_pl L M_29) (pl1 := va_pl L M_46) hP hD [] [0] rfl rfl (by decide) (by decide) hk1 hFc hP1 hD1
        have hP : va_P D vwCl ([(xa, (b11_1 x0 (nI x1) x2 (nI x3) x4 x5 x6 x7 x8 x9 x10))] ++ va_pl L M_46) H_44 := hP
        have hD : va_D A ([(xa, (b11_1 x0 (nI x1) x2 (nI x3) x4 x5 x6 x7 x8 x9 x10))] ++ va_pl L M_46) := hD
        have hM_48 : M_46 b_5 = (b2_2 v11_0 v11_1 v11_2 v11_3 (nI v11_4) (nI v11_5) v11_6 v11_7 v11_8 (nI v11_9) v11_10 (nI v11_11) v11_12 v11_13 v11_14 v11_15 v11_16 v11_17 v11_18 v11_19) := (hF2.at hb_10 (by decide)).trans hM_31
        have hF : fr K L [1, 3, 10] M M_46 := hF.tr hF2 (by decide)
        have hT3 : fT 3 K L [2] M M_46 := hT3.frr hF2 (by decide)
        have hT1 : fT 1 K L [3] M M_46 := hT1.tr gT1 (by decide)
        have hT10 : fT 10 K L [1, 2] M M_46 := hT10.frr hF2 (by decide)
        have hV : VC Bo K L M M_46 b_5 (va_up (va_up (va_up (cfx M b_5) 19 ((cfx M b_5) 19 - 1)) 16 ((cfx M b_5) 16 - 1)) 14 ((va_up (va_up (cfx M b_5) 19 ((cfx M b_5) 19 - 1)) 16 ((cfx M b_5) 16 - 1)) 14 - 1)) (cax M b_5) := hVP
        refine lv_goto (tgt := 60) hx hb dX11_undo_52 (by decide) ?_
        refine lv_aload_n hx hb dX11_undo_60 rfl (lv_at hl 2 rfl) ?_
        refine lv_iconst (v := 1) hx hb dX11_undo_61 (by decide) ?_
        have hPc := hP.sub (ws' := [(xa, (b11_1 x0 (nI x1) x2 (nI x3) x4 x5 x6 x7 x8 x9 x10))]) [0] rfl
        have hDc := hD.sub (ws' := [(xa, (b11_1 x0 (nI x1) x2 (nI x3) x4 x5 x6 x7 x8 x9 x10))]) [0] (by decide) rfl
        have hKc := hK.sub (tys' := []) [] rfl
        have hFc := va_free (wc := [(xa, (b11_1 x0 (nI x1) x2 (nI x3) x4 x5 x6 x7 x8 x9 x10))]) hD hS hA [0] rfl
        refine va_calli (va_runV (As := [.int 1]) (rest := []) ⟨hx, hb, hml, hown, hg⟩ (k_accept l D H_44.size xa x0 (nI x1) x2 (nI x3) x4 x5 x6 x7 x8 x9 x10 1) (cwV 1 hg (gV wd_356 wd_357 wd_358 wd_3 wd_359) rfl rfl rfl (by decide +kernel) ⟨(Nat.le_trans (Nat.le_of_ble_eq_true rfl) hRf), (Nat.le_trans (Nat.le_of_ble_eq_true rfl) hRl)⟩) ⟨Pr.blind, va_recv hK hP (ci := 11) (q0 := 0) rfl rfl, fun U hU hW => ⟨rfl, Pr.at hPc hKc hDc hN hU hW⟩⟩ rfl rfl hl.1 rfl (lv_room (Nat.le_of_ble_eq_true rfl)) dX11_undo_62 ⟨(Nat.le_trans (Nat.le_of_ble_eq_true rfl) hRc), (Nat.le_trans (Nat.le_of_ble_eq_true rfl) hRs)⟩) hS (fun q _ h => hFc q h) hFc (fun r_50 M_51 t H_49 locs ht hvm hw hB hz1 hk1 hS => ?_)
        have hp_52 := hw
        obtain ⟨hP1, hK1, hD1⟩ := hB
        rw [ht] at hP1
        obtain ⟨hP, hD⟩ := va_joinQ (X := [(xa, (b11_1 x0 (nI x1) x2 (nI x3) x4 x5 x6 x7 x8 x9 x10))]) (cx := [(xa, (b11_1 x0 (nI x1) x2 (nI x3) x4 x5 x6 x7 x8 x9 x10))]) (wr := []) (w1 := [(xa, (b11_1 x0 (nI x1) x2 (nI x3) x4 x5 x6 x7 x8 0 (-1)))]) (pl := va_pl L M_46) hP hD [0] [] rfl rfl (by decide) (by decide) hk1 hFc hP1 hD1
        have hP : va_P D vwCl ([(xa, (b11_1 x0 (nI x1) x2 (nI x3) x4 x5 x6 x7 x8 0 (-1)))] ++ va_pl L M_46) H_49 := hP
        have hD : va_D A ([(xa, (b11_1 x0 (nI x1) x2 (nI x3) x4 x5 x6 x7 x8 0 (-1)))] ++ va_pl L M_46) := hD
        have hq := Eq.symm hp_52
        subst hq
        have hyes : okH x1 k1 := by unfold okH; refine ⟨?_, ?_⟩ <;> first | omega | assumption
        rw [hQ]
        exact W.iret (v := 1) hx hb hr (fun t ht hW9 => ⟨⟨1, M_46, rfl, ⟨hW, hF, hT3, hT1, hT10, (by unfold sxUd syUd; have hc2 : okH x1 k1 ∧ SX k1.toNatClampNeg 16 ≠ 0 := ⟨hyes, by omega⟩; rw [if_pos hc2, if_pos hc2, if_pos hd43, if_pos hd43]; have hZ := hC.fin hW0 i0 b1 hkn hb9 hV ext.rf (by rw [hF.at i0 (by decide)]) (fun q iq => ⟨iq, cR_c (fr.cv hF (by decide) q iq 3 rfl)⟩) ((htk.1.drm).up1); rw [va_upI] at hZ; exact hZ), (by unfold anUd; rw [if_pos hyes, if_neg (by omega)])⟩, ⟨0, by rw [ht]; exact hP, hD⟩⟩, hS.F ht⟩) hS.2.2 dX11_undo_65
    · have hz := rfl (a := 0)
      refine lv_aload_n hx hb dX11_undo_26 rfl (lv_at hl 1 rfl) ?_
      refine lv_iconst (v := 0) hx hb dX11_undo_27 (by decide) ?_
      have hPc := hP.sub (ws' := [(xa, (b11_1 x0 (nI x1) x2 (nI x3) x4 x5 x6 x7 x8 x9 x10))]) [0] rfl
      have hDc := hD.sub (ws' := [(xa, (b11_1 x0 (nI x1) x2 (nI x3) x4 x5 x6 x7 x8 x9 x10))]) [0] (by decide) rfl
      have hKc := hK.sub (tys' := []) [] rfl
      have hFc := va_free (wc := [(xa, (b11_1 x0 (nI x1) x2 (nI x3) x4 x5 x6 x7 x8 x9 x10))]) hD hS hA [0] rfl
      refine va_calli (va_runV (As := [.int 0]) (rest := []) ⟨hx, hb, hml, hown, hg⟩ (k_accept l D H_1.size xa x0 (nI x1) x2 (nI x3) x4 x5 x6 x7 x8 x9 x10 0) (cwV 1 hg (gV wd_356 wd_357 wd_358 wd_3 wd_359) rfl rfl rfl (by decide +kernel) ⟨(Nat.le_trans (Nat.le_of_ble_eq_true rfl) hRf), (Nat.le_trans (Nat.le_of_ble_eq_true rfl) hRl)⟩) ⟨Pr.blind, va_recv hK hP (ci := 11) (q0 := 0) rfl rfl, fun U hU hW => ⟨rfl, Pr.at hPc hKc hDc hN hU hW⟩⟩ rfl rfl hl.1 rfl (lv_room (Nat.le_of_ble_eq_true rfl)) dX11_undo_28 ⟨(Nat.le_trans (Nat.le_of_ble_eq_true rfl) hRc), (Nat.le_trans (Nat.le_of_ble_eq_true rfl) hRs)⟩) hS (fun q _ h => hFc q h) hFc (fun r_54 M_55 t H_53 locs ht hvm hw hB hz1 hk1 hS => ?_)
      have hp_56 := hw
      obtain ⟨hP1, hK1, hD1⟩ := hB
      rw [ht] at hP1
      obtain ⟨hP, hD⟩ := va_joinQ (X := [(xa, (b11_1 x0 (nI x1) x2 (nI x3) x4 x5 x6 x7 x8 x9 x10))]) (cx := [(xa, (b11_1 x0 (nI x1) x2 (nI x3) x4 x5 x6 x7 x8 x9 x10))]) (wr := []) (w1 := [(xa, (b11_1 x0 (nI x1) x2 (nI x3) x4 x5 x6 x7 x8 0 (-1)))]) (pl := va_pl L M) hP hD [0] [] rfl rfl (by decide) (by decide) hk1 hFc hP1 hD1
      have hP : va_P D vwCl ([(xa, (b11_1 x0 (nI x1) x2 (nI x3) x4 x5 x6 x7 x8 0 (-1)))] ++ va_pl L M) H_53 := hP
      have hD : va_D A ([(xa, (b11_1 x0 (nI x1) x2 (nI x3) x4 x5 x6 x7 x8 0 (-1)))] ++ va_pl L M) := hD
      have hq := Eq.symm hp_56
      subst hq
      have hI_57 : (v20_2 : Int32).toInt = (0 : Int) := ieqI rfl rfl c_21
      have hA_58 : (cV 10 M v11_18 1).toInt = (v20_1 : Int32).toInt := by rw [cV_of hM20 rfl]
      have hA_59 : (cV 10 M v11_18 2).toInt = (v20_2 : Int32).toInt := by rw [cV_of hM20 rfl]
      have hyes : okH x1 k1 := by unfold okH; refine ⟨?_, ?_⟩ <;> first | omega | assumption
      rw [hQ]
      exact W.iret (v := 0) hx hb hr (fun t ht hW9 => ⟨⟨0, M, rfl, ⟨hW, hF, hT3, hT1, hT10, (by unfold sxUd syUd; rw [if_neg (fun w9 => w9.2 (by omega)), if_neg (fun w9 => w9.2 (by omega))]; exact hC.mono), (by unfold anUd; rw [if_pos hyes, if_pos (by omega)])⟩, ⟨0, by rw [ht]; exact hP, hD⟩⟩, hS.F ht⟩) hS.2.2 dX11_undo_31
