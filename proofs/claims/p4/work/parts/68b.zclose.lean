set_option maxHeartbeats 4000000 in
set_option maxRecDepth 100000 in
theorem z_close (l : Launch) (D : va_G) (cy : Nat → ClassId) (K : Kp) (L : List Nat) (M : Hp) (sz : Nat) (za : Nat) (z0 : Int32) (z1 : Nat) (z2 : Nat) (z3 : Nat) (z4 : Int32) (z5 : Int32) (z6 : Nat) (z7 : Nat) (z8 : Nat) (z9 : Nat) (z10 : Nat) (z11 : Nat) (z12 : Nat) (z13 : Nat) (z14 : Nat) (z15 : Nat) (z16 : Nat) (z17 : Nat) (z18 : Int32) (z19 : Nat) (k1 : Int32) (SX : Nat → Nat → Int) (SY : Nat → Nat → Nat → Int32) (PK : Nat → Int32) (PT : Nat → Int32) (hW : WOM cy K L M) (i1 : isk K L z1 23 8) (b2 : z2 ≤ 8) (b3 : z3 ≤ 40) (i6 : isk K L z6 47 40) (i7 : isk K L z7 48 40) (i8 : isk K L z8 49 8) (i9 : isk K L z9 50 8) (b10 : z10 ≤ 8) (i11 : isk K L z11 32 24) (i12 : isk K L z12 14 24) (i13 : isk K L z13 15 24) (i14 : isk K L z14 15 24) (i15 : isk K L z15 15 24) (b16 : z16 ≤ 24) (i17 : isk K L z17 14 24) (i19 : isk K L z19 15 25) (hGI : GI K L z1 z2 M) (hZS : ZSx z1 z2 SX SY M) (hR5 : R5 z6 z7 M) (hZP : ZP z6 z7 PK PT M) : Met l yX13_close (wsM yX13_close cX13_close 8 (some .int)) ({ frames := 6, cells := 0, slots := 0, locals := 165 }) (va_Pc [.ref za, .int k1] (PG D cy [(za, .inr (13, [.int z0, .ref z1, .int (nI z2), .int (nI z3), .int z4, .int z5, .ref z6, .ref z7, .ref z8, .ref z9, .int (nI z10), .ref z11, .ref z12, .ref z13, .ref z14, .ref z15, .int (nI z16), .ref z17, .int z18, .ref z19]))] L M sz)) (va_Qi (fun (r : Int32) (M9 : Hp) => WOM cy K L M9 ∧ fr K L [12, 14, 15, 32, 42, 45, 46, 79, 80, 81, 83] M M9 ∧ fG K L [1, 7, 8, 13, 14, 15, 16, 17, 18] M M9 ∧ (GI K L z1 z2 M9 ∧ ∃ (X9 : Nat → Int) (Y9 : Nat → Nat → Int32), (okCl z2 PK PT SX SY k1 → CLF (enD (SX k1.toNatClampNeg) (SY k1.toNatClampNeg)) (SX k1.toNatClampNeg) (SY k1.toNatClampNeg) X9 Y9) ∧ ZSx z1 z2 (sxCl z2 PK PT SX SY k1 X9) (syCl z2 PK PT SX SY k1 Y9) M9) ∧ ((r = anCl z2 PK PT SX SY k1))) (fun M9 t => ∃ (w4 : Int32) (w5 : Int32) (w16 : Nat), w16 ≤ 24 ∧ PQ D [(za, .inr (13, [.int 0, .ref z1, .int (nI z2), .int (nI z3), .int w4, .int w5, .ref z6, .ref z7, .ref z8, .ref z9, .int (nI z10), .ref z11, .ref z12, .ref z13, .ref z14, .ref z15, .int (nI w16), .ref z17, .int z18, .ref z19]))] L M9 (va_A ([(za, .inr (13, [.int z0, .ref z1, .int (nI z2), .int (nI z3), .int z4, .int z5, .ref z6, .ref z7, .ref z8, .ref z9, .int (nI z10), .ref z11, .ref z12, .ref z13, .ref z14, .ref z15, .int (nI z16), .ref z17, .int z18, .ref z19]))] ++ va_pl L M) sz) t) (va_A ([(za, .inr (13, [.int z0, .ref z1, .int (nI z2), .int (nI z3), .int z4, .int z5, .ref z6, .ref z7, .ref z8, .ref z9, .int (nI z10), .ref z11, .ref z12, .ref z13, .ref z14, .ref z15, .int (nI z16), .ref z17, .int z18, .ref z19]))] ++ va_pl L M) sz)) 0 0 (va_A ([(za, .inr (13, [.int z0, .ref z1, .int (nI z2), .int (nI z3), .int z4, .int z5, .ref z6, .ref z7, .ref z8, .ref z9, .int (nI z10), .ref z11, .ref z12, .ref z13, .ref z14, .ref z15, .int (nI z16), .ref z17, .int z18, .ref z19]))] ++ va_pl L M) sz) := by
  refine Met.ofW (cc := cX13_close) (maxL := 8) (ret := (some .int)) (by decide) rfl ?_
  intro p e s m args below meth c s₁ B hml hv
  obtain ⟨rfl, hsz, hP, hK, hD0, hN⟩ := hv
  have hx := B.exec
  have hb := B.bytes
  have hr := B.returns
  have hts := atoms_spec (ws := (wsM yX13_close cX13_close 8 (some .int))) B.pre
  have hg : ∀ w ∈ lw_good, w.before _ s = true := fun w h => hts w (List.mem_cons_of_mem _ h)
  have hown : s.vm.findClass RX13 = some m.cls := findClass_of_methodNamed B.named
  have hlocks := B.notSynchronized
  subst hsz
  have hD := hD0.self (sz := s.heap.size)
  generalize hAe : va_A ([(za, .inr (13, [.int z0, .ref z1, .int (nI z2), .int (nI z3), .int z4, .int z5, .ref z6, .ref z7, .ref z8, .ref z9, .int (nI z10), .ref z11, .ref z12, .ref z13, .ref z14, .ref z15, .int (nI z16), .ref z17, .int z18, .ref z19]))] ++ va_pl L M) s.heap.size = A at hD ⊢
  have hA : ∀ q : Nat, s.heap.size ≤ q → A q := fun q h => by rw [← hAe]; exact Or.inr h
  have hS : va_S A s.heap s.heap [] := va_S.rf
  have hl := lv_entry ([.ref za, .int k1]) (n := 8) (Nat.le_of_ble_eq_true rfl)
  rw [lg_entry_eq]
  generalize (lg_sl ([.ref za, .int k1]) ++ List.replicate (8 - (lg_sl ([.ref za, .int k1])).length) Slot.unset).toArray = ls at hl ⊢
  refine W.nameQ (fun Q hQ => ?_)
  refine W.nameR (fun R hR => ?_)
  have hRf : 6 ≤ R.frames := by rw [hR]; exact Nat.le_of_ble_eq_true rfl
  have hRl : 165 ≤ R.locals := by rw [hR]; exact Nat.le_of_ble_eq_true rfl
  have hRc : 0 ≤ R.cells := by rw [hR]; exact Nat.le_of_ble_eq_true rfl
  have hRs : 0 ≤ R.slots := by rw [hR]; exact Nat.le_of_ble_eq_true rfl
  have hF : fr K L [12, 14, 15, 32, 42, 45, 46, 79, 80, 81, 83] M M := fr.rf
  have hG : fG K L [1, 7, 8, 13, 14, 15, 16, 17, 18] M M := fG.rf
  have hl : lv_has ls 8 [(0, .ref za), (1, .int k1)] := hl
  have hW0 := hW
  refine lv_aload_n hx hb dX13_close_0 rfl (lv_at hl 0 rfl) ?_
  refine lv_iconst (v := 0) hx hb dX13_close_1 (by decide) ?_
  refine va_put (D := D) (ci := 13) (v := .int 0) (ty := .int) (C := RX13) (T := TX13) (N := 20) hx hb hg inG13 tyX13 tyX13_ok nmX13 hown hK hP hD hS 0 rfl rfl 0 (by decide) (hg _ wd_720) (fun _ h9 => h9) rfl (by decide +kernel) rfl rfl (Nat.le_of_ble_eq_true rfl) dX13_close_2 (fun H_1 locs hP hD hS => ?_)
  have hP : va_P D vwCl ([(za, .inr (13, [.int 0, .ref z1, .int (nI z2), .int (nI z3), .int z4, .int z5, .ref z6, .ref z7, .ref z8, .ref z9, .int (nI z10), .ref z11, .ref z12, .ref z13, .ref z14, .ref z15, .int (nI z16), .ref z17, .int z18, .ref z19]))] ++ va_pl L M) H_1 := hP
  have hD : va_D A ([(za, .inr (13, [.int 0, .ref z1, .int (nI z2), .int (nI z3), .int z4, .int z5, .ref z6, .ref z7, .ref z8, .ref z9, .int (nI z10), .ref z11, .ref z12, .ref z13, .ref z14, .ref z15, .int (nI z16), .ref z17, .int z18, .ref z19]))] ++ va_pl L M) := hD
  refine lv_aload_n hx hb dX13_close_5 rfl (lv_at hl 0 rfl) ?_
  refine lv_iload_n hx hb dX13_close_6 rfl (lv_at hl 1 rfl) ?_
  have hPc : va_P D vwCl ([(za, .inr (13, [.int 0, .ref z1, .int (nI z2), .int (nI z3), .int z4, .int z5, .ref z6, .ref z7, .ref z8, .ref z9, .int (nI z10), .ref z11, .ref z12, .ref z13, .ref z14, .ref z15, .int (nI z16), .ref z17, .int z18, .ref z19]))] ++ va_pl L M) H_1 := hP
  have hDc : va_D A ([(za, .inr (13, [.int 0, .ref z1, .int (nI z2), .int (nI z3), .int z4, .int z5, .ref z6, .ref z7, .ref z8, .ref z9, .int (nI z10), .ref z11, .ref z12, .ref z13, .ref z14, .ref z15, .int (nI z16), .ref z17, .int z18, .ref z19]))] ++ va_pl L M) := hD
  have hFc : ∀ q, va_A ([(za, .inr (13, [.int 0, .ref z1, .int (nI z2), .int (nI z3), .int z4, .int z5, .ref z6, .ref z7, .ref z8, .ref z9, .int (nI z10), .ref z11, .ref z12, .ref z13, .ref z14, .ref z15, .int (nI z16), .ref z17, .int z18, .ref z19]))] ++ va_pl L M) H_1.size q → A q := pg_free hDc hS hA
  refine va_calli (va_runV (As := [.int k1]) (rest := []) ⟨hx, hb, hml, hown, hg⟩ (f_isHouse l D cy K L M H_1.size za 0 z1 z2 z3 z4 z5 z6 z7 z8 z9 z10 z11 z12 z13 z14 z15 z16 z17 z18 z19 k1  hW i1 b2 b3 i6 i7 i8 i9 b10 i11 i12 i13 i14 i15 b16 i17 i19) (cwV 1 hg (gV wd_714 wd_715 wd_716 wd_717 wd_718) rfl rfl rfl (by decide +kernel) ⟨(Nat.le_trans (Nat.le_of_ble_eq_true rfl) hRf), (Nat.le_trans (Nat.le_of_ble_eq_true rfl) hRl)⟩) ⟨PG.blind, va_recv hK hP (ci := 13) (q0 := 0) rfl rfl, fun U hU hW => ⟨rfl, PG.at hPc hK hDc hN hU hW⟩⟩ rfl rfl hl.1 rfl (lv_room (Nat.le_of_ble_eq_true rfl)) dX13_close_7 ⟨(Nat.le_trans (Nat.le_of_ble_eq_true rfl) hRc), (Nat.le_trans (Nat.le_of_ble_eq_true rfl) hRs)⟩) hS (fun q _ h => hFc q h) hFc (fun r_3 M_4 t H_2 locs ht hvm hw hB hz1 hk1 hS => ?_)
  have hp_5 := hw
  obtain ⟨hP1, hD1⟩ := hB
  rw [ht] at hP1
  have hP : va_P D vwCl ([(za, .inr (13, [.int 0, .ref z1, .int (nI z2), .int (nI z3), .int z4, .int z5, .ref z6, .ref z7, .ref z8, .ref z9, .int (nI z10), .ref z11, .ref z12, .ref z13, .ref z14, .ref z15, .int (nI z16), .ref z17, .int z18, .ref z19]))] ++ va_pl L M) H_2 := hP1
  have hD : va_D A ([(za, .inr (13, [.int 0, .ref z1, .int (nI z2), .int (nI z3), .int z4, .int z5, .ref z6, .ref z7, .ref z8, .ref z9, .int (nI z10), .ref z11, .ref z12, .ref z13, .ref z14, .ref z15, .int (nI z16), .ref z17, .int z18, .ref z19]))] ++ va_pl L M) := hD1.mono hFc
  rcases hp_5 with ⟨rfl, c_6, c_7, c_8⟩ | ⟨rfl, c_9⟩
  · have hz := rfl (a := 0)
    refine lv_if_ne (tgt := 19) hx hb dX13_close_10 (by decide) (fun _ => ?_) (fun c_10 => absurd c_10 (by decide))
    refine lv_aload_n hx hb dX13_close_19 rfl (lv_at hl 0 rfl) ?_
    refine va_get (D := D) (ci := 13) (v := .ref z1) (C := RX13) (T := TX13) (N := 20) hx hb hg inG13 hown hK hP 0 rfl rfl 1 (by decide) (hg _ wd_739) (fun _ h9 => h9) rfl dX13_close_20 ?_
    refine lv_iload_n hx hb dX13_close_23 rfl (lv_at hl 1 rfl) ?_
    obtain ⟨f11, hM11, hf11⟩ := hW.open_23 i1
    have hi_12 : vp_in k1 8 := (inbW (a := z2) (by omega) (inb k1 z2 (by omega) c_7 c_8))
    refine pg_aldq hx hb hK hP i1.1 9 hM11 rfl hi_12 dX13_close_24 ?_
    obtain ⟨b13, eb_14, hb_15⟩ := hf11 _ (vp_lt hi_12)
    rw [eb_14]
    have hact : ACT z1 z2 b13 M := ⟨(k1 : Int32).toNatClampNeg, vp_lt (inb k1 z2 (by omega) c_7 c_8), by rw [show RFc (M z1) = f11 from by rw [hM11]; rfl]; exact eb_14⟩
    have hAT := GI.at hGI hact
    have hV : VW K L M M b13 (fx M b13) (ax M b13) := VW.rf b13 hGI.2.2.2
    refine lv_astore_n (lv' := [(2, .ref b13), (0, .ref za), (1, .int k1)]) hx hb dX13_close_25 rfl hl (by decide) rfl (fun ls hl => ?_)
    have hb9 : RFc (M z1) (k1 : Int32).toNatClampNeg = some b13 := by rw [show RFc (M z1) = f11 from by rw [hM11]; rfl]; exact eb_14
    have hkn : (k1 : Int32).toNatClampNeg < z2 := vp_lt (inb k1 z2 (by omega) c_7 c_8)
    have hZk := hZS _ b13 hkn hb9
    have hz0 : fx M b13 0 = SX (k1 : Int32).toNatClampNeg 0 := congrFun hZk.1 0
    have hz1 : fx M b13 1 = SX (k1 : Int32).toNatClampNeg 1 := congrFun hZk.1 1
    have hz10 : fx M b13 10 = SX (k1 : Int32).toNatClampNeg 10 := congrFun hZk.1 10
    have hz11 : fx M b13 11 = SX (k1 : Int32).toNatClampNeg 11 := congrFun hZk.1 11
    have hz12 : fx M b13 12 = SX (k1 : Int32).toNatClampNeg 12 := congrFun hZk.1 12
    have hz13 : fx M b13 13 = SX (k1 : Int32).toNatClampNeg 13 := congrFun hZk.1 13
    have hz14 : fx M b13 14 = SX (k1 : Int32).toNatClampNeg 14 := congrFun hZk.1 14
    have hz15 : fx M b13 15 = SX (k1 : Int32).toNatClampNeg 15 := congrFun hZk.1 15
    have hz16 : fx M b13 16 = SX (k1 : Int32).toNatClampNeg 16 := congrFun hZk.1 16
    obtain ⟨fs16, hM16, hn16, hl16⟩ := hW.open_12 hb_15
    obtain ⟨v17, hv17, hc17⟩ : ∃ v : Nat, fs16[0]? = some (.int (nI v) : Value) ∧ v ≤ 999 := hl16 0 (by decide)
    have hx0 : (fx M b13 0) = ((v17 : Nat) : Int) := (congrFun hV.2.1 0).symm.trans ((fx_of hM16 rfl hv17).trans (nI_toInt (by omega)))
    obtain ⟨v18, hv18, hc18⟩ : ∃ v : Int32, fs16[1]? = some (.int v : Value) ∧ (v = (-1) ∨ ∃ c : Nat, c < 1000 ∧ v = nI c) := hl16 1 (by decide)
    have hx1 : (fx M b13 1) = (v18 : Int32).toInt := (congrFun hV.2.1 1).symm.trans (fx_of hM16 rfl hv18)
    obtain ⟨v19, hv19, hc19⟩ : ∃ v : Nat, fs16[11]? = some (.int (nI v) : Value) ∧ v ≤ 16 := hl16 11 (by decide)
    have hx11 : (fx M b13 11) = ((v19 : Nat) : Int) := (congrFun hV.2.1 11).symm.trans ((fx_of hM16 rfl hv19).trans (nI_toInt (by omega)))
    obtain ⟨v20, hv20, hc20⟩ : ∃ v : Nat, fs16[12]? = some (.int (nI v) : Value) ∧ v ≤ 12 := hl16 12 (by decide)
    have hx12 : (fx M b13 12) = ((v20 : Nat) : Int) := (congrFun hV.2.1 12).symm.trans ((fx_of hM16 rfl hv20).trans (nI_toInt (by omega)))
    obtain ⟨v21, hv21, hc21⟩ : ∃ v : Nat, fs16[13]? = some (.int (nI v) : Value) ∧ v ≤ 12 := hl16 13 (by decide)
    have hx13 : (fx M b13 13) = ((v21 : Nat) : Int) := (congrFun hV.2.1 13).symm.trans ((fx_of hM16 rfl hv21).trans (nI_toInt (by omega)))
    obtain ⟨v22, hv22, hc22⟩ : ∃ v : Nat, fs16[37]? = some (.ref v : Value) ∧ isk K L v 38 12 := hl16 37 (by decide)
    obtain ⟨f23, hM23, hf23⟩ := hW.open_38 hc22
    have hy37 : (ax M b13 37) = f23 := (congrFun hV.2.2.1 37).symm.trans (ax_of hM16 (by decide) hv22 hM23)
    have hb13 := hx13
    have hb12 := hx12
    have hb0 := hx0
    have hb37 := hy37
    refine lv_aload_n hx hb dX13_close_26 rfl (lv_at hl 0 rfl) ?_
    refine pg_getN (D := D) (ci := 12) (v := .int (nI v21)) (C := RX12) (T := TX12) (N := 51) hx hb hg inG12 hown hK hP hb_15.1 hM16 rfl 13 (by decide) (hN.use (Cond.fieldLinkNest RX13 244 RX12 "closed" "I" RX13) 22 rfl rfl) (fun _ h9 => h9) hv21 dX13_close_27 ?_
    refine lv_aload_n hx hb dX13_close_30 rfl (lv_at hl 0 rfl) ?_
    refine pg_getN (D := D) (ci := 12) (v := .int (nI v20)) (C := RX12) (T := TX12) (N := 51) hx hb hg inG12 hown hK hP hb_15.1 hM16 rfl 12 (by decide) (hN.use (Cond.fieldLinkNest RX13 233 RX12 "years" "I" RX13) 21 rfl rfl) (fun _ h9 => h9) hv20 dX13_close_31 ?_
    refine lv_icmp_ne (tgt := 44) hx hb dX13_close_34 (by decide) (fun c_24 => ?_) (fun c_24 => ?_)
    · have hz := rfl (a := 0)
      have n_25 : ¬ (v21 = v20) := fun q => c_24 ((iEQ (a := v21) (b := v20) (by omega) (by omega)).mpr q)
      refine lv_aload_n hx hb dX13_close_44 rfl (lv_at hl 0 rfl) ?_
      refine pg_getN (D := D) (ci := 12) (v := .int (nI v19)) (C := RX12) (T := TX12) (N := 51) hx hb hg inG12 hown hK hP hb_15.1 hM16 rfl 11 (by decide) (hN.use (Cond.fieldLinkNest RX13 142 RX12 "rules" "I" RX13) 20 rfl rfl) (fun _ h9 => h9) hv19 dX13_close_45 ?_
      refine lv_if_ne (tgt := 57) hx hb dX13_close_48 (by decide) (fun c_26 => ?_) (fun c_26 => ?_)
      · have hz := rfl (a := 0)
        have n_27 : ¬ (v19 = 0) := fun q => c_26 ((iEQ (a := v19) (b := 0) (by omega) (by omega)).mpr q)
        refine lv_aload_n hx hb dX13_close_57 rfl (lv_at hl 0 rfl) ?_
        refine pg_getN (D := D) (ci := 12) (v := .int v18) (C := RX12) (T := TX12) (N := 51) hx hb hg inG12 hown hK hP hb_15.1 hM16 rfl 1 (by decide) (hN.use (Cond.fieldLinkNest RX13 80 RX12 "to" "I" RX13) 10 rfl rfl) (fun _ h9 => h9) hv18 dX13_close_58 ?_
        rcases hc18 with rfl | ⟨c_28, hc_29, rfl⟩
        · have hz := rfl (a := 0)
          refine lv_iconst (v := 1) hx hb dX13_close_61 (by decide) ?_
          refine lv_iadd hx hb dX13_close_62 ?_
          refine lv_topi (fun f_30 ef_30 => ?_)
          obtain rfl : f_30 = 0 := by rw [ef_30]; decide
          refine lv_istore_n (lv' := [(3, .int 0), (2, .ref b13), (0, .ref za), (1, .int k1)]) hx hb dX13_close_63 rfl hl (by decide) rfl (fun ls hl => ?_)
          have hlt13 : v21 < v20 := by have h := hAT.2.2.2.2.1; omega
          refine lv_aload_n hx hb dX13_close_64 rfl (lv_at hl 1 rfl) ?_
          refine pg_getN (D := D) (ci := 12) (v := .ref v22) (C := RX12) (T := TX12) (N := 51) hx hb hg inG12 hown hK hP hb_15.1 hM16 rfl 37 (by decide) (hN.use (Cond.fieldLinkNest RX13 236 RX12 "end" "[I" RX13) 46 rfl rfl) (fun _ h9 => h9) hv22 dX13_close_65 ?_
          refine lv_aload_n hx hb dX13_close_68 rfl (lv_at hl 1 rfl) ?_
          refine pg_getN (D := D) (ci := 12) (v := .int (nI v21)) (C := RX12) (T := TX12) (N := 51) hx hb hg inG12 hown hK hP hb_15.1 hM16 rfl 13 (by decide) (hN.use (Cond.fieldLinkNest RX13 244 RX12 "closed" "I" RX13) 22 rfl rfl) (fun _ h9 => h9) hv21 dX13_close_69 ?_
          have hi_31 : vp_in (nI v21) 12 := (inbN v21 12 (by omega) (by omega))
          refine pg_iald hx hb hK hP hc22.1 0 hM23 rfl hi_31 dX13_close_72 ?_
          have hp_32 := hf23 _ (vp_lt hi_31)
          obtain ⟨c_33, hc_34, ec_35⟩ := hp_32
          rw [ec_35]
          refine lv_istore (lv' := [(4, .int (nI c_33)), (3, .int 0), (2, .ref b13), (0, .ref za), (1, .int k1)]) hx hb dX13_close_73 hl (by decide) rfl (fun ls hl => ?_)
          have hx1b : fx M b13 1 = ((0 : Nat) : Int) - 1 := by rw [hx1]; first | decide | (rw [nI_toInt (by omega)]; omega)
          obtain ⟨hq1, hq2, hq3, hq4⟩ := heC hAT.2.2.2.2 hb13 hb12 (by omega) (by omega) hb37 (nI_cl (by omega)) ec_35 (by omega)
          have h11 : 1 ≤ fx M b13 11 := by omega
          have hT37 : (ax M b13 37 v21).toInt = ((c_33 : Nat) : Int) := by
            have h := ec_35
            rw [nI_cl (by omega)] at h
            rw [hb37, h, nI_toInt (by omega)]
          have hEd : enD (SX (k1 : Int32).toNatClampNeg) (SY (k1 : Int32).toNatClampNeg) = ((c_33 : Nat) : Int) := by unfold enD; rw [← hZk.2, show (SX (k1 : Int32).toNatClampNeg 13).toNat = v21 by omega]; exact hT37
          refine lv_iload_n hx hb dX13_close_75 rfl (lv_at hl 1 rfl) ?_
          refine lv_istore (lv' := [(5, .int 0), (4, .int (nI c_33)), (3, .int 0), (2, .ref b13), (0, .ref za), (1, .int k1)]) hx hb dX13_close_76 hl (by decide) rfl (fun ls hl => ?_)
          have key_36 : ∀ (fu_38 : Nat) (v5w39 : Nat) (M_42 : Hp) (H_43 : Heap) (locs : List Loc) (ls : Array Slot), 1001 - v5w39 < fu_38 → M_42 b13 = .inr (12, fs16) → v5w39 ≤ 1000 → (∀ d : Nat, SX (k1 : Int32).toNatClampNeg 1 < (d : Int) → d < v5w39 → ¬ opD (SY (k1 : Int32).toNatClampNeg) d) → WOM cy K L M_42 → fr K L [12, 14, 15, 32, 42, 45, 46, 79, 80, 81, 83] M M_42 → fG K L [1, 7, 8, 13, 14, 15, 16, 17, 18] M M_42 → VW K L M M_42 b13 (fx M b13) (ax M b13) → va_P D vwCl ([(za, .inr (13, [.int 0, .ref z1, .int (nI z2), .int (nI z3), .int z4, .int z5, .ref z6, .ref z7, .ref z8, .ref z9, .int (nI z10), .ref z11, .ref z12, .ref z13, .ref z14, .ref z15, .int (nI z16), .ref z17, .int z18, .ref z19]))] ++ va_pl L M_42) H_43 → va_D A ([(za, .inr (13, [.int 0, .ref z1, .int (nI z2), .int (nI z3), .int z4, .int z5, .ref z6, .ref z7, .ref z8, .ref z9, .int (nI z10), .ref z11, .ref z12, .ref z13, .ref z14, .ref z15, .int (nI z16), .ref z17, .int z18, .ref z19]))] ++ va_pl L M_42) → va_S A s.heap H_43 locs → lv_has ls 8 [(5, .int (nI v5w39)), (4, .int (nI c_33)), (3, .int 0), (2, .ref b13), (0, .ref za), (1, .int k1)] → W p l e R s m ([.ref za, .int k1] : List Value).toArray below meth c H_43 locs 0 0 Q (F0 m 78 ls []) := by
            intro fu_38
            induction fu_38 with
            | zero => intro v5w39 M_42 H_43 locs ls h; exact absurd h (Nat.not_lt_zero _)
            | succ fu_38 ih_37 =>
              intro v5w39 M_42 H_43 locs ls hfu hM_44 hx_40 hx_41 hW hF hG hV hP hD hS hl
              refine lv_iload hx hb dX13_close_78 (lv_at hl 0 rfl) ?_
              refine lv_iload hx hb dX13_close_80 (lv_at hl 1 rfl) ?_
              refine lv_icmp_gt (tgt := 108) hx hb dX13_close_82 (by decide) (fun c_45 => ?_) (fun c_45 => ?_)
              · have hz := rfl (a := 0)
                have n_46 : c_33 < v5w39 := (iLT (a := c_33) (b := v5w39) (by omega) (by omega)).mp c_45
                have hall := hx_41
                have hv5 : c_33 < v5w39 := by omega
                have hI_47 : (0 : Int) ≤ (k1 : Int32).toInt := inltI rfl rfl c_7
                have hI_48 : (k1 : Int32).toInt < ((z2 : Nat) : Int) := inleI (nI_toInt (by omega)) rfl c_8
                have hI_49 : ((v21 : Nat) : Int) ≠ ((v20 : Nat) : Int) := ineI (nI_toInt (by omega)) (nI_toInt (by omega)) c_24
                have hI_50 : ((v19 : Nat) : Int) ≠ (0 : Int) := ineI (nI_toInt (by omega)) rfl c_26
                have hI_51 : ((c_33 : Nat) : Int) < ((v5w39 : Nat) : Int) := iltI (nI_toInt (by omega)) (nI_toInt (by omega)) c_45
                have hZSw := ZSx.fin hW0 i1 b2 hZS hGI.1 hkn hb9 hV (hF.at i1 (by decide)) hZk.1 hZk.2
                rw [va_upJ, va_upJ] at hZSw
                have hZPw := ZP.mv hZP i6 i7 hF (by decide) (by decide)
                refine lv_aload_n hx hb dX13_close_108 rfl (lv_at hl 4 rfl) ?_
                refine lv_iload_n hx hb dX13_close_109 rfl (lv_at hl 5 rfl) ?_
                refine lv_iload hx hb dX13_close_110 (lv_at hl 1 rfl) ?_
                have hPc : va_P D vwCl ([(za, .inr (13, [.int 0, .ref z1, .int (nI z2), .int (nI z3), .int z4, .int z5, .ref z6, .ref z7, .ref z8, .ref z9, .int (nI z10), .ref z11, .ref z12, .ref z13, .ref z14, .ref z15, .int (nI z16), .ref z17, .int z18, .ref z19]))] ++ va_pl L M_42) H_43 := hP
                have hDc : va_D A ([(za, .inr (13, [.int 0, .ref z1, .int (nI z2), .int (nI z3), .int z4, .int z5, .ref z6, .ref z7, .ref z8, .ref z9, .int (nI z10), .ref z11, .ref z12, .ref z13, .ref z14, .ref z15, .int (nI z16), .ref z17, .int z18, .ref z19]))] ++ va_pl L M_42) := hD
                have hFc : ∀ q, va_A ([(za, .inr (13, [.int 0, .ref z1, .int (nI z2), .int (nI z3), .int z4, .int z5, .ref z6, .ref z7, .ref z8, .ref z9, .int (nI z10), .ref z11, .ref z12, .ref z13, .ref z14, .ref z15, .int (nI z16), .ref z17, .int z18, .ref z19]))] ++ va_pl L M_42) H_43.size q → A q := pg_free hDc hS hA
                refine va_calli (va_runV (As := [.int k1, .int (nI c_33)]) (rest := []) ⟨hx, hb, hml, hown, hg⟩ (z_behind l D cy K L M_42 H_43.size za 0 z1 z2 z3 z4 z5 z6 z7 z8 z9 z10 z11 z12 z13 z14 z15 z16 z17 z18 z19 k1 (nI c_33) SX SY PK PT  hW i1 b2 b3 i6 i7 i8 i9 b10 i11 i12 i13 i14 i15 b16 i17 i19 hZSw hZPw (by omega)) (cwV 2 hg (gV wd_853 wd_854 wd_855 wd_717 wd_856) rfl rfl rfl (by decide +kernel) ⟨(Nat.le_trans (Nat.le_of_ble_eq_true rfl) hRf), (Nat.le_trans (Nat.le_of_ble_eq_true rfl) hRl)⟩) ⟨PG.blind, va_recv hK hP (ci := 13) (q0 := 0) rfl rfl, fun U hU hW => ⟨rfl, PG.at hPc hK hDc hN hU hW⟩⟩ rfl rfl hl.1 rfl (lv_room (Nat.le_of_ble_eq_true rfl)) dX13_close_112 ⟨(Nat.le_trans (Nat.le_of_ble_eq_true rfl) hRc), (Nat.le_trans (Nat.le_of_ble_eq_true rfl) hRs)⟩) hS (fun q _ h => hFc q h) hFc (fun r_53 M_54 t H_52 locs ht hvm hw hB hz1 hk1 hS => ?_)
                have hp_55 := hw
                obtain ⟨hP1, hD1⟩ := hB
                rw [ht] at hP1
                have hP : va_P D vwCl ([(za, .inr (13, [.int 0, .ref z1, .int (nI z2), .int (nI z3), .int z4, .int z5, .ref z6, .ref z7, .ref z8, .ref z9, .int (nI z10), .ref z11, .ref z12, .ref z13, .ref z14, .ref z15, .int (nI z16), .ref z17, .int z18, .ref z19]))] ++ va_pl L M_42) H_52 := hP1
                have hD : va_D A ([(za, .inr (13, [.int 0, .ref z1, .int (nI z2), .int (nI z3), .int z4, .int z5, .ref z6, .ref z7, .ref z8, .ref z9, .int (nI z10), .ref z11, .ref z12, .ref z13, .ref z14, .ref z15, .int (nI z16), .ref z17, .int z18, .ref z19]))] ++ va_pl L M_42) := hD1.mono hFc
                rcases hp_55 with ⟨rfl, c_56⟩ | ⟨j_57, rfl, c_58, c_59, c_60⟩
                · have hz := rfl (a := 0)
                  refine lv_istore (lv' := [(5, .int (-1)), (4, .int (nI c_33)), (3, .int 0), (2, .ref b13), (0, .ref za), (1, .int k1)]) hx hb dX13_close_115 hl (by decide) rfl (fun ls hl => ?_)
                  refine lv_iload hx hb dX13_close_117 (lv_at hl 0 rfl) ?_
                  refine lv_iconst (v := (-1)) hx hb dX13_close_119 (by decide) ?_
                  refine lv_icmp_eq (tgt := 132) hx hb dX13_close_120 (by decide) (fun _ => ?_) (fun c_61 => absurd c_61 (by decide))
                  refine lv_aload_n hx hb dX13_close_132 rfl (lv_at hl 3 rfl) ?_
                  refine lv_iconst (v := 0) hx hb dX13_close_133 (by decide) ?_
                  refine pg_putN (D := D) (ci := 12) (v := .int 0) (ty := .int) (C := RX12) (T := TX12) (N := 51) hx hb hg inG12 tyX12 tyX12_ok nmX12 hown hK hP hD hS hb_15.1 hM_44 rfl 17 (by decide) (hN.use (Cond.fieldLinkNest RX13 256 RX12 "stretches" "I" RX13) 26 rfl rfl) (fun _ h9 => h9) rfl (by decide +kernel) rfl rfl (by rw [hn16]; decide) dX13_close_134 (fun H_62 locs hP hD hS => ?_)
                  have hs_65 : (fs16.set 17 (.int 0))[17]? = some (.int (nI 0)) := List.getElem?_set_self (by rw [hn16]; decide)
                  have hk_64 := fld12_set (k := 17) (w := .int 0) hl16 (show fld12 K L 17 (fs16.set 17 (.int 0)) from ⟨0, hs_65, by omega⟩)
                  have hn_66 : (fs16.set 17 (.int 0)).length = 51 := by rw [List.length_set]; exact hn16
                  have hv_67 : (fs16.set 17 (.int 0))[0]? = some (.int (nI v17)) := by rw [List.getElem?_set_ne (by decide)]; exact hv17
                  have hv_68 : (fs16.set 17 (.int 0))[1]? = some (.int (-1)) := by rw [List.getElem?_set_ne (by decide)]; exact hv18
                  have hv_69 : (fs16.set 17 (.int 0))[11]? = some (.int (nI v19)) := by rw [List.getElem?_set_ne (by decide)]; exact hv19
                  have hv_70 : (fs16.set 17 (.int 0))[12]? = some (.int (nI v20)) := by rw [List.getElem?_set_ne (by decide)]; exact hv20
                  have hv_71 : (fs16.set 17 (.int 0))[13]? = some (.int (nI v21)) := by rw [List.getElem?_set_ne (by decide)]; exact hv21
                  have hv_72 : (fs16.set 17 (.int 0))[37]? = some (.ref v22) := by rw [List.getElem?_set_ne (by decide)]; exact hv22
                  have hb_73 : 0 ≤ 120 := by omega
                  obtain ⟨M_74, eM_74⟩ : ∃ M1 : Hp, M1 = va_up M_42 b13 (.inr (12, fs16.set 17 (.int 0))) := ⟨_, rfl⟩
                  have hV : VW K L M M_74 b13 (va_up (fx M b13) 17 (0 : Int)) (ax M b13) := by rw [eM_74]; exact hV.put hW hb_15 hM_44 hn16 rfl (by decide) rfl (by decide)
                  have hP : va_P D vwCl ([(za, .inr (13, [.int 0, .ref z1, .int (nI z2), .int (nI z3), .int z4, .int z5, .ref z6, .ref z7, .ref z8, .ref z9, .int (nI z10), .ref z11, .ref z12, .ref z13, .ref z14, .ref z15, .int (nI z16), .ref z17, .int z18, .ref z19]))] ++ va_pl L M_74) H_62 := by rw [eM_74]; exact hP
                  have hD : va_D A ([(za, .inr (13, [.int 0, .ref z1, .int (nI z2), .int (nI z3), .int z4, .int z5, .ref z6, .ref z7, .ref z8, .ref z9, .int (nI z10), .ref z11, .ref z12, .ref z13, .ref z14, .ref z15, .int (nI z16), .ref z17, .int z18, .ref z19]))] ++ va_pl L M_74) := by rw [eM_74]; exact hD
                  have hW : WOM cy K L M_74 := by rw [eM_74]; exact hW.up_12 hb_15 ⟨_, rfl, hn_66, hk_64⟩
                  have hF : fr K L [12, 14, 15, 32, 42, 45, 46, 79, 80, 81, 83] M M_74 := by rw [eM_74]; exact hF.up hb_15 (by decide)
                  have hG : fG K L [1, 7, 8, 13, 14, 15, 16, 17, 18] M M_74 := by rw [eM_74]; exact hG.up hM_44 (by decide)
                  have hM_75 : M_74 b13 = .inr (12, fs16.set 17 (.int 0)) := by rw [eM_74]; exact va_up_self _ _ _
                  refine lv_iconst (v := 0) hx hb dX13_close_137 (by decide) ?_
                  refine lv_istore (lv' := [(6, .int 0), (5, .int (-1)), (4, .int (nI c_33)), (3, .int 0), (2, .ref b13), (0, .ref za), (1, .int k1)]) hx hb dX13_close_138 hl (by decide) rfl (fun ls hl => ?_)
                  have key_76 : ∀ (fu_78 : Nat) (v6w79 : Nat) (M_81 : Hp) (H_82 : Heap) (locs : List Loc) (ls : Array Slot), 24 - v6w79 < fu_78 → M_81 b13 = .inr (12, fs16.set 17 (.int 0)) → v6w79 ≤ 24 → WOM cy K L M_81 → fr K L [12, 14, 15, 32, 42, 45, 46, 79, 80, 81, 83] M M_81 → fG K L [1, 7, 8, 13, 14, 15, 16, 17, 18] M M_81 → VW K L M M_81 b13 (va_up (fx M b13) 17 (0 : Int)) (ax M b13) → va_P D vwCl ([(za, .inr (13, [.int 0, .ref z1, .int (nI z2), .int (nI z3), .int z4, .int z5, .ref z6, .ref z7, .ref z8, .ref z9, .int (nI z10), .ref z11, .ref z12, .ref z13, .ref z14, .ref z15, .int (nI z16), .ref z17, .int z18, .ref z19]))] ++ va_pl L M_81) H_82 → va_D A ([(za, .inr (13, [.int 0, .ref z1, .int (nI z2), .int (nI z3), .int z4, .int z5, .ref z6, .ref z7, .ref z8, .ref z9, .int (nI z10), .ref z11, .ref z12, .ref z13, .ref z14, .ref z15, .int (nI z16), .ref z17, .int z18, .ref z19]))] ++ va_pl L M_81) → va_S A s.heap H_82 locs → lv_has ls 8 [(6, .int (nI v6w79)), (5, .int (-1)), (4, .int (nI c_33)), (3, .int 0), (2, .ref b13), (0, .ref za), (1, .int k1)] → W p l e R s m ([.ref za, .int k1] : List Value).toArray below meth c H_82 locs 0 0 Q (F0 m 140 ls []) := by
                    intro fu_78
                    induction fu_78 with
                    | zero => intro v6w79 M_81 H_82 locs ls h; exact absurd h (Nat.not_lt_zero _)
                    | succ fu_78 ih_77 =>
                      intro v6w79 M_81 H_82 locs ls hfu hM_83 hx_80 hW hF hG hV hP hD hS hl
                      refine lv_iload hx hb dX13_close_140 (lv_at hl 0 rfl) ?_
                      refine lv_bipush (v := 24) hx hb dX13_close_142 (by decide) ?_
                      refine lv_icmp_ge (tgt := 161) hx hb dX13_close_144 (by decide) (fun c_84 => ?_) (fun c_84 => ?_)
                      · have hz := rfl (a := 0)
                        have n_85 : 24 ≤ v6w79 := (iLE (a := 24) (b := v6w79) (by omega) (by omega)).mp c_84
                        refine lv_iload_n hx hb dX13_close_161 rfl (lv_at hl 3 rfl) ?_
                        refine lv_istore (lv' := [(6, .int 0), (5, .int (-1)), (4, .int (nI c_33)), (3, .int 0), (2, .ref b13), (0, .ref za), (1, .int k1)]) hx hb dX13_close_162 hl (by decide) rfl (fun ls hl => ?_)
                        have key_86 : ∀ (fu_88 : Nat) (v6w89 : Nat) (gnw89 : Nat) (gpw89 : Nat → Int32) (gqw89 : Nat → Int32) (M_92 : Hp) (H_93 : Heap) (locs : List Loc) (ls : Array Slot), 1001 - v6w89 < fu_88 → v6w89 ≤ c_33 + 1 → SD 0 gnw89 v6w89 gpw89 gqw89 → WOM cy K L M_92 → fr K L [12, 14, 15, 32, 42, 45, 46, 79, 80, 81, 83] M M_92 → fG K L [1, 7, 8, 13, 14, 15, 16, 17, 18] M M_92 → VW K L M M_92 b13 (va_up (fx M b13) 17 ((gnw89 : Nat) : Int)) (va_up (va_up (ax M b13) 44 gpw89) 45 gqw89) → va_P D vwCl ([(za, .inr (13, [.int 0, .ref z1, .int (nI z2), .int (nI z3), .int z4, .int z5, .ref z6, .ref z7, .ref z8, .ref z9, .int (nI z10), .ref z11, .ref z12, .ref z13, .ref z14, .ref z15, .int (nI z16), .ref z17, .int z18, .ref z19]))] ++ va_pl L M_92) H_93 → va_D A ([(za, .inr (13, [.int 0, .ref z1, .int (nI z2), .int (nI z3), .int z4, .int z5, .ref z6, .ref z7, .ref z8, .ref z9, .int (nI z10), .ref z11, .ref z12, .ref z13, .ref z14, .ref z15, .int (nI z16), .ref z17, .int z18, .ref z19]))] ++ va_pl L M_92) → va_S A s.heap H_93 locs → lv_has ls 8 [(6, .int (nI v6w89)), (5, .int (-1)), (4, .int (nI c_33)), (3, .int 0), (2, .ref b13), (0, .ref za), (1, .int k1)] → W p l e R s m ([.ref za, .int k1] : List Value).toArray below meth c H_93 locs 0 0 Q (F0 m 164 ls []) := by
                          intro fu_88
                          induction fu_88 with
                          | zero => intro v6w89 gnw89 gpw89 gqw89 M_92 H_93 locs ls h; exact absurd h (Nat.not_lt_zero _)
                          | succ fu_88 ih_87 =>
                            intro v6w89 gnw89 gpw89 gqw89 M_92 H_93 locs ls hfu hx_90 hx_91 hW hF hG hV hP hD hS hl
                            refine lv_iload hx hb dX13_close_164 (lv_at hl 0 rfl) ?_
                            refine lv_iload hx hb dX13_close_166 (lv_at hl 2 rfl) ?_
                            refine lv_icmp_gt (tgt := 238) hx hb dX13_close_168 (by decide) (fun c_94 => ?_) (fun c_94 => ?_)
                            · have hz := rfl (a := 0)
                              have n_95 : c_33 < v6w89 := (iLT (a := c_33) (b := v6w89) (by omega) (by omega)).mp c_94
                              obtain ⟨fs96, hM96, hn96, hl96⟩ := hW.open_12 hb_15
                              obtain ⟨v97, hv97, hc97⟩ : ∃ v : Nat, fs96[17]? = some (.int (nI v) : Value) ∧ v ≤ 120 := hl96 17 (by decide)
                              have hx17 : ((gnw89 : Nat) : Int) = ((v97 : Nat) : Int) := (congrFun hV.2.1 17).symm.trans ((fx_of hM96 rfl hv97).trans (nI_toInt (by omega)))
                              have hSD := hx_91
                              obtain ⟨hs1, hs2, hs3, hs4⟩ := hx_91
                              have hNn : 1 ≤ gnw89 ∧ 1 ≤ (gqw89 0).toInt := by rcases hs3 with q | q <;> first | exact q | omega
                              have hN1 := hNn.1
                              have hs45 := hNn.2
                              refine lv_aload_n hx hb dX13_close_238 rfl (lv_at hl 4 rfl) ?_
                              refine pg_getN (D := D) (ci := 12) (v := .int (nI v97)) (C := RX12) (T := TX12) (N := 51) hx hb hg inG12 hown hK hP hb_15.1 hM96 rfl 17 (by decide) (hN.use (Cond.fieldLinkNest RX13 256 RX12 "stretches" "I" RX13) 26 rfl rfl) (fun _ h9 => h9) hv97 dX13_close_239 ?_
                              refine lv_istore (lv' := [(6, .int (nI v97)), (5, .int (-1)), (4, .int (nI c_33)), (3, .int 0), (2, .ref b13), (0, .ref za), (1, .int k1)]) hx hb dX13_close_242 hl (by decide) rfl (fun ls hl => ?_)
                              refine lv_aload_n hx hb dX13_close_244 rfl (lv_at hl 5 rfl) ?_
                              refine lv_aload_n hx hb dX13_close_245 rfl (lv_at hl 4 rfl) ?_
                              refine lv_iload hx hb dX13_close_246 (lv_at hl 0 rfl) ?_
                              have hPc : va_P D vwCl ([(za, .inr (13, [.int 0, .ref z1, .int (nI z2), .int (nI z3), .int z4, .int z5, .ref z6, .ref z7, .ref z8, .ref z9, .int (nI z10), .ref z11, .ref z12, .ref z13, .ref z14, .ref z15, .int (nI z16), .ref z17, .int z18, .ref z19]))] ++ va_pl L M_92) H_93 := hP
                              have hDc : va_D A ([(za, .inr (13, [.int 0, .ref z1, .int (nI z2), .int (nI z3), .int z4, .int z5, .ref z6, .ref z7, .ref z8, .ref z9, .int (nI z10), .ref z11, .ref z12, .ref z13, .ref z14, .ref z15, .int (nI z16), .ref z17, .int z18, .ref z19]))] ++ va_pl L M_92) := hD
                              have hFc : ∀ q, va_A ([(za, .inr (13, [.int 0, .ref z1, .int (nI z2), .int (nI z3), .int z4, .int z5, .ref z6, .ref z7, .ref z8, .ref z9, .int (nI z10), .ref z11, .ref z12, .ref z13, .ref z14, .ref z15, .int (nI z16), .ref z17, .int z18, .ref z19]))] ++ va_pl L M_92) H_93.size q → A q := pg_free hDc hS hA
                              refine va_callv (va_runV (As := [.ref b13, .int (nI v97)]) (rest := []) ⟨hx, hb, hml, hown, hg⟩ (g_X13_looses l D cy K L M_92 H_93.size za 0 z1 z2 z3 z4 z5 z6 z7 z8 z9 z10 z11 z12 z13 z14 z15 z16 z17 z18 z19 b13 v97  hW i1 b2 b3 i6 i7 i8 i9 b10 i11 i12 i13 i14 i15 b16 i17 i19 hb_15 (by omega) hV.2.2.2 (by omega) (by rw [hV.2.2.1]; exact hs45)) (cwV 2 hg (gV wd_857 wd_858 wd_859 wd_717 wd_860) rfl rfl rfl (by decide +kernel) ⟨(Nat.le_trans (Nat.le_of_ble_eq_true rfl) hRf), (Nat.le_trans (Nat.le_of_ble_eq_true rfl) hRl)⟩) ⟨PG.blind, va_recv hK hP (ci := 13) (q0 := 0) rfl rfl, fun U hU hW => ⟨rfl, PG.at hPc hK hDc hN hU hW⟩⟩ rfl rfl hl.1 rfl (lv_room (Nat.le_of_ble_eq_true rfl)) dX13_close_248 ⟨(Nat.le_trans (Nat.le_of_ble_eq_true rfl) hRc), (Nat.le_trans (Nat.le_of_ble_eq_true rfl) hRs)⟩) hS (fun q _ h => hFc q h) hFc (fun M_100 t H_98 locs ht hvm hw hB hz1 hk1 hS => ?_)
                              have hWb := hW
                              obtain ⟨hW, hF2, hG2, hp_101⟩ := hw
                              obtain ⟨hP1, hD1⟩ := hB
                              rw [ht] at hP1
                              have hP : va_P D vwCl ([(za, .inr (13, [.int 0, .ref z1, .int (nI z2), .int (nI z3), .int z4, .int z5, .ref z6, .ref z7, .ref z8, .ref z9, .int (nI z10), .ref z11, .ref z12, .ref z13, .ref z14, .ref z15, .int (nI z16), .ref z17, .int z18, .ref z19]))] ++ va_pl L M_100) H_98 := hP1
                              have hD : va_D A ([(za, .inr (13, [.int 0, .ref z1, .int (nI z2), .int (nI z3), .int z4, .int z5, .ref z6, .ref z7, .ref z8, .ref z9, .int (nI z10), .ref z11, .ref z12, .ref z13, .ref z14, .ref z15, .int (nI z16), .ref z17, .int z18, .ref z19]))] ++ va_pl L M_100) := hD1.mono hFc
                              have hM_102 : M_100 b13 = .inr (12, fs96) := (hF2.at hb_15 (by decide)).trans hM96
                              have hF : fr K L [12, 14, 15, 32, 42, 45, 46, 79, 80, 81, 83] M M_100 := hF.tr hF2 (by decide)
                              have hG : fG K L [1, 7, 8, 13, 14, 15, 16, 17, 18] M M_100 := hG.tr hWb hG2 (by decide)
                              have hV : VW K L M M_100 b13 (va_up (fx M b13) 17 ((gnw89 : Nat) : Int)) (va_up (va_up (ax M b13) 44 gpw89) 45 gqw89) := hV.cal hWb hW hF2 hG2 (by decide) (by decide) hb_15
                              refine lv_iconst (v := 0) hx hb dX13_close_251 (by decide) ?_
                              refine lv_istore (lv' := [(7, .int 0), (6, .int (nI v97)), (5, .int (-1)), (4, .int (nI c_33)), (3, .int 0), (2, .ref b13), (0, .ref za), (1, .int k1)]) hx hb dX13_close_252 hl (by decide) rfl (fun ls hl => ?_)
                              have key_103 : ∀ (fu_105 : Nat) (v7w106 : Nat) (zgw106 : Nat) (M_109 : Hp) (H_110 : Heap) (locs : List Loc) (ls : Array Slot), 1001 - v7w106 < fu_105 → v7w106 ≤ v97 → zgw106 ≤ 24 → WOM cy K L M_109 → fr K L [12, 14, 15, 32, 42, 45, 46, 79, 80, 81, 83] M M_109 → fG K L [1, 7, 8, 13, 14, 15, 16, 17, 18] M M_109 → VW K L M M_109 b13 (va_up (fx M b13) 17 ((gnw89 : Nat) : Int)) (va_up (va_up (ax M b13) 44 gpw89) 45 gqw89) → va_P D vwCl ([(za, .inr (13, [.int 0, .ref z1, .int (nI z2), .int (nI z3), .int z4, .int z5, .ref z6, .ref z7, .ref z8, .ref z9, .int (nI z10), .ref z11, .ref z12, .ref z13, .ref z14, .ref z15, .int (nI zgw106), .ref z17, .int z18, .ref z19]))] ++ va_pl L M_109) H_110 → va_D A ([(za, .inr (13, [.int 0, .ref z1, .int (nI z2), .int (nI z3), .int z4, .int z5, .ref z6, .ref z7, .ref z8, .ref z9, .int (nI z10), .ref z11, .ref z12, .ref z13, .ref z14, .ref z15, .int (nI zgw106), .ref z17, .int z18, .ref z19]))] ++ va_pl L M_109) → va_S A s.heap H_110 locs → lv_has ls 8 [(7, .int (nI v7w106)), (6, .int (nI v97)), (5, .int (-1)), (4, .int (nI c_33)), (3, .int 0), (2, .ref b13), (0, .ref za), (1, .int k1)] → W p l e R s m ([.ref za, .int k1] : List Value).toArray below meth c H_110 locs 0 0 Q (F0 m 254 ls []) := by
                                intro fu_105
                                induction fu_105 with
                                | zero => intro v7w106 zgw106 M_109 H_110 locs ls h; exact absurd h (Nat.not_lt_zero _)
                                | succ fu_105 ih_104 =>
                                  intro v7w106 zgw106 M_109 H_110 locs ls hfu hx_107 hx_108 hW hF hG hV hP hD hS hl
                                  refine lv_iload hx hb dX13_close_254 (lv_at hl 0 rfl) ?_
                                  refine lv_iload hx hb dX13_close_256 (lv_at hl 1 rfl) ?_
                                  refine lv_icmp_ge (tgt := 275) hx hb dX13_close_258 (by decide) (fun c_111 => ?_) (fun c_111 => ?_)
                                  · have hz := rfl (a := 0)
                                    have n_112 : v97 ≤ v7w106 := (iLE (a := v97) (b := v7w106) (by omega) (by omega)).mp c_111
                                    refine lv_iconst (v := 0) hx hb dX13_close_275 (by decide) ?_
                                    refine lv_istore (lv' := [(7, .int 0), (6, .int (nI v97)), (5, .int (-1)), (4, .int (nI c_33)), (3, .int 0), (2, .ref b13), (0, .ref za), (1, .int k1)]) hx hb dX13_close_276 hl (by decide) rfl (fun ls hl => ?_)
                                    have key_113 : ∀ (fu_115 : Nat) (v7w116 : Nat) (zgw116 : Nat) (gnw116 : Nat) (gpw116 : Nat → Int32) (gqw116 : Nat → Int32) (M_120 : Hp) (H_121 : Heap) (locs : List Loc) (ls : Array Slot), 24 - v7w116 < fu_115 → v7w116 ≤ 20 → zgw116 ≤ 24 → gnw116 ≤ 100 + v7w116 → WOM cy K L M_120 → fr K L [12, 14, 15, 32, 42, 45, 46, 79, 80, 81, 83] M M_120 → fG K L [1, 7, 8, 13, 14, 15, 16, 17, 18] M M_120 → VW K L M M_120 b13 (va_up (fx M b13) 17 ((gnw116 : Nat) : Int)) (va_up (va_up (ax M b13) 44 gpw116) 45 gqw116) → va_P D vwCl ([(za, .inr (13, [.int 0, .ref z1, .int (nI z2), .int (nI z3), .int z4, .int z5, .ref z6, .ref z7, .ref z8, .ref z9, .int (nI z10), .ref z11, .ref z12, .ref z13, .ref z14, .ref z15, .int (nI zgw116), .ref z17, .int z18, .ref z19]))] ++ va_pl L M_120) H_121 → va_D A ([(za, .inr (13, [.int 0, .ref z1, .int (nI z2), .int (nI z3), .int z4, .int z5, .ref z6, .ref z7, .ref z8, .ref z9, .int (nI z10), .ref z11, .ref z12, .ref z13, .ref z14, .ref z15, .int (nI zgw116), .ref z17, .int z18, .ref z19]))] ++ va_pl L M_120) → va_S A s.heap H_121 locs → lv_has ls 8 [(7, .int (nI v7w116)), (6, .int (nI v97)), (5, .int (-1)), (4, .int (nI c_33)), (3, .int 0), (2, .ref b13), (0, .ref za), (1, .int k1)] → W p l e R s m ([.ref za, .int k1] : List Value).toArray below meth c H_121 locs 0 0 Q (F0 m 278 ls []) := by
                                      intro fu_115
                                      induction fu_115 with
                                      | zero => intro v7w116 zgw116 gnw116 gpw116 gqw116 M_120 H_121 locs ls h; exact absurd h (Nat.not_lt_zero _)
                                      | succ fu_115 ih_114 =>
                                        intro v7w116 zgw116 gnw116 gpw116 gqw116 M_120 H_121 locs ls hfu hx_117 hx_118 hx_119 hW hF hG hV hP hD hS hl
                                        refine lv_iload hx hb dX13_close_278 (lv_at hl 0 rfl) ?_
                                        refine lv_aload_n hx hb dX13_close_280 rfl (lv_at hl 5 rfl) ?_
                                        obtain ⟨fs122, hM122, hn122, hl122⟩ := hW.open_12 hb_15
                                        obtain ⟨v123, hv123, hc123⟩ : ∃ v : Nat, fs122[15]? = some (.int (nI v) : Value) ∧ v ≤ 20 := hl122 15 (by decide)
                                        refine pg_getN (D := D) (ci := 12) (v := .int (nI v123)) (C := RX12) (T := TX12) (N := 51) hx hb hg inG12 hown hK hP hb_15.1 hM122 rfl 15 (by decide) (hN.use (Cond.fieldLinkNest RX13 279 RX12 "mends" "I" RX13) 24 rfl rfl) (fun _ h9 => h9) hv123 dX13_close_281 ?_
                                        refine lv_icmp_ge (tgt := 300) hx hb dX13_close_284 (by decide) (fun c_124 => ?_) (fun c_124 => ?_)
                                        · have hz := rfl (a := 0)
                                          have n_125 : v123 ≤ v7w116 := (iLE (a := v123) (b := v7w116) (by omega) (by omega)).mp c_124
                                          refine lv_aload_n hx hb dX13_close_300 rfl (lv_at hl 5 rfl) ?_
                                          refine lv_iload_n hx hb dX13_close_301 rfl (lv_at hl 4 rfl) ?_
                                          refine lv_iload hx hb dX13_close_302 (lv_at hl 3 rfl) ?_
                                          have hPc : va_P D vwCl ([] ++ va_pl L M_120) H_121 := hP.part (cx := []) [] rfl
                                          have hDc : va_D A ([] ++ va_pl L M_120) := hD.part (cx := []) [] (by decide) rfl
                                          have hFc : ∀ q, va_A ([] ++ va_pl L M_120) H_121.size q → A q := pg_free hDc hS hA
                                          refine va_callv (va_runS (As := [.ref b13, .int 0, .int (nI c_33)]) (rest := []) ⟨hx, hb, hml, hown, hg⟩ (r_settled2 l D cy K L M_120 H_121.size b13 0 (nI c_33)  hW hb_15 hV.2.2.2) (va_cwS 3 hg (gS wd_861 wd_862 wd_717 wd_863) rfl rfl rfl (by decide +kernel) ⟨(Nat.le_trans (Nat.le_of_ble_eq_true rfl) hRf), (Nat.le_trans (Nat.le_of_ble_eq_true rfl) hRl)⟩) ⟨PG.blind, fun U hU hW => ⟨rfl, PG.at hPc hK hDc hN hU hW⟩⟩ rfl rfl hl.1 rfl (lv_room (Nat.le_of_ble_eq_true rfl)) dX13_close_304 ⟨(Nat.le_trans (Nat.le_of_ble_eq_true rfl) hRc), (Nat.le_trans (Nat.le_of_ble_eq_true rfl) hRs)⟩) hS (fun q _ h => hFc q h) hFc (fun M_128 t H_126 locs ht hvm hw hB hz1 hk1 hS => ?_)
                                          have hWb := hW
                                          obtain ⟨hW, hF2, hG2, hVP, hp_129⟩ := hw
                                          obtain ⟨hP1, hD1⟩ := hB
                                          rw [ht] at hP1
                                          obtain ⟨hP, hD⟩ := va_joinP (X := [(za, .inr (13, [.int 0, .ref z1, .int (nI z2), .int (nI z3), .int z4, .int z5, .ref z6, .ref z7, .ref z8, .ref z9, .int (nI z10), .ref z11, .ref z12, .ref z13, .ref z14, .ref z15, .int (nI zgw116), .ref z17, .int z18, .ref z19]))]) (cx := []) (wr := [(za, .inr (13, [.int 0, .ref z1, .int (nI z2), .int (nI z3), .int z4, .int z5, .ref z6, .ref z7, .ref z8, .ref z9, .int (nI z10), .ref z11, .ref z12, .ref z13, .ref z14, .ref z15, .int (nI zgw116), .ref z17, .int z18, .ref z19]))]) (rx := []) (pl := va_pl L M_120) (pl1 := va_pl L M_128) hP hD [] [0] rfl rfl (by decide) (by decide) hk1 hFc hP1 hD1
                                          have hP : va_P D vwCl ([(za, .inr (13, [.int 0, .ref z1, .int (nI z2), .int (nI z3), .int z4, .int z5, .ref z6, .ref z7, .ref z8, .ref z9, .int (nI z10), .ref z11, .ref z12, .ref z13, .ref z14, .ref z15, .int (nI zgw116), .ref z17, .int z18, .ref z19]))] ++ va_pl L M_128) H_126 := hP
                                          have hD : va_D A ([(za, .inr (13, [.int 0, .ref z1, .int (nI z2), .int (nI z3), .int z4, .int z5, .ref z6, .ref z7, .ref z8, .ref z9, .int (nI z10), .ref z11, .ref z12, .ref z13, .ref z14, .ref z15, .int (nI zgw116), .ref z17, .int z18, .ref z19]))] ++ va_pl L M_128) := hD
                                          obtain ⟨fs130, hM130, hn130, hl130⟩ := hW.open_12 hb_15
                                          have hv_131 : fs130[15]? = some (.int (nI v123) : Value) := (hG2 _ hb_15 _ _ hM122 hM130 15 (by decide)).trans hv123
                                          have hF : fr K L [12, 14, 15, 32, 42, 45, 46, 79, 80, 81, 83] M M_128 := hF.tr hF2 (by decide)
                                          have hG : fG K L [1, 7, 8, 13, 14, 15, 16, 17, 18] M M_128 := hG.tr hWb hG2 (by decide)
                                          obtain ⟨n_132, p_133, q_134, r_135, n_136, h8, hle8, htr8, hV2⟩ := hVP
                                          rw [hV.2.1] at h8
                                          rw [hV.2.2.1] at htr8
                                          rw [hV.2.1, hV.2.2.1] at hV2
                                          have hn14 : (0 : Int) ≤ ((n_132 : Nat) : Int) := by omega
                                          have hV : VW K L M M_128 b13 (va_up (va_up (fx M b13) 17 ((gnw116 : Nat) : Int)) 14 ((n_132 : Nat) : Int)) (va_up (va_up (va_up (va_up (va_up (ax M b13) 44 gpw116) 45 gqw116) 38 p_133) 39 q_134) 40 r_135) := hV.tr hV2
                                          have h8s : fx M b13 14 = ((n_136 : Nat) : Int) := h8
                                          refine lv_aload_n hx hb dX13_close_307 rfl (lv_at hl 5 rfl) ?_
                                          refine lv_lconst (v := 0) hx hb dX13_close_308 (by decide) ?_
                                          refine pg_putN (D := D) (ci := 12) (v := .long 0) (ty := .long) (C := RX12) (T := TX12) (N := 51) hx hb hg inG12 tyX12 tyX12_ok nmX12 hown hK hP hD hS hb_15.1 hM130 rfl 7 (by decide) (hN.use (Cond.fieldLinkNest RX13 179 RX12 "loose" "J" RX13) 16 rfl rfl) (fun _ h9 => h9) rfl (by decide +kernel) rfl rfl (by rw [hn130]; decide) dX13_close_309 (fun H_137 locs hP hD hS => ?_)
                                          have hs_140 : (fs130.set 7 (.long 0))[7]? = some (.long 0) := List.getElem?_set_self (by rw [hn130]; decide)
                                          have hk_139 := fld12_set (k := 7) (w := .long 0) hl130 (show fld12 K L 7 (fs130.set 7 (.long 0)) from ⟨0, hs_140⟩)
                                          have hn_141 : (fs130.set 7 (.long 0)).length = 51 := by rw [List.length_set]; exact hn130
                                          have hv_142 : (fs130.set 7 (.long 0))[15]? = some (.int (nI v123)) := by rw [List.getElem?_set_ne (by decide)]; exact hv_131
                                          obtain ⟨M_143, eM_143⟩ : ∃ M1 : Hp, M1 = va_up M_128 b13 (.inr (12, fs130.set 7 (.long 0))) := ⟨_, rfl⟩
                                          have hV : VW K L M M_143 b13 (va_up (va_up (fx M b13) 17 ((gnw116 : Nat) : Int)) 14 ((n_132 : Nat) : Int)) (va_up (va_up (va_up (va_up (va_up (ax M b13) 44 gpw116) 45 gqw116) 38 p_133) 39 q_134) 40 r_135) := by rw [eM_143]; exact hV.put0 hW hb_15 hM130 rfl rfl
                                          have hP : va_P D vwCl ([(za, .inr (13, [.int 0, .ref z1, .int (nI z2), .int (nI z3), .int z4, .int z5, .ref z6, .ref z7, .ref z8, .ref z9, .int (nI z10), .ref z11, .ref z12, .ref z13, .ref z14, .ref z15, .int (nI zgw116), .ref z17, .int z18, .ref z19]))] ++ va_pl L M_143) H_137 := by rw [eM_143]; exact hP
                                          have hD : va_D A ([(za, .inr (13, [.int 0, .ref z1, .int (nI z2), .int (nI z3), .int z4, .int z5, .ref z6, .ref z7, .ref z8, .ref z9, .int (nI z10), .ref z11, .ref z12, .ref z13, .ref z14, .ref z15, .int (nI zgw116), .ref z17, .int z18, .ref z19]))] ++ va_pl L M_143) := by rw [eM_143]; exact hD
                                          have hW : WOM cy K L M_143 := by rw [eM_143]; exact hW.up_12 hb_15 ⟨_, rfl, hn_141, hk_139⟩
                                          have hF : fr K L [12, 14, 15, 32, 42, 45, 46, 79, 80, 81, 83] M M_143 := by rw [eM_143]; exact hF.up hb_15 (by decide)
                                          have hG : fG K L [1, 7, 8, 13, 14, 15, 16, 17, 18] M M_143 := by rw [eM_143]; exact hG.up hM130 (by decide)
                                          have hM_144 : M_143 b13 = .inr (12, fs130.set 7 (.long 0)) := by rw [eM_143]; exact va_up_self _ _ _
                                          refine lv_aload_n hx hb dX13_close_312 rfl (lv_at hl 5 rfl) ?_
                                          refine lv_iconst (v := 0) hx hb dX13_close_313 (by decide) ?_
                                          refine pg_putN (D := D) (ci := 12) (v := .int 0) (ty := .int) (C := RX12) (T := TX12) (N := 51) hx hb hg inG12 tyX12 tyX12_ok nmX12 hown hK hP hD hS hb_15.1 hM_144 rfl 15 (by decide) (hN.use (Cond.fieldLinkNest RX13 279 RX12 "mends" "I" RX13) 24 rfl rfl) (fun _ h9 => h9) rfl (by decide +kernel) rfl rfl (by rw [hn_141]; decide) dX13_close_314 (fun H_145 locs hP hD hS => ?_)
                                          have hs_148 : ((fs130.set 7 (.long 0)).set 15 (.int 0))[15]? = some (.int (nI 0)) := List.getElem?_set_self (by rw [hn_141]; decide)
                                          have hk_147 := fld12_set (k := 15) (w := .int 0) hk_139 (show fld12 K L 15 ((fs130.set 7 (.long 0)).set 15 (.int 0)) from ⟨0, hs_148, by omega⟩)
                                          have hn_149 : ((fs130.set 7 (.long 0)).set 15 (.int 0)).length = 51 := by rw [List.length_set]; exact hn_141
                                          have hv_150 : ((fs130.set 7 (.long 0)).set 15 (.int 0))[7]? = some (.long 0) := by rw [List.getElem?_set_ne (by decide)]; exact hs_140
                                          have hb_151 : 0 ≤ 20 := by omega
                                          obtain ⟨M_152, eM_152⟩ : ∃ M1 : Hp, M1 = va_up M_143 b13 (.inr (12, (fs130.set 7 (.long 0)).set 15 (.int 0))) := ⟨_, rfl⟩
                                          have hx15 : (fx M b13 15) = ((v123 : Nat) : Int) := (congrFun hV.2.1 15).symm.trans ((fx_of hM_144 rfl hv_142).trans (nI_toInt (by omega)))
                                          have hV : VW K L M M_152 b13 (va_up (va_up (va_up (fx M b13) 17 ((gnw116 : Nat) : Int)) 14 ((n_132 : Nat) : Int)) 15 (0 : Int)) (va_up (va_up (va_up (va_up (va_up (ax M b13) 44 gpw116) 45 gqw116) 38 p_133) 39 q_134) 40 r_135) := by rw [eM_152]; exact hV.put hW hb_15 hM_144 hn_141 rfl (by decide) rfl (by decide)
                                          have hP : va_P D vwCl ([(za, .inr (13, [.int 0, .ref z1, .int (nI z2), .int (nI z3), .int z4, .int z5, .ref z6, .ref z7, .ref z8, .ref z9, .int (nI z10), .ref z11, .ref z12, .ref z13, .ref z14, .ref z15, .int (nI zgw116), .ref z17, .int z18, .ref z19]))] ++ va_pl L M_152) H_145 := by rw [eM_152]; exact hP
                                          have hD : va_D A ([(za, .inr (13, [.int 0, .ref z1, .int (nI z2), .int (nI z3), .int z4, .int z5, .ref z6, .ref z7, .ref z8, .ref z9, .int (nI z10), .ref z11, .ref z12, .ref z13, .ref z14, .ref z15, .int (nI zgw116), .ref z17, .int z18, .ref z19]))] ++ va_pl L M_152) := by rw [eM_152]; exact hD
                                          have hW : WOM cy K L M_152 := by rw [eM_152]; exact hW.up_12 hb_15 ⟨_, rfl, hn_149, hk_147⟩
                                          have hF : fr K L [12, 14, 15, 32, 42, 45, 46, 79, 80, 81, 83] M M_152 := by rw [eM_152]; exact hF.up hb_15 (by decide)
                                          have hG : fG K L [1, 7, 8, 13, 14, 15, 16, 17, 18] M M_152 := by rw [eM_152]; exact hG.up hM_144 (by decide)
                                          have hM_153 : M_152 b13 = .inr (12, (fs130.set 7 (.long 0)).set 15 (.int 0)) := by rw [eM_152]; exact va_up_self _ _ _
                                          refine lv_aload_n hx hb dX13_close_317 rfl (lv_at hl 5 rfl) ?_
                                          refine lv_iconst (v := 0) hx hb dX13_close_318 (by decide) ?_
                                          refine pg_putN (D := D) (ci := 12) (v := .int 0) (ty := .int) (C := RX12) (T := TX12) (N := 51) hx hb hg inG12 tyX12 tyX12_ok nmX12 hown hK hP hD hS hb_15.1 hM_153 rfl 16 (by decide) (hN.use (Cond.fieldLinkNest RX13 161 RX12 "undone" "I" RX13) 25 rfl rfl) (fun _ h9 => h9) rfl (by decide +kernel) rfl rfl (by rw [hn_149]; decide) dX13_close_319 (fun H_154 locs hP hD hS => ?_)
                                          have hs_157 : (((fs130.set 7 (.long 0)).set 15 (.int 0)).set 16 (.int 0))[16]? = some (.int (nI 0)) := List.getElem?_set_self (by rw [hn_149]; decide)
                                          have hk_156 := fld12_set (k := 16) (w := .int 0) hk_147 (show fld12 K L 16 (((fs130.set 7 (.long 0)).set 15 (.int 0)).set 16 (.int 0)) from ⟨0, hs_157, by omega⟩)
                                          have hn_158 : (((fs130.set 7 (.long 0)).set 15 (.int 0)).set 16 (.int 0)).length = 51 := by rw [List.length_set]; exact hn_149
                                          have hv_159 : (((fs130.set 7 (.long 0)).set 15 (.int 0)).set 16 (.int 0))[7]? = some (.long 0) := by rw [List.getElem?_set_ne (by decide)]; exact hv_150
                                          have hv_160 : (((fs130.set 7 (.long 0)).set 15 (.int 0)).set 16 (.int 0))[15]? = some (.int (nI 0)) := by rw [List.getElem?_set_ne (by decide)]; exact hs_148
                                          have hb_161 : 0 ≤ 60 := by omega
                                          obtain ⟨M_162, eM_162⟩ : ∃ M1 : Hp, M1 = va_up M_152 b13 (.inr (12, ((fs130.set 7 (.long 0)).set 15 (.int 0)).set 16 (.int 0))) := ⟨_, rfl⟩
                                          have hV : VW K L M M_162 b13 (va_up (va_up (va_up (va_up (fx M b13) 17 ((gnw116 : Nat) : Int)) 14 ((n_132 : Nat) : Int)) 15 (0 : Int)) 16 (0 : Int)) (va_up (va_up (va_up (va_up (va_up (ax M b13) 44 gpw116) 45 gqw116) 38 p_133) 39 q_134) 40 r_135) := by rw [eM_162]; exact hV.put hW hb_15 hM_153 hn_149 rfl (by decide) rfl (by decide)
                                          have hP : va_P D vwCl ([(za, .inr (13, [.int 0, .ref z1, .int (nI z2), .int (nI z3), .int z4, .int z5, .ref z6, .ref z7, .ref z8, .ref z9, .int (nI z10), .ref z11, .ref z12, .ref z13, .ref z14, .ref z15, .int (nI zgw116), .ref z17, .int z18, .ref z19]))] ++ va_pl L M_162) H_154 := by rw [eM_162]; exact hP
                                          have hD : va_D A ([(za, .inr (13, [.int 0, .ref z1, .int (nI z2), .int (nI z3), .int z4, .int z5, .ref z6, .ref z7, .ref z8, .ref z9, .int (nI z10), .ref z11, .ref z12, .ref z13, .ref z14, .ref z15, .int (nI zgw116), .ref z17, .int z18, .ref z19]))] ++ va_pl L M_162) := by rw [eM_162]; exact hD
                                          have hW : WOM cy K L M_162 := by rw [eM_162]; exact hW.up_12 hb_15 ⟨_, rfl, hn_158, hk_156⟩
                                          have hF : fr K L [12, 14, 15, 32, 42, 45, 46, 79, 80, 81, 83] M M_162 := by rw [eM_162]; exact hF.up hb_15 (by decide)
                                          have hG : fG K L [1, 7, 8, 13, 14, 15, 16, 17, 18] M M_162 := by rw [eM_162]; exact hG.up hM_153 (by decide)
                                          have hM_163 : M_162 b13 = .inr (12, ((fs130.set 7 (.long 0)).set 15 (.int 0)).set 16 (.int 0)) := by rw [eM_162]; exact va_up_self _ _ _
                                          refine lv_aload_n hx hb dX13_close_322 rfl (lv_at hl 5 rfl) ?_
                                          refine lv_iload hx hb dX13_close_323 (lv_at hl 3 rfl) ?_
                                          refine pg_putN (D := D) (ci := 12) (v := .int (nI c_33)) (ty := .int) (C := RX12) (T := TX12) (N := 51) hx hb hg inG12 tyX12 tyX12_ok nmX12 hown hK hP hD hS hb_15.1 hM_163 rfl 1 (by decide) (hN.use (Cond.fieldLinkNest RX13 80 RX12 "to" "I" RX13) 10 rfl rfl) (fun _ h9 => h9) rfl (by decide +kernel) rfl rfl (by rw [hn_158]; decide) dX13_close_325 (fun H_164 locs hP hD hS => ?_)
                                          have hs_167 : ((((fs130.set 7 (.long 0)).set 15 (.int 0)).set 16 (.int 0)).set 1 (.int (nI c_33)))[1]? = some (.int (nI c_33)) := List.getElem?_set_self (by rw [hn_158]; decide)
                                          have hk_166 := fld12_set (k := 1) (w := .int (nI c_33)) hk_156 (show fld12 K L 1 ((((fs130.set 7 (.long 0)).set 15 (.int 0)).set 16 (.int 0)).set 1 (.int (nI c_33))) from ⟨(nI c_33), hs_167, Or.inr ⟨c_33, by omega, rfl⟩⟩)
                                          have hn_168 : ((((fs130.set 7 (.long 0)).set 15 (.int 0)).set 16 (.int 0)).set 1 (.int (nI c_33))).length = 51 := by rw [List.length_set]; exact hn_158
                                          have hv_169 : ((((fs130.set 7 (.long 0)).set 15 (.int 0)).set 16 (.int 0)).set 1 (.int (nI c_33)))[7]? = some (.long 0) := by rw [List.getElem?_set_ne (by decide)]; exact hv_159
                                          have hv_170 : ((((fs130.set 7 (.long 0)).set 15 (.int 0)).set 16 (.int 0)).set 1 (.int (nI c_33)))[15]? = some (.int (nI 0)) := by rw [List.getElem?_set_ne (by decide)]; exact hv_160
                                          have hv_171 : ((((fs130.set 7 (.long 0)).set 15 (.int 0)).set 16 (.int 0)).set 1 (.int (nI c_33)))[16]? = some (.int (nI 0)) := by rw [List.getElem?_set_ne (by decide)]; exact hs_157
                                          obtain ⟨M_172, eM_172⟩ : ∃ M1 : Hp, M1 = va_up M_162 b13 (.inr (12, (((fs130.set 7 (.long 0)).set 15 (.int 0)).set 16 (.int 0)).set 1 (.int (nI c_33)))) := ⟨_, rfl⟩
                                          have hV : VW K L M M_172 b13 (va_up (va_up (va_up (va_up (va_up (fx M b13) 17 ((gnw116 : Nat) : Int)) 14 ((n_132 : Nat) : Int)) 15 (0 : Int)) 16 (0 : Int)) 1 ((c_33 : Nat) : Int)) (va_up (va_up (va_up (va_up (va_up (ax M b13) 44 gpw116) 45 gqw116) 38 p_133) 39 q_134) 40 r_135) := by rw [eM_172]; exact hV.put hW hb_15 hM_163 hn_158 rfl (by decide) rfl (nI_toInt (by omega))
                                          have hP : va_P D vwCl ([(za, .inr (13, [.int 0, .ref z1, .int (nI z2), .int (nI z3), .int z4, .int z5, .ref z6, .ref z7, .ref z8, .ref z9, .int (nI z10), .ref z11, .ref z12, .ref z13, .ref z14, .ref z15, .int (nI zgw116), .ref z17, .int z18, .ref z19]))] ++ va_pl L M_172) H_164 := by rw [eM_172]; exact hP
                                          have hD : va_D A ([(za, .inr (13, [.int 0, .ref z1, .int (nI z2), .int (nI z3), .int z4, .int z5, .ref z6, .ref z7, .ref z8, .ref z9, .int (nI z10), .ref z11, .ref z12, .ref z13, .ref z14, .ref z15, .int (nI zgw116), .ref z17, .int z18, .ref z19]))] ++ va_pl L M_172) := by rw [eM_172]; exact hD
                                          have hW : WOM cy K L M_172 := by rw [eM_172]; exact hW.up_12 hb_15 ⟨_, rfl, hn_168, hk_166⟩
                                          have hF : fr K L [12, 14, 15, 32, 42, 45, 46, 79, 80, 81, 83] M M_172 := by rw [eM_172]; exact hF.up hb_15 (by decide)
                                          have hG : fG K L [1, 7, 8, 13, 14, 15, 16, 17, 18] M M_172 := by rw [eM_172]; exact hG.up hM_163 (by decide)
                                          have hM_173 : M_172 b13 = .inr (12, (((fs130.set 7 (.long 0)).set 15 (.int 0)).set 16 (.int 0)).set 1 (.int (nI c_33))) := by rw [eM_172]; exact va_up_self _ _ _
                                          refine lv_aload_n hx hb dX13_close_328 rfl (lv_at hl 5 rfl) ?_
                                          refine lv_dup hx hb dX13_close_329 rfl ?_
                                          obtain ⟨v174, hv174, hc174⟩ : ∃ v : Nat, ((((fs130.set 7 (.long 0)).set 15 (.int 0)).set 16 (.int 0)).set 1 (.int (nI c_33)))[13]? = some (.int (nI v) : Value) ∧ v ≤ 12 := hk_166 13 (by decide)
                                          refine pg_getN (D := D) (ci := 12) (v := .int (nI v174)) (C := RX12) (T := TX12) (N := 51) hx hb hg inG12 hown hK hP hb_15.1 hM_173 rfl 13 (by decide) (hN.use (Cond.fieldLinkNest RX13 244 RX12 "closed" "I" RX13) 22 rfl rfl) (fun _ h9 => h9) hv174 dX13_close_330 ?_
                                          have hx13 : (fx M b13 13) = ((v174 : Nat) : Int) := (congrFun hV.2.1 13).symm.trans ((fx_of hM_173 rfl hv174).trans (nI_toInt (by omega)))
                                          refine lv_iconst (v := 1) hx hb dX13_close_333 (by decide) ?_
                                          refine lv_iadd hx hb dX13_close_334 ?_
                                          refine lv_topi (fun f_175 ef_175 => ?_)
                                          obtain rfl : f_175 = (nI (v174 + 1)) := ef_175.trans (nI_add v174 1)
                                          refine pg_putN (D := D) (ci := 12) (v := .int (nI (v174 + 1))) (ty := .int) (C := RX12) (T := TX12) (N := 51) hx hb hg inG12 tyX12 tyX12_ok nmX12 hown hK hP hD hS hb_15.1 hM_173 rfl 13 (by decide) (hN.use (Cond.fieldLinkNest RX13 244 RX12 "closed" "I" RX13) 22 rfl rfl) (fun _ h9 => h9) rfl (by decide +kernel) rfl rfl (by rw [hn_168]; decide) dX13_close_335 (fun H_176 locs hP hD hS => ?_)
                                          have hs_179 : (((((fs130.set 7 (.long 0)).set 15 (.int 0)).set 16 (.int 0)).set 1 (.int (nI c_33))).set 13 (.int (nI (v174 + 1))))[13]? = some (.int (nI (v174 + 1))) := List.getElem?_set_self (by rw [hn_168]; decide)
                                          have hk_178 := fld12_set (k := 13) (w := .int (nI (v174 + 1))) hk_166 (show fld12 K L 13 (((((fs130.set 7 (.long 0)).set 15 (.int 0)).set 16 (.int 0)).set 1 (.int (nI c_33))).set 13 (.int (nI (v174 + 1)))) from ⟨(v174 + 1), hs_179, by omega⟩)
                                          have hn_180 : (((((fs130.set 7 (.long 0)).set 15 (.int 0)).set 16 (.int 0)).set 1 (.int (nI c_33))).set 13 (.int (nI (v174 + 1)))).length = 51 := by rw [List.length_set]; exact hn_168
                                          have hv_181 : (((((fs130.set 7 (.long 0)).set 15 (.int 0)).set 16 (.int 0)).set 1 (.int (nI c_33))).set 13 (.int (nI (v174 + 1))))[7]? = some (.long 0) := by rw [List.getElem?_set_ne (by decide)]; exact hv_169
                                          have hv_182 : (((((fs130.set 7 (.long 0)).set 15 (.int 0)).set 16 (.int 0)).set 1 (.int (nI c_33))).set 13 (.int (nI (v174 + 1))))[15]? = some (.int (nI 0)) := by rw [List.getElem?_set_ne (by decide)]; exact hv_170
                                          have hv_183 : (((((fs130.set 7 (.long 0)).set 15 (.int 0)).set 16 (.int 0)).set 1 (.int (nI c_33))).set 13 (.int (nI (v174 + 1))))[16]? = some (.int (nI 0)) := by rw [List.getElem?_set_ne (by decide)]; exact hv_171
                                          have hv_184 : (((((fs130.set 7 (.long 0)).set 15 (.int 0)).set 16 (.int 0)).set 1 (.int (nI c_33))).set 13 (.int (nI (v174 + 1))))[1]? = some (.int (nI c_33)) := by rw [List.getElem?_set_ne (by decide)]; exact hs_167
                                          have hb_185 : (v174 + 1) ≤ 12 := by omega
                                          obtain ⟨M_186, eM_186⟩ : ∃ M1 : Hp, M1 = va_up M_172 b13 (.inr (12, ((((fs130.set 7 (.long 0)).set 15 (.int 0)).set 16 (.int 0)).set 1 (.int (nI c_33))).set 13 (.int (nI (v174 + 1))))) := ⟨_, rfl⟩
                                          have hx13 : (fx M b13 13) = ((v174 : Nat) : Int) := (congrFun hV.2.1 13).symm.trans ((fx_of hM_173 rfl hv174).trans (nI_toInt (by omega)))
                                          have hV : VW K L M M_186 b13 (va_up (va_up (va_up (va_up (va_up (va_up (fx M b13) 17 ((gnw116 : Nat) : Int)) 14 ((n_132 : Nat) : Int)) 15 (0 : Int)) 16 (0 : Int)) 1 ((c_33 : Nat) : Int)) 13 (((v174 + 1) : Nat) : Int)) (va_up (va_up (va_up (va_up (va_up (ax M b13) 44 gpw116) 45 gqw116) 38 p_133) 39 q_134) 40 r_135) := by rw [eM_186]; exact hV.put hW hb_15 hM_173 hn_168 rfl (by decide) rfl (nI_toInt (by omega))
                                          have hP : va_P D vwCl ([(za, .inr (13, [.int 0, .ref z1, .int (nI z2), .int (nI z3), .int z4, .int z5, .ref z6, .ref z7, .ref z8, .ref z9, .int (nI z10), .ref z11, .ref z12, .ref z13, .ref z14, .ref z15, .int (nI zgw116), .ref z17, .int z18, .ref z19]))] ++ va_pl L M_186) H_176 := by rw [eM_186]; exact hP
                                          have hD : va_D A ([(za, .inr (13, [.int 0, .ref z1, .int (nI z2), .int (nI z3), .int z4, .int z5, .ref z6, .ref z7, .ref z8, .ref z9, .int (nI z10), .ref z11, .ref z12, .ref z13, .ref z14, .ref z15, .int (nI zgw116), .ref z17, .int z18, .ref z19]))] ++ va_pl L M_186) := by rw [eM_186]; exact hD
                                          have hW : WOM cy K L M_186 := by rw [eM_186]; exact hW.up_12 hb_15 ⟨_, rfl, hn_180, hk_178⟩
                                          have hF : fr K L [12, 14, 15, 32, 42, 45, 46, 79, 80, 81, 83] M M_186 := by rw [eM_186]; exact hF.up hb_15 (by decide)
                                          have hG : fG K L [1, 7, 8, 13, 14, 15, 16, 17, 18] M M_186 := by rw [eM_186]; exact hG.up hM_173 (by decide)
                                          have hM_187 : M_186 b13 = .inr (12, ((((fs130.set 7 (.long 0)).set 15 (.int 0)).set 16 (.int 0)).set 1 (.int (nI c_33))).set 13 (.int (nI (v174 + 1)))) := by rw [eM_186]; exact va_up_self _ _ _
                                          refine lv_aload_n hx hb dX13_close_338 rfl (lv_at hl 5 rfl) ?_
                                          refine lv_iconst (v := 1) hx hb dX13_close_339 (by decide) ?_
                                          refine pg_putN (D := D) (ci := 12) (v := .int 1) (ty := .boolean) (C := RX12) (T := TX12) (N := 51) hx hb hg inG12 tyX12 tyX12_ok nmX12 hown hK hP hD hS hb_15.1 hM_187 rfl 18 (by decide) (hN.use (Cond.fieldLinkNest RX13 288 RX12 "hasClosed" "Z" RX13) 27 rfl rfl) (fun _ h9 => h9) rfl (by decide +kernel) rfl rfl (by rw [hn_180]; decide) dX13_close_340 (fun H_188 locs hP hD hS => ?_)
                                          have hs_191 : ((((((fs130.set 7 (.long 0)).set 15 (.int 0)).set 16 (.int 0)).set 1 (.int (nI c_33))).set 13 (.int (nI (v174 + 1)))).set 18 (.int 1))[18]? = some (.int 1) := List.getElem?_set_self (by rw [hn_180]; decide)
                                          have hk_190 := fld12_set (k := 18) (w := .int 1) hk_178 (show fld12 K L 18 ((((((fs130.set 7 (.long 0)).set 15 (.int 0)).set 16 (.int 0)).set 1 (.int (nI c_33))).set 13 (.int (nI (v174 + 1)))).set 18 (.int 1)) from ⟨1, hs_191, by decide⟩)
                                          have hn_192 : ((((((fs130.set 7 (.long 0)).set 15 (.int 0)).set 16 (.int 0)).set 1 (.int (nI c_33))).set 13 (.int (nI (v174 + 1)))).set 18 (.int 1)).length = 51 := by rw [List.length_set]; exact hn_180
                                          have hv_193 : ((((((fs130.set 7 (.long 0)).set 15 (.int 0)).set 16 (.int 0)).set 1 (.int (nI c_33))).set 13 (.int (nI (v174 + 1)))).set 18 (.int 1))[7]? = some (.long 0) := by rw [List.getElem?_set_ne (by decide)]; exact hv_181
                                          have hv_194 : ((((((fs130.set 7 (.long 0)).set 15 (.int 0)).set 16 (.int 0)).set 1 (.int (nI c_33))).set 13 (.int (nI (v174 + 1)))).set 18 (.int 1))[15]? = some (.int (nI 0)) := by rw [List.getElem?_set_ne (by decide)]; exact hv_182
                                          have hv_195 : ((((((fs130.set 7 (.long 0)).set 15 (.int 0)).set 16 (.int 0)).set 1 (.int (nI c_33))).set 13 (.int (nI (v174 + 1)))).set 18 (.int 1))[16]? = some (.int (nI 0)) := by rw [List.getElem?_set_ne (by decide)]; exact hv_183
                                          have hv_196 : ((((((fs130.set 7 (.long 0)).set 15 (.int 0)).set 16 (.int 0)).set 1 (.int (nI c_33))).set 13 (.int (nI (v174 + 1)))).set 18 (.int 1))[1]? = some (.int (nI c_33)) := by rw [List.getElem?_set_ne (by decide)]; exact hv_184
                                          have hv_197 : ((((((fs130.set 7 (.long 0)).set 15 (.int 0)).set 16 (.int 0)).set 1 (.int (nI c_33))).set 13 (.int (nI (v174 + 1)))).set 18 (.int 1))[13]? = some (.int (nI (v174 + 1))) := by rw [List.getElem?_set_ne (by decide)]; exact hs_179
                                          obtain ⟨M_198, eM_198⟩ : ∃ M1 : Hp, M1 = va_up M_186 b13 (.inr (12, (((((fs130.set 7 (.long 0)).set 15 (.int 0)).set 16 (.int 0)).set 1 (.int (nI c_33))).set 13 (.int (nI (v174 + 1)))).set 18 (.int 1))) := ⟨_, rfl⟩
                                          have hV : VW K L M M_198 b13 (va_up (va_up (va_up (va_up (va_up (va_up (va_up (fx M b13) 17 ((gnw116 : Nat) : Int)) 14 ((n_132 : Nat) : Int)) 15 (0 : Int)) 16 (0 : Int)) 1 ((c_33 : Nat) : Int)) 13 (((v174 + 1) : Nat) : Int)) 18 (1 : Int)) (va_up (va_up (va_up (va_up (va_up (ax M b13) 44 gpw116) 45 gqw116) 38 p_133) 39 q_134) 40 r_135) := by rw [eM_198]; exact hV.put hW hb_15 hM_187 hn_180 rfl (by decide) rfl (by decide)
                                          have hP : va_P D vwCl ([(za, .inr (13, [.int 0, .ref z1, .int (nI z2), .int (nI z3), .int z4, .int z5, .ref z6, .ref z7, .ref z8, .ref z9, .int (nI z10), .ref z11, .ref z12, .ref z13, .ref z14, .ref z15, .int (nI zgw116), .ref z17, .int z18, .ref z19]))] ++ va_pl L M_198) H_188 := by rw [eM_198]; exact hP
                                          have hD : va_D A ([(za, .inr (13, [.int 0, .ref z1, .int (nI z2), .int (nI z3), .int z4, .int z5, .ref z6, .ref z7, .ref z8, .ref z9, .int (nI z10), .ref z11, .ref z12, .ref z13, .ref z14, .ref z15, .int (nI zgw116), .ref z17, .int z18, .ref z19]))] ++ va_pl L M_198) := by rw [eM_198]; exact hD
                                          have hW : WOM cy K L M_198 := by rw [eM_198]; exact hW.up_12 hb_15 ⟨_, rfl, hn_192, hk_190⟩
                                          have hF : fr K L [12, 14, 15, 32, 42, 45, 46, 79, 80, 81, 83] M M_198 := by rw [eM_198]; exact hF.up hb_15 (by decide)
                                          have hG : fG K L [1, 7, 8, 13, 14, 15, 16, 17, 18] M M_198 := by rw [eM_198]; exact hG.up hM_187 (by decide)
                                          have hM_199 : M_198 b13 = .inr (12, (((((fs130.set 7 (.long 0)).set 15 (.int 0)).set 16 (.int 0)).set 1 (.int (nI c_33))).set 13 (.int (nI (v174 + 1)))).set 18 (.int 1)) := by rw [eM_198]; exact va_up_self _ _ _
                                          refine lv_aload_n hx hb dX13_close_343 rfl (lv_at hl 6 rfl) ?_
                                          refine lv_aload_n hx hb dX13_close_344 rfl (lv_at hl 5 rfl) ?_
                                          refine lv_iload hx hb dX13_close_345 (lv_at hl 3 rfl) ?_
                                          have hPc : va_P D vwCl ([(za, .inr (13, [.int 0, .ref z1, .int (nI z2), .int (nI z3), .int z4, .int z5, .ref z6, .ref z7, .ref z8, .ref z9, .int (nI z10), .ref z11, .ref z12, .ref z13, .ref z14, .ref z15, .int (nI zgw116), .ref z17, .int z18, .ref z19]))] ++ va_pl L M_198) H_188 := hP
                                          have hDc : va_D A ([(za, .inr (13, [.int 0, .ref z1, .int (nI z2), .int (nI z3), .int z4, .int z5, .ref z6, .ref z7, .ref z8, .ref z9, .int (nI z10), .ref z11, .ref z12, .ref z13, .ref z14, .ref z15, .int (nI zgw116), .ref z17, .int z18, .ref z19]))] ++ va_pl L M_198) := hD
                                          have hFc : ∀ q, va_A ([(za, .inr (13, [.int 0, .ref z1, .int (nI z2), .int (nI z3), .int z4, .int z5, .ref z6, .ref z7, .ref z8, .ref z9, .int (nI z10), .ref z11, .ref z12, .ref z13, .ref z14, .ref z15, .int (nI zgw116), .ref z17, .int z18, .ref z19]))] ++ va_pl L M_198) H_188.size q → A q := pg_free hDc hS hA
                                          refine va_callv (va_runV (As := [.ref b13, .int (nI c_33)]) (rest := []) ⟨hx, hb, hml, hown, hg⟩ (g_X13_incomes l D cy K L M_198 H_188.size za 0 z1 z2 z3 z4 z5 z6 z7 z8 z9 z10 z11 z12 z13 z14 z15 zgw116 z17 z18 z19 b13 c_33  hW i1 b2 b3 i6 i7 i8 i9 b10 i11 i12 i13 i14 i15 (by omega) i17 i19 hb_15 hc_34 (R5.mv hR5 i6 i7 hF (by decide) (by decide))) (cwV 2 hg (gV wd_864 wd_865 wd_866 wd_717 wd_867) rfl rfl rfl (by decide +kernel) ⟨(Nat.le_trans (Nat.le_of_ble_eq_true rfl) hRf), (Nat.le_trans (Nat.le_of_ble_eq_true rfl) hRl)⟩) ⟨PG.blind, va_recv hK hP (ci := 13) (q0 := 0) rfl rfl, fun U hU hW => ⟨rfl, PG.at hPc hK hDc hN hU hW⟩⟩ rfl rfl hl.1 rfl (lv_room (Nat.le_of_ble_eq_true rfl)) dX13_close_347 ⟨(Nat.le_trans (Nat.le_of_ble_eq_true rfl) hRc), (Nat.le_trans (Nat.le_of_ble_eq_true rfl) hRs)⟩) hS (fun q _ h => hFc q h) hFc (fun M_202 t H_200 locs ht hvm hw hB hz1 hk1 hS => ?_)
                                          have hWb := hW
                                          obtain ⟨hW, hF2, hG2, hp_203⟩ := hw
                                          obtain ⟨hP1, hD1⟩ := hB
                                          rw [ht] at hP1
                                          have hP : va_P D vwCl ([(za, .inr (13, [.int 0, .ref z1, .int (nI z2), .int (nI z3), .int z4, .int z5, .ref z6, .ref z7, .ref z8, .ref z9, .int (nI z10), .ref z11, .ref z12, .ref z13, .ref z14, .ref z15, .int (nI zgw116), .ref z17, .int z18, .ref z19]))] ++ va_pl L M_202) H_200 := hP1
                                          have hD : va_D A ([(za, .inr (13, [.int 0, .ref z1, .int (nI z2), .int (nI z3), .int z4, .int z5, .ref z6, .ref z7, .ref z8, .ref z9, .int (nI z10), .ref z11, .ref z12, .ref z13, .ref z14, .ref z15, .int (nI zgw116), .ref z17, .int z18, .ref z19]))] ++ va_pl L M_202) := hD1.mono hFc
                                          obtain ⟨fs204, hM204, hn204, hl204⟩ := hW.open_12 hb_15
                                          have hv_205 : fs204[15]? = some (.int (nI 0) : Value) := (hG2 _ hb_15 _ _ hM_199 hM204 15 (by decide)).trans hv_194
                                          have hv_206 : fs204[16]? = some (.int (nI 0) : Value) := (hG2 _ hb_15 _ _ hM_199 hM204 16 (by decide)).trans hv_195
                                          have hv_207 : fs204[1]? = some (.int (nI c_33) : Value) := (hG2 _ hb_15 _ _ hM_199 hM204 1 (by decide)).trans hv_196
                                          have hv_208 : fs204[13]? = some (.int (nI (v174 + 1)) : Value) := (hG2 _ hb_15 _ _ hM_199 hM204 13 (by decide)).trans hv_197
                                          have hv_209 : fs204[18]? = some (.int 1 : Value) := (hG2 _ hb_15 _ _ hM_199 hM204 18 (by decide)).trans hs_191
                                          have hF : fr K L [12, 14, 15, 32, 42, 45, 46, 79, 80, 81, 83] M M_202 := hF.tr hF2 (by decide)
                                          have hG : fG K L [1, 7, 8, 13, 14, 15, 16, 17, 18] M M_202 := hG.tr hWb hG2 (by decide)
                                          have hV : VW K L M M_202 b13 (va_up (va_up (va_up (va_up (va_up (va_up (va_up (fx M b13) 17 ((gnw116 : Nat) : Int)) 14 ((n_132 : Nat) : Int)) 15 (0 : Int)) 16 (0 : Int)) 1 ((c_33 : Nat) : Int)) 13 (((v174 + 1) : Nat) : Int)) 18 (1 : Int)) (va_up (va_up (va_up (va_up (va_up (ax M b13) 44 gpw116) 45 gqw116) 38 p_133) 39 q_134) 40 r_135) := hV.cal hWb hW hF2 hG2 (by decide) (by decide) hb_15
                                          refine lv_aload_n hx hb dX13_close_350 rfl (lv_at hl 5 rfl) ?_
                                          refine lv_iload hx hb dX13_close_351 (lv_at hl 3 rfl) ?_
                                          have hPc : va_P D vwCl ([] ++ va_pl L M_202) H_200 := hP.part (cx := []) [] rfl
                                          have hDc : va_D A ([] ++ va_pl L M_202) := hD.part (cx := []) [] (by decide) rfl
                                          have hFc : ∀ q, va_A ([] ++ va_pl L M_202) H_200.size q → A q := pg_free hDc hS hA
                                          refine va_callv (va_runS (As := [.ref b13, .int (nI c_33)]) (rest := []) ⟨hx, hb, hml, hown, hg⟩ (z_ends l D cy K L M_202 H_200.size b13 c_33  hW hb_15 hc_34 hV.2.2.2 (by rw [hV.2.1, hV.2.2.1]; exact hAT.2.2.1)) (va_cwS 2 hg (gS wd_868 wd_869 wd_717 wd_870) rfl rfl rfl (by decide +kernel) ⟨(Nat.le_trans (Nat.le_of_ble_eq_true rfl) hRf), (Nat.le_trans (Nat.le_of_ble_eq_true rfl) hRl)⟩) ⟨PG.blind, fun U hU hW => ⟨rfl, PG.at hPc hK hDc hN hU hW⟩⟩ rfl rfl hl.1 rfl (lv_room (Nat.le_of_ble_eq_true rfl)) dX13_close_353 ⟨(Nat.le_trans (Nat.le_of_ble_eq_true rfl) hRc), (Nat.le_trans (Nat.le_of_ble_eq_true rfl) hRs)⟩) hS (fun q _ h => hFc q h) hFc (fun M_212 t H_210 locs ht hvm hw hB hz1 hk1 hS => ?_)
                                          have hWb := hW
                                          obtain ⟨hW, hF2, hG2, hVP, hp_213⟩ := hw
                                          obtain ⟨hP1, hD1⟩ := hB
                                          rw [ht] at hP1
                                          obtain ⟨hP, hD⟩ := va_joinP (X := [(za, .inr (13, [.int 0, .ref z1, .int (nI z2), .int (nI z3), .int z4, .int z5, .ref z6, .ref z7, .ref z8, .ref z9, .int (nI z10), .ref z11, .ref z12, .ref z13, .ref z14, .ref z15, .int (nI zgw116), .ref z17, .int z18, .ref z19]))]) (cx := []) (wr := [(za, .inr (13, [.int 0, .ref z1, .int (nI z2), .int (nI z3), .int z4, .int z5, .ref z6, .ref z7, .ref z8, .ref z9, .int (nI z10), .ref z11, .ref z12, .ref z13, .ref z14, .ref z15, .int (nI zgw116), .ref z17, .int z18, .ref z19]))]) (rx := []) (pl := va_pl L M_202) (pl1 := va_pl L M_212) hP hD [] [0] rfl rfl (by decide) (by decide) hk1 hFc hP1 hD1
                                          have hP : va_P D vwCl ([(za, .inr (13, [.int 0, .ref z1, .int (nI z2), .int (nI z3), .int z4, .int z5, .ref z6, .ref z7, .ref z8, .ref z9, .int (nI z10), .ref z11, .ref z12, .ref z13, .ref z14, .ref z15, .int (nI zgw116), .ref z17, .int z18, .ref z19]))] ++ va_pl L M_212) H_210 := hP
                                          have hD : va_D A ([(za, .inr (13, [.int 0, .ref z1, .int (nI z2), .int (nI z3), .int z4, .int z5, .ref z6, .ref z7, .ref z8, .ref z9, .int (nI z10), .ref z11, .ref z12, .ref z13, .ref z14, .ref z15, .int (nI zgw116), .ref z17, .int z18, .ref z19]))] ++ va_pl L M_212) := hD
                                          have hM_214 : M_212 b13 = .inr (12, fs204) := (hF2.at hb_15 (by decide)).trans hM204
                                          have hF : fr K L [12, 14, 15, 32, 42, 45, 46, 79, 80, 81, 83] M M_212 := hF.tr hF2 (by decide)
                                          have hG : fG K L [1, 7, 8, 13, 14, 15, 16, 17, 18] M M_212 := hG.tr hWb hG2 (by decide)
                                          obtain ⟨g_215, hg23, hV2⟩ := hVP
                                          rw [hV.2.1, hV.2.2.1] at hg23
                                          rw [hV.2.1, hV.2.2.1] at hV2
                                          have hV : VW K L M M_212 b13 (va_up (va_up (va_up (va_up (va_up (va_up (va_up (fx M b13) 17 ((gnw116 : Nat) : Int)) 14 ((n_132 : Nat) : Int)) 15 (0 : Int)) 16 (0 : Int)) 1 ((c_33 : Nat) : Int)) 13 (((v174 + 1) : Nat) : Int)) 18 (1 : Int)) (va_up (va_up (va_up (va_up (va_up (va_up (ax M b13) 44 gpw116) 45 gqw116) 38 p_133) 39 q_134) 40 r_135) 23 g_215) := hV.tr hV2
                                          refine lv_aload_n hx hb dX13_close_356 rfl (lv_at hl 6 rfl) ?_
                                          refine lv_aload_n hx hb dX13_close_357 rfl (lv_at hl 5 rfl) ?_
                                          refine pg_getN (D := D) (ci := 12) (v := .int (nI (v174 + 1))) (C := RX12) (T := TX12) (N := 51) hx hb hg inG12 hown hK hP hb_15.1 hM_214 rfl 13 (by decide) (hN.use (Cond.fieldLinkNest RX13 244 RX12 "closed" "I" RX13) 22 rfl rfl) (fun _ h9 => h9) hv_208 dX13_close_358 ?_
                                          have hx13 : (((v174 + 1) : Nat) : Int) = (((v174 + 1) : Nat) : Int) := (congrFun hV.2.1 13).symm.trans ((fx_of hM_214 rfl hv_208).trans (nI_toInt (by omega)))
                                          refine lv_iconst (v := 1) hx hb dX13_close_361 (by decide) ?_
                                          refine lv_isub hx hb dX13_close_362 ?_
                                          refine lv_topi (fun f_216 ef_216 => ?_)
                                          obtain rfl : f_216 = (nI ((v174 + 1) - 1)) := ef_216.trans (nI_prd (by omega))
                                          have hPc := hP.sub (ws' := [(za, .inr (13, [.int 0, .ref z1, .int (nI z2), .int (nI z3), .int z4, .int z5, .ref z6, .ref z7, .ref z8, .ref z9, .int (nI z10), .ref z11, .ref z12, .ref z13, .ref z14, .ref z15, .int (nI zgw116), .ref z17, .int z18, .ref z19]))]) [0] rfl
                                          have hDc := hD.sub (ws' := [(za, .inr (13, [.int 0, .ref z1, .int (nI z2), .int (nI z3), .int z4, .int z5, .ref z6, .ref z7, .ref z8, .ref z9, .int (nI z10), .ref z11, .ref z12, .ref z13, .ref z14, .ref z15, .int (nI zgw116), .ref z17, .int z18, .ref z19]))]) [0] (by decide) rfl
                                          have hKc := hK.sub (tys' := []) [] rfl
                                          have hFc := va_free (wc := [(za, .inr (13, [.int 0, .ref z1, .int (nI z2), .int (nI z3), .int z4, .int z5, .ref z6, .ref z7, .ref z8, .ref z9, .int (nI z10), .ref z11, .ref z12, .ref z13, .ref z14, .ref z15, .int (nI zgw116), .ref z17, .int z18, .ref z19]))]) hD hS hA [0] rfl
                                          refine va_calli (va_runV (As := [.int (nI ((v174 + 1) - 1))]) (rest := []) ⟨hx, hb, hml, hown, hg⟩ (m_done l D H_210.size za 0 z1 (nI z2) (nI z3) z4 z5 z6 z7 z8 z9 (nI z10) z11 z12 z13 z14 z15 (nI zgw116) z17 z18 z19 (nI ((v174 + 1) - 1))) (cwV 1 hg (gV wd_730 wd_731 wd_732 wd_717 wd_733) rfl rfl rfl (by decide +kernel) ⟨(Nat.le_trans (Nat.le_of_ble_eq_true rfl) hRf), (Nat.le_trans (Nat.le_of_ble_eq_true rfl) hRl)⟩) ⟨Pr.blind, va_recv hK hP (ci := 13) (q0 := 0) rfl rfl, fun U hU hW => ⟨rfl, Pr.at hPc hKc hDc hN hU hW⟩⟩ rfl rfl hl.1 rfl (lv_room (Nat.le_of_ble_eq_true rfl)) dX13_close_363 ⟨(Nat.le_trans (Nat.le_of_ble_eq_true rfl) hRc), (Nat.le_trans (Nat.le_of_ble_eq_true rfl) hRs)⟩) hS (fun q _ h => hFc q h) hFc (fun r_218 M_219 t H_217 locs ht hvm hw hB hz1 hk1 hS => ?_)
                                          have hp_220 := hw
                                          obtain ⟨hP1, hK1, hD1⟩ := hB
                                          rw [ht] at hP1
                                          obtain ⟨hP, hD⟩ := va_joinQ (X := [(za, .inr (13, [.int 0, .ref z1, .int (nI z2), .int (nI z3), .int z4, .int z5, .ref z6, .ref z7, .ref z8, .ref z9, .int (nI z10), .ref z11, .ref z12, .ref z13, .ref z14, .ref z15, .int (nI zgw116), .ref z17, .int z18, .ref z19]))]) (cx := [(za, .inr (13, [.int 0, .ref z1, .int (nI z2), .int (nI z3), .int z4, .int z5, .ref z6, .ref z7, .ref z8, .ref z9, .int (nI z10), .ref z11, .ref z12, .ref z13, .ref z14, .ref z15, .int (nI zgw116), .ref z17, .int z18, .ref z19]))]) (wr := []) (w1 := [(za, .inr (13, [.int 0, .ref z1, .int (nI z2), .int (nI z3), .int 0, .int (-1), .ref z6, .ref z7, .ref z8, .ref z9, .int (nI z10), .ref z11, .ref z12, .ref z13, .ref z14, .ref z15, .int (nI zgw116), .ref z17, .int z18, .ref z19]))]) (pl := va_pl L M_212) hP hD [0] [] rfl rfl (by decide) (by decide) hk1 hFc hP1 hD1
                                          have hP : va_P D vwCl ([(za, .inr (13, [.int 0, .ref z1, .int (nI z2), .int (nI z3), .int 0, .int (-1), .ref z6, .ref z7, .ref z8, .ref z9, .int (nI z10), .ref z11, .ref z12, .ref z13, .ref z14, .ref z15, .int (nI zgw116), .ref z17, .int z18, .ref z19]))] ++ va_pl L M_212) H_217 := hP
                                          have hD : va_D A ([(za, .inr (13, [.int 0, .ref z1, .int (nI z2), .int (nI z3), .int 0, .int (-1), .ref z6, .ref z7, .ref z8, .ref z9, .int (nI z10), .ref z11, .ref z12, .ref z13, .ref z14, .ref z15, .int (nI zgw116), .ref z17, .int z18, .ref z19]))] ++ va_pl L M_212) := hD
                                          have hq := Eq.symm hp_220
                                          subst hq
                                          have hI_221 : (24 : Int) ≤ ((v6w79 : Nat) : Int) := ileI rfl (nI_toInt (by omega)) c_84
                                          have hI_222 : ((c_33 : Nat) : Int) < ((v6w89 : Nat) : Int) := iltI (nI_toInt (by omega)) (nI_toInt (by omega)) c_94
                                          have hI_223 : ((v97 : Nat) : Int) ≤ ((v7w106 : Nat) : Int) := ileI (nI_toInt (by omega)) (nI_toInt (by omega)) c_111
                                          have hI_224 : ((v123 : Nat) : Int) ≤ ((v7w116 : Nat) : Int) := ileI (nI_toInt (by omega)) (nI_toInt (by omega)) c_124
                                          have hy4 : ∀ d : Nat, SX (k1 : Int32).toNatClampNeg 1 < (d : Int) → (d : Int) ≤ enD (SX (k1 : Int32).toNatClampNeg) (SY (k1 : Int32).toNatClampNeg) → ¬ opD (SY (k1 : Int32).toNatClampNeg) d := fun d h1 h2 => hall d h1 (by rw [hEd] at h2; omega)
                                          have hy5 : ∀ b, b < z2 → ¬ LAG PK PT SX SY (k1 : Int32).toNatClampNeg (enD (SX (k1 : Int32).toNatClampNeg) (SY (k1 : Int32).toNatClampNeg)) b := by rw [hEd]; have h9 := c_56; rw [nI_toInt (by omega)] at h9; exact h9
                                          have hyes : okCl z2 PK PT SX SY k1 := by unfold okCl okH; refine ⟨⟨?_, ?_⟩, ?_, ?_, ?_, ?_⟩ <;> first | omega | assumption
                                          have hA9 : HA (ax M b13 2) (ax M b13 3) := hAT.1
                                          have hB9 : HB (0 : Int) ((n_132 : Nat) : Int) (ax M b13 3) (ax M b13 43) := HB.zero hAT.2.1.nn.1 hn14
                                          have hC9 : HC (fx M b13 10) (ax M b13 22) g_215 := HC.gr hAT.2.2.1 hg9
                                          have hD9 : HD (fx M b13 0) (fx M b13 11) (0 : Int) (ax M b13 34) (ax M b13 41) := HD.clr hAT.2.2.2.1
                                          have hE9 : HE (fx M b13 0) ((c_33 : Nat) : Int) (fx M b13 12) (((v174 + 1) : Nat) : Int) (ax M b13 37) := HE.close hAT.2.2.2.2 hb13 (by omega) (by omega) (by rw [hT37])
                                          have hH9 : HI (va_up (va_up (va_up (va_up (va_up (va_up (va_up (fx M b13) 17 ((gnw116 : Nat) : Int)) 14 ((n_132 : Nat) : Int)) 15 (0 : Int)) 16 (0 : Int)) 1 ((c_33 : Nat) : Int)) 13 (((v174 + 1) : Nat) : Int)) 18 (1 : Int)) (va_up (va_up (va_up (va_up (va_up (va_up (ax M b13) 44 gpw116) 45 gqw116) 38 p_133) 39 q_134) 40 r_135) 23 g_215) := ⟨hA9, hB9, hC9, hD9, hE9⟩
                                          have hGI9 : GI K L z1 z2 M_212 := GI.fin hW0 i1 b2 hGI hact hV (hF.at i1 (by decide)) hH9
                                          have hX1 : (va_up (va_up (va_up (va_up (va_up (va_up (va_up (fx M b13) 17 ((gnw116 : Nat) : Int)) 14 ((n_132 : Nat) : Int)) 15 (0 : Int)) 16 (0 : Int)) 1 ((c_33 : Nat) : Int)) 13 (((v174 + 1) : Nat) : Int)) 18 (1 : Int)) 1 = ((c_33 : Nat) : Int) := rfl
                                          have hX13 : (va_up (va_up (va_up (va_up (va_up (va_up (va_up (fx M b13) 17 ((gnw116 : Nat) : Int)) 14 ((n_132 : Nat) : Int)) 15 (0 : Int)) 16 (0 : Int)) 1 ((c_33 : Nat) : Int)) 13 (((v174 + 1) : Nat) : Int)) 18 (1 : Int)) 13 = SX (k1 : Int32).toNatClampNeg 13 + 1 := by show (((v174 + 1) : Nat) : Int) = _; omega
                                          have hkp : kpF (nI 0) (nI c_33) = clk (SX (k1 : Int32).toNatClampNeg 1) ((c_33 : Nat) : Int) := by funext z9; unfold kpF clk; rw [show (decide (nI 0 ≤ z9.2.1)) = decide (SX (k1 : Int32).toNatClampNeg 1 + 1 ≤ z9.2.1.toInt) from decide_eq_decide.mpr (by rw [Int32.le_iff_toInt_le, nI_toInt (by omega)]; omega), show (decide (z9.2.1 ≤ nI c_33)) = decide (z9.2.1.toInt ≤ ((c_33 : Nat) : Int)) from decide_eq_decide.mpr (by rw [Int32.le_iff_toInt_le, nI_toInt (by omega)])]
                                          have hCLF : CLF (enD (SX (k1 : Int32).toNatClampNeg) (SY (k1 : Int32).toNatClampNeg)) (SX (k1 : Int32).toNatClampNeg) (SY (k1 : Int32).toNatClampNeg) (va_up (va_up (va_up (va_up (va_up (va_up (va_up (fx M b13) 17 ((gnw116 : Nat) : Int)) 14 ((n_132 : Nat) : Int)) 15 (0 : Int)) 16 (0 : Int)) 1 ((c_33 : Nat) : Int)) 13 (((v174 + 1) : Nat) : Int)) 18 (1 : Int)) (va_up (va_up (va_up (va_up (va_up (va_up (ax M b13) 44 gpw116) 45 gqw116) 38 p_133) 39 q_134) 40 r_135) 23 g_215) := by
                                            rw [hEd]
                                            refine ⟨congrFun hZk.1 0, hX1, congrFun hZk.1 10, congrFun hZk.1 11, congrFun hZk.1 12, hX13, rfl, rfl, ⟨n_132, rfl, ?_⟩, fun j q23 q38 q39 q40 q44 q45 => ?_, fun i hi => ?_⟩
                                            · rw [← hkp, show (SX (k1 : Int32).toNatClampNeg 14).toNat = n_136 by omega]; rw [← hZk.2]; exact htr8
                                            · rw [← hZk.2]; simp only [va_up_ne _ _ q23, va_up_ne _ _ q38, va_up_ne _ _ q39, va_up_ne _ _ q40, va_up_ne _ _ q44, va_up_ne _ _ q45]
                                            · rw [← hZk.2]; exact (hg23 i (by show (i : Int) < fx M b13 10; omega))
                                          rw [hQ]
                                          exact W.iret (v := (nI ((v174 + 1) - 1))) hx hb hr (fun t ht hW9 => ⟨⟨(nI ((v174 + 1) - 1)), M_212, rfl, ⟨hW, hF, hG, ⟨hGI9, (va_up (va_up (va_up (va_up (va_up (va_up (va_up (fx M b13) 17 ((gnw116 : Nat) : Int)) 14 ((n_132 : Nat) : Int)) 15 (0 : Int)) 16 (0 : Int)) 1 ((c_33 : Nat) : Int)) 13 (((v174 + 1) : Nat) : Int)) 18 (1 : Int)), (va_up (va_up (va_up (va_up (va_up (va_up (ax M b13) 44 gpw116) 45 gqw116) 38 p_133) 39 q_134) 40 r_135) 23 g_215), fun _ => hCLF, (by unfold sxCl syCl; rw [if_pos hyes, if_pos hyes]; exact ZSx.fin hW0 i1 b2 hZS hGI.1 hkn hb9 hV (hF.at i1 (by decide)) rfl rfl)⟩, (by unfold anCl; rw [if_pos hyes]; exact congrArg nI (by omega))⟩, ⟨0, (-1), zgw116, (by omega), by rw [ht]; exact hP, hD⟩⟩, hS.F ht⟩) hS.2.2 dX13_close_366
                                        · have hz := rfl (a := 0)
                                          have n_225 : ¬ (v123 ≤ v7w116) := fun q => c_124 ((iLE (a := v123) (b := v7w116) (by omega) (by omega)).mpr q)
                                          obtain ⟨v226, hv226, hc226⟩ : ∃ v : Nat, fs122[17]? = some (.int (nI v) : Value) ∧ v ≤ 120 := hl122 17 (by decide)
                                          have hx17 : ((gnw116 : Nat) : Int) = ((v226 : Nat) : Int) := (congrFun hV.2.1 17).symm.trans ((fx_of hM122 rfl hv226).trans (nI_toInt (by omega)))
                                          have hx15 : (fx M b13 15) = ((v123 : Nat) : Int) := (congrFun hV.2.1 15).symm.trans ((fx_of hM122 rfl hv123).trans (nI_toInt (by omega)))
                                          refine lv_aload_n hx hb dX13_close_287 rfl (lv_at hl 6 rfl) ?_
                                          refine lv_aload_n hx hb dX13_close_288 rfl (lv_at hl 5 rfl) ?_
                                          refine lv_iload hx hb dX13_close_289 (lv_at hl 0 rfl) ?_
                                          have hPc : va_P D vwCl ([(za, .inr (13, [.int 0, .ref z1, .int (nI z2), .int (nI z3), .int z4, .int z5, .ref z6, .ref z7, .ref z8, .ref z9, .int (nI z10), .ref z11, .ref z12, .ref z13, .ref z14, .ref z15, .int (nI zgw116), .ref z17, .int z18, .ref z19]))] ++ va_pl L M_120) H_121 := hP
                                          have hDc : va_D A ([(za, .inr (13, [.int 0, .ref z1, .int (nI z2), .int (nI z3), .int z4, .int z5, .ref z6, .ref z7, .ref z8, .ref z9, .int (nI z10), .ref z11, .ref z12, .ref z13, .ref z14, .ref z15, .int (nI zgw116), .ref z17, .int z18, .ref z19]))] ++ va_pl L M_120) := hD
                                          have hFc : ∀ q, va_A ([(za, .inr (13, [.int 0, .ref z1, .int (nI z2), .int (nI z3), .int z4, .int z5, .ref z6, .ref z7, .ref z8, .ref z9, .int (nI z10), .ref z11, .ref z12, .ref z13, .ref z14, .ref z15, .int (nI zgw116), .ref z17, .int z18, .ref z19]))] ++ va_pl L M_120) H_121.size q → A q := pg_free hDc hS hA
                                          refine va_callv (va_runV (As := [.ref b13, .int (nI v7w116)]) (rest := []) ⟨hx, hb, hml, hown, hg⟩ (g_X13_mended l D cy K L M_120 H_121.size za 0 z1 z2 z3 z4 z5 z6 z7 z8 z9 z10 z11 z12 z13 z14 z15 zgw116 z17 z18 z19 b13 v7w116  hW i1 b2 b3 i6 i7 i8 i9 b10 i11 i12 i13 i14 i15 (by omega) i17 i19 hb_15 (by omega) hV.2.2.2 ⟨_, _, hM122, hv226, by omega⟩ (by rw [hV.2.1]; exact h11) (by rw [hV.2.1, hV.2.2.1]; exact hAT.2.2.2.1) (by rw [hV.2.1]; show ((v7w116 : Nat) : Int) < fx M b13 15; omega)) (cwV 2 hg (gV wd_871 wd_872 wd_873 wd_717 wd_874) rfl rfl rfl (by decide +kernel) ⟨(Nat.le_trans (Nat.le_of_ble_eq_true rfl) hRf), (Nat.le_trans (Nat.le_of_ble_eq_true rfl) hRl)⟩) ⟨PG.blind, va_recv hK hP (ci := 13) (q0 := 0) rfl rfl, fun U hU hW => ⟨rfl, PG.at hPc hK hDc hN hU hW⟩⟩ rfl rfl hl.1 rfl (lv_room (Nat.le_of_ble_eq_true rfl)) dX13_close_291 ⟨(Nat.le_trans (Nat.le_of_ble_eq_true rfl) hRc), (Nat.le_trans (Nat.le_of_ble_eq_true rfl) hRs)⟩) hS (fun q _ h => hFc q h) hFc (fun M_229 t H_227 locs ht hvm hw hB hz1 hk1 hS => ?_)
                                          have hWb := hW
                                          obtain ⟨hW, hF2, hG2, hVP, hp_230⟩ := hw
                                          obtain ⟨w16_231, hg_232, hP1, hD1⟩ := hB
                                          rw [ht] at hP1
                                          have hP : va_P D vwCl ([(za, .inr (13, [.int 0, .ref z1, .int (nI z2), .int (nI z3), .int z4, .int z5, .ref z6, .ref z7, .ref z8, .ref z9, .int (nI z10), .ref z11, .ref z12, .ref z13, .ref z14, .ref z15, .int (nI w16_231), .ref z17, .int z18, .ref z19]))] ++ va_pl L M_229) H_227 := hP1
                                          have hD : va_D A ([(za, .inr (13, [.int 0, .ref z1, .int (nI z2), .int (nI z3), .int z4, .int z5, .ref z6, .ref z7, .ref z8, .ref z9, .int (nI z10), .ref z11, .ref z12, .ref z13, .ref z14, .ref z15, .int (nI w16_231), .ref z17, .int z18, .ref z19]))] ++ va_pl L M_229) := hD1.mono hFc
                                          obtain ⟨fs233, hM233, hn233, hl233⟩ := hW.open_12 hb_15
                                          have hv_234 : fs233[15]? = some (.int (nI v123) : Value) := (hG2 _ hb_15 _ _ hM122 hM233 15 (by decide)).trans hv123
                                          have hF : fr K L [12, 14, 15, 32, 42, 45, 46, 79, 80, 81, 83] M M_229 := hF.tr hF2 (by decide)
                                          have hG : fG K L [1, 7, 8, 13, 14, 15, 16, 17, 18] M M_229 := hG.tr hWb hG2 (by decide)
                                          obtain ⟨n_235, g_236, g_237, hn17, hV2⟩ := hVP
                                          rw [hV.2.1] at hn17
                                          rw [hV.2.1, hV.2.2.1] at hV2
                                          have hn17 : ((gnw116 : Nat) : Int) = (n_235 : Int) := hn17
                                          have hV : VW K L M M_229 b13 (va_up (va_up (fx M b13) 17 ((gnw116 : Nat) : Int)) 17 ((n_235 + 1 : Nat) : Int)) (va_up (va_up (va_up (va_up (ax M b13) 44 gpw116) 45 gqw116) 44 g_236) 45 g_237) := hV.tr hV2
                                          refine lv_iinc (v := (nI (v7w116 + 1))) (lv' := [(7, .int (nI (v7w116 + 1))), (6, .int (nI v97)), (5, .int (-1)), (4, .int (nI c_33)), (3, .int 0), (2, .ref b13), (0, .ref za), (1, .int k1)]) hx hb dX13_close_294 hl (k := 0) rfl (nI_1 v7w116) (by decide) rfl (fun ls hl => ?_)
                                          refine lv_goto (tgt := 278) hx hb dX13_close_297 (by decide) ?_
                                          exact ih_114 (v7w116 + 1) w16_231 (n_235 + 1) g_236 g_237 M_229 H_227 _ _ (by omega) (by omega) (by omega) (by omega) hW hF hG (by have h := hV; simp only [va_up_up] at h; rw [va_up_4] at h; exact h) hP hD hS (lv_sub hl [0, 1, 2, 3, 4, 5, 6, 7] rfl)
                                    exact key_113 (24 - 0 + 1) 0 zgw106 gnw89 gpw89 gqw89 M_109 H_110 _ _ (by omega) (by omega) (by omega) (by omega) hW hF hG hV hP hD hS (lv_sub hl [0, 1, 2, 3, 4, 5, 6, 7] rfl)
                                  · have hz := rfl (a := 0)
                                    have n_238 : ¬ (v97 ≤ v7w106) := fun q => c_111 ((iLE (a := v97) (b := v7w106) (by omega) (by omega)).mpr q)
                                    refine lv_aload_n hx hb dX13_close_261 rfl (lv_at hl 6 rfl) ?_
                                    refine lv_aload_n hx hb dX13_close_262 rfl (lv_at hl 5 rfl) ?_
                                    refine lv_iload hx hb dX13_close_263 (lv_at hl 0 rfl) ?_
                                    refine lv_iload_n hx hb dX13_close_265 rfl (lv_at hl 4 rfl) ?_
                                    have hPc : va_P D vwCl ([(za, .inr (13, [.int 0, .ref z1, .int (nI z2), .int (nI z3), .int z4, .int z5, .ref z6, .ref z7, .ref z8, .ref z9, .int (nI z10), .ref z11, .ref z12, .ref z13, .ref z14, .ref z15, .int (nI zgw106), .ref z17, .int z18, .ref z19]))] ++ va_pl L M_109) H_110 := hP
                                    have hDc : va_D A ([(za, .inr (13, [.int 0, .ref z1, .int (nI z2), .int (nI z3), .int z4, .int z5, .ref z6, .ref z7, .ref z8, .ref z9, .int (nI z10), .ref z11, .ref z12, .ref z13, .ref z14, .ref z15, .int (nI zgw106), .ref z17, .int z18, .ref z19]))] ++ va_pl L M_109) := hD
                                    have hFc : ∀ q, va_A ([(za, .inr (13, [.int 0, .ref z1, .int (nI z2), .int (nI z3), .int z4, .int z5, .ref z6, .ref z7, .ref z8, .ref z9, .int (nI z10), .ref z11, .ref z12, .ref z13, .ref z14, .ref z15, .int (nI zgw106), .ref z17, .int z18, .ref z19]))] ++ va_pl L M_109) H_110.size q → A q := pg_free hDc hS hA
                                    refine va_callv (va_runV (As := [.ref b13, .int (nI v7w106), .int 0]) (rest := []) ⟨hx, hb, hml, hown, hg⟩ (g_X13_stretch l D cy K L M_109 H_110.size za 0 z1 z2 z3 z4 z5 z6 z7 z8 z9 z10 z11 z12 z13 z14 z15 zgw106 z17 z18 z19 b13 v7w106 0  hW i1 b2 b3 i6 i7 i8 i9 b10 i11 i12 i13 i14 i15 (by omega) i17 i19 hb_15 (by omega) hV.2.2.2 (by rw [hV.2.1]; exact h11) (by rw [hV.2.1, hV.2.2.1]; exact hAT.2.2.2.1.1 h11) (by have hq9 := hs4 v7w106 (by omega); rw [hV.2.1, hV.2.2.1]; show fx M b13 0 ≤ (gpw89 v7w106).toInt; omega) (by have hq9 := hs4 v7w106 (by omega); rw [hV.2.2.1]; show (gpw89 v7w106).toInt + (gqw89 v7w106).toInt ≤ 1000; omega)) (cwV 3 hg (gV wd_875 wd_876 wd_877 wd_717 wd_878) rfl rfl rfl (by decide +kernel) ⟨(Nat.le_trans (Nat.le_of_ble_eq_true rfl) hRf), (Nat.le_trans (Nat.le_of_ble_eq_true rfl) hRl)⟩) ⟨PG.blind, va_recv hK hP (ci := 13) (q0 := 0) rfl rfl, fun U hU hW => ⟨rfl, PG.at hPc hK hDc hN hU hW⟩⟩ rfl rfl hl.1 rfl (lv_room (Nat.le_of_ble_eq_true rfl)) dX13_close_266 ⟨(Nat.le_trans (Nat.le_of_ble_eq_true rfl) hRc), (Nat.le_trans (Nat.le_of_ble_eq_true rfl) hRs)⟩) hS (fun q _ h => hFc q h) hFc (fun M_241 t H_239 locs ht hvm hw hB hz1 hk1 hS => ?_)
                                    have hWb := hW
                                    obtain ⟨hW, hF2, hG2, hp_242⟩ := hw
                                    obtain ⟨w16_243, hg_244, hP1, hD1⟩ := hB
                                    rw [ht] at hP1
                                    have hP : va_P D vwCl ([(za, .inr (13, [.int 0, .ref z1, .int (nI z2), .int (nI z3), .int z4, .int z5, .ref z6, .ref z7, .ref z8, .ref z9, .int (nI z10), .ref z11, .ref z12, .ref z13, .ref z14, .ref z15, .int (nI w16_243), .ref z17, .int z18, .ref z19]))] ++ va_pl L M_241) H_239 := hP1
                                    have hD : va_D A ([(za, .inr (13, [.int 0, .ref z1, .int (nI z2), .int (nI z3), .int z4, .int z5, .ref z6, .ref z7, .ref z8, .ref z9, .int (nI z10), .ref z11, .ref z12, .ref z13, .ref z14, .ref z15, .int (nI w16_243), .ref z17, .int z18, .ref z19]))] ++ va_pl L M_241) := hD1.mono hFc
                                    have hF : fr K L [12, 14, 15, 32, 42, 45, 46, 79, 80, 81, 83] M M_241 := hF.tr hF2 (by decide)
                                    have hG : fG K L [1, 7, 8, 13, 14, 15, 16, 17, 18] M M_241 := hG.tr hWb hG2 (by decide)
                                    have hV : VW K L M M_241 b13 (va_up (fx M b13) 17 ((gnw89 : Nat) : Int)) (va_up (va_up (ax M b13) 44 gpw89) 45 gqw89) := hV.cal hWb hW hF2 hG2 (by decide) (by decide) hb_15
                                    refine lv_iinc (v := (nI (v7w106 + 1))) (lv' := [(7, .int (nI (v7w106 + 1))), (6, .int (nI v97)), (5, .int (-1)), (4, .int (nI c_33)), (3, .int 0), (2, .ref b13), (0, .ref za), (1, .int k1)]) hx hb dX13_close_269 hl (k := 0) rfl (nI_1 v7w106) (by decide) rfl (fun ls hl => ?_)
                                    refine lv_goto (tgt := 254) hx hb dX13_close_272 (by decide) ?_
                                    exact ih_104 (v7w106 + 1) w16_243 M_241 H_239 _ _ (by omega) (by omega) (by omega) hW hF hG hV hP hD hS (lv_sub hl [0, 1, 2, 3, 4, 5, 6, 7] rfl)
                              exact key_103 (1001 - 0 + 1) 0 z16 M_100 H_98 _ _ (by omega) (by omega) (by omega) hW hF hG hV hP hD hS (lv_sub hl [0, 1, 2, 3, 4, 5, 6, 7] rfl)
                            · have hz := rfl (a := 0)
                              have n_245 : ¬ (c_33 < v6w89) := fun q => c_94 ((iLT (a := c_33) (b := v6w89) (by omega) (by omega)).mpr q)
                              obtain ⟨fs246, hM246, hn246, hl246⟩ := hW.open_12 hb_15
                              obtain ⟨v247, hv247, hc247⟩ : ∃ v : Nat, fs246[17]? = some (.int (nI v) : Value) ∧ v ≤ 120 := hl246 17 (by decide)
                              have hx17 : ((gnw89 : Nat) : Int) = ((v247 : Nat) : Int) := (congrFun hV.2.1 17).symm.trans ((fx_of hM246 rfl hv247).trans (nI_toInt (by omega)))
                              obtain ⟨v248, hv248, hc248⟩ : ∃ v : Nat, fs246[44]? = some (.ref v : Value) ∧ isk K L v 45 120 := hl246 44 (by decide)
                              obtain ⟨f249, hM249, hf249⟩ := hW.open_45 hc248
                              have hy44 : gpw89 = f249 := (congrFun hV.2.2.1 44).symm.trans (ax_of hM246 (by decide) hv248 hM249)
                              obtain ⟨v250, hv250, hc250⟩ : ∃ v : Nat, fs246[45]? = some (.ref v : Value) ∧ isk K L v 46 120 := hl246 45 (by decide)
                              obtain ⟨f251, hM251, hf251⟩ := hW.open_46 hc250
                              have hy45 : gqw89 = f251 := (congrFun hV.2.2.1 45).symm.trans (ax_of hM246 (by decide) hv250 hM251)
                              have hSD := hx_91
                              obtain ⟨hs1, hs2, hs3, hs4⟩ := hx_91
                              have hgn : v247 = gnw89 := by omega
                              refine lv_iload hx hb dX13_close_171 (lv_at hl 0 rfl) ?_
                              refine lv_iload_n hx hb dX13_close_173 rfl (lv_at hl 3 rfl) ?_
                              refine lv_icmp_eq (tgt := 186) hx hb dX13_close_174 (by decide) (fun c_252 => ?_) (fun c_252 => ?_)
                              · have hz := rfl (a := 0)
                                have n_253 : v6w89 = 0 := (iEQ (a := v6w89) (b := 0) (by omega) (by omega)).mp c_252
                                refine lv_aload_n hx hb dX13_close_186 rfl (lv_at hl 4 rfl) ?_
                                refine pg_getN (D := D) (ci := 12) (v := .ref v248) (C := RX12) (T := TX12) (N := 51) hx hb hg inG12 hown hK hP hb_15.1 hM246 rfl 44 (by decide) (hN.use (Cond.fieldLinkNest RX13 265 RX12 "stretchDay" "[I" RX13) 53 rfl rfl) (fun _ h9 => h9) hv248 dX13_close_187 ?_
                                refine lv_aload_n hx hb dX13_close_190 rfl (lv_at hl 4 rfl) ?_
                                refine pg_getN (D := D) (ci := 12) (v := .int (nI v247)) (C := RX12) (T := TX12) (N := 51) hx hb hg inG12 hown hK hP hb_15.1 hM246 rfl 17 (by decide) (hN.use (Cond.fieldLinkNest RX13 256 RX12 "stretches" "I" RX13) 26 rfl rfl) (fun _ h9 => h9) hv247 dX13_close_191 ?_
                                refine lv_iload hx hb dX13_close_194 (lv_at hl 0 rfl) ?_
                                refine pg_iast hx hb hK hP hD hS hc248.1 0 hM249 rfl (inbN v247 120 (by omega) (by omega)) dX13_close_196 (fun H_254 locs hP hD hS => ?_)
                                obtain ⟨M_255, eM_255⟩ : ∃ M1 : Hp, M1 = va_up M_92 v248 (.inl (cy 14, 120, .inl (upd f249 ((nI v247) : Int32).toNatClampNeg (nI v6w89)))) := ⟨_, rfl⟩
                                have hy44 : gpw89 = f249 := (congrFun hV.2.2.1 44).symm.trans (ax_of hM246 (by decide) hv248 hM249)
                                have hV : VW K L M M_255 b13 (va_up (fx M b13) 17 ((gnw89 : Nat) : Int)) (va_up (va_up (va_up (ax M b13) 44 gpw89) 45 gqw89) 44 (upd gpw89 ((nI v247) : Int32).toNatClampNeg (nI v6w89))) := by rw [eM_255]; exact hV.ast (j := 44) hW hb_15 hM246 (by decide) hv248 hc248 hM249
                                have hP : va_P D vwCl ([(za, .inr (13, [.int 0, .ref z1, .int (nI z2), .int (nI z3), .int z4, .int z5, .ref z6, .ref z7, .ref z8, .ref z9, .int (nI z10), .ref z11, .ref z12, .ref z13, .ref z14, .ref z15, .int (nI z16), .ref z17, .int z18, .ref z19]))] ++ va_pl L M_255) H_254 := by rw [eM_255]; exact hP
                                have hD : va_D A ([(za, .inr (13, [.int 0, .ref z1, .int (nI z2), .int (nI z3), .int z4, .int z5, .ref z6, .ref z7, .ref z8, .ref z9, .int (nI z10), .ref z11, .ref z12, .ref z13, .ref z14, .ref z15, .int (nI z16), .ref z17, .int z18, .ref z19]))] ++ va_pl L M_255) := by rw [eM_255]; exact hD
                                have hW : WOM cy K L M_255 := by rw [eM_255]; exact hW.up_45 hc248 ⟨_, rfl, (updP (P := fun z => ∃ c : Nat, c < 1000 ∧ z = nI c) hf249 ⟨v6w89, by omega, rfl⟩)⟩
                                have hF : fr K L [12, 14, 15, 32, 42, 45, 46, 79, 80, 81, 83] M M_255 := by rw [eM_255]; exact hF.up hc248 (by decide)
                                have hG : fG K L [1, 7, 8, 13, 14, 15, 16, 17, 18] M M_255 := by rw [eM_255]; exact hG.arr hc248 (by decide)
                                have hM_256 : M_255 v248 = .inl (cy 14, 120, .inl (upd f249 ((nI v247) : Int32).toNatClampNeg (nI v6w89))) := by rw [eM_255]; exact va_up_self _ _ _
                                have hM_257 : M_255 b13 = .inr (12, fs246) := by rw [eM_255, va_up_ne _ _ (hb_15.neT hc248 (by decide))]; exact hM246
                                have hM_258 : M_255 v250 = .inl (cy 14, 120, .inl (f251)) := by rw [eM_255, va_up_ne _ _ (hc250.neT hc248 (by decide))]; exact hM251
                                have hf_260 : ∀ j, j < 120 → ∃ c : Nat, c < 1000 ∧ (upd f249 ((nI v247) : Int32).toNatClampNeg (nI v6w89)) j = nI c := (updP (P := fun z => ∃ c : Nat, c < 1000 ∧ z = nI c) hf249 ⟨v6w89, by omega, rfl⟩)
                                obtain ⟨f_259, ef_259⟩ : ∃ f : Nat → Int32, f = upd f249 ((nI v247) : Int32).toNatClampNeg (nI v6w89) := ⟨_, rfl⟩
                                rw [← ef_259] at hM_256 hf_260
                                refine lv_aload_n hx hb dX13_close_197 rfl (lv_at hl 4 rfl) ?_
                                refine pg_getN (D := D) (ci := 12) (v := .ref v250) (C := RX12) (T := TX12) (N := 51) hx hb hg inG12 hown hK hP hb_15.1 hM_257 rfl 45 (by decide) (hN.use (Cond.fieldLinkNest RX13 268 RX12 "stretchDays" "[I" RX13) 54 rfl rfl) (fun _ h9 => h9) hv250 dX13_close_198 ?_
                                refine lv_aload_n hx hb dX13_close_201 rfl (lv_at hl 4 rfl) ?_
                                refine pg_getN (D := D) (ci := 12) (v := .int (nI v247)) (C := RX12) (T := TX12) (N := 51) hx hb hg inG12 hown hK hP hb_15.1 hM_257 rfl 17 (by decide) (hN.use (Cond.fieldLinkNest RX13 256 RX12 "stretches" "I" RX13) 26 rfl rfl) (fun _ h9 => h9) hv247 dX13_close_202 ?_
                                refine lv_iconst (v := 0) hx hb dX13_close_205 (by decide) ?_
                                refine pg_iast hx hb hK hP hD hS hc250.1 0 hM_258 rfl (inbN v247 120 (by omega) (by omega)) dX13_close_206 (fun H_261 locs hP hD hS => ?_)
                                obtain ⟨M_262, eM_262⟩ : ∃ M1 : Hp, M1 = va_up M_255 v250 (.inl (cy 14, 120, .inl (upd f251 ((nI v247) : Int32).toNatClampNeg 0))) := ⟨_, rfl⟩
                                have hy45 : gqw89 = f251 := (congrFun hV.2.2.1 45).symm.trans (ax_of hM_257 (by decide) hv250 hM_258)
                                have hV : VW K L M M_262 b13 (va_up (fx M b13) 17 ((gnw89 : Nat) : Int)) (va_up (va_up (va_up (va_up (ax M b13) 44 gpw89) 45 gqw89) 44 (upd gpw89 ((nI v247) : Int32).toNatClampNeg (nI v6w89))) 45 (upd gqw89 ((nI v247) : Int32).toNatClampNeg 0)) := by rw [eM_262]; exact hV.ast (j := 45) hW hb_15 hM_257 (by decide) hv250 hc250 hM_258
                                have hP : va_P D vwCl ([(za, .inr (13, [.int 0, .ref z1, .int (nI z2), .int (nI z3), .int z4, .int z5, .ref z6, .ref z7, .ref z8, .ref z9, .int (nI z10), .ref z11, .ref z12, .ref z13, .ref z14, .ref z15, .int (nI z16), .ref z17, .int z18, .ref z19]))] ++ va_pl L M_262) H_261 := by rw [eM_262]; exact hP
                                have hD : va_D A ([(za, .inr (13, [.int 0, .ref z1, .int (nI z2), .int (nI z3), .int z4, .int z5, .ref z6, .ref z7, .ref z8, .ref z9, .int (nI z10), .ref z11, .ref z12, .ref z13, .ref z14, .ref z15, .int (nI z16), .ref z17, .int z18, .ref z19]))] ++ va_pl L M_262) := by rw [eM_262]; exact hD
                                have hW : WOM cy K L M_262 := by rw [eM_262]; exact hW.up_46 hc250 ⟨_, rfl, (updP (P := fun z => ∃ c : Nat, c < 1001 ∧ z = nI c) hf251 ⟨0, by omega, rfl⟩)⟩
                                have hF : fr K L [12, 14, 15, 32, 42, 45, 46, 79, 80, 81, 83] M M_262 := by rw [eM_262]; exact hF.up hc250 (by decide)
                                have hG : fG K L [1, 7, 8, 13, 14, 15, 16, 17, 18] M M_262 := by rw [eM_262]; exact hG.arr hc250 (by decide)
                                have hM_263 : M_262 v250 = .inl (cy 14, 120, .inl (upd f251 ((nI v247) : Int32).toNatClampNeg 0)) := by rw [eM_262]; exact va_up_self _ _ _
                                have hM_264 : M_262 v248 = .inl (cy 14, 120, .inl (f_259)) := by rw [eM_262, va_up_ne _ _ (hc248.neT hc250 (by decide))]; exact hM_256
                                have hM_265 : M_262 b13 = .inr (12, fs246) := by rw [eM_262, va_up_ne _ _ (hb_15.neT hc250 (by decide))]; exact hM_257
                                have hf_267 : ∀ j, j < 120 → ∃ c : Nat, c < 1001 ∧ (upd f251 ((nI v247) : Int32).toNatClampNeg 0) j = nI c := (updP (P := fun z => ∃ c : Nat, c < 1001 ∧ z = nI c) hf251 ⟨0, by omega, rfl⟩)
                                obtain ⟨f_266, ef_266⟩ : ∃ f : Nat → Int32, f = upd f251 ((nI v247) : Int32).toNatClampNeg 0 := ⟨_, rfl⟩
                                rw [← ef_266] at hM_263 hf_267
                                refine lv_aload_n hx hb dX13_close_207 rfl (lv_at hl 4 rfl) ?_
                                refine lv_dup hx hb dX13_close_208 rfl ?_
                                refine pg_getN (D := D) (ci := 12) (v := .int (nI v247)) (C := RX12) (T := TX12) (N := 51) hx hb hg inG12 hown hK hP hb_15.1 hM_265 rfl 17 (by decide) (hN.use (Cond.fieldLinkNest RX13 256 RX12 "stretches" "I" RX13) 26 rfl rfl) (fun _ h9 => h9) hv247 dX13_close_209 ?_
                                refine lv_iconst (v := 1) hx hb dX13_close_212 (by decide) ?_
                                refine lv_iadd hx hb dX13_close_213 ?_
                                refine lv_topi (fun f_268 ef_268 => ?_)
                                obtain rfl : f_268 = (nI (v247 + 1)) := ef_268.trans (nI_add v247 1)
                                refine pg_putN (D := D) (ci := 12) (v := .int (nI (v247 + 1))) (ty := .int) (C := RX12) (T := TX12) (N := 51) hx hb hg inG12 tyX12 tyX12_ok nmX12 hown hK hP hD hS hb_15.1 hM_265 rfl 17 (by decide) (hN.use (Cond.fieldLinkNest RX13 256 RX12 "stretches" "I" RX13) 26 rfl rfl) (fun _ h9 => h9) rfl (by decide +kernel) rfl rfl (by rw [hn246]; decide) dX13_close_214 (fun H_269 locs hP hD hS => ?_)
                                have hs_272 : (fs246.set 17 (.int (nI (v247 + 1))))[17]? = some (.int (nI (v247 + 1))) := List.getElem?_set_self (by rw [hn246]; decide)
                                have hk_271 := fld12_set (k := 17) (w := .int (nI (v247 + 1))) hl246 (show fld12 K L 17 (fs246.set 17 (.int (nI (v247 + 1)))) from ⟨(v247 + 1), hs_272, by omega⟩)
                                have hn_273 : (fs246.set 17 (.int (nI (v247 + 1)))).length = 51 := by rw [List.length_set]; exact hn246
                                have hv_274 : (fs246.set 17 (.int (nI (v247 + 1))))[44]? = some (.ref v248) := by rw [List.getElem?_set_ne (by decide)]; exact hv248
                                have hv_275 : (fs246.set 17 (.int (nI (v247 + 1))))[45]? = some (.ref v250) := by rw [List.getElem?_set_ne (by decide)]; exact hv250
                                have hb_276 : (v247 + 1) ≤ 120 := by omega
                                obtain ⟨M_277, eM_277⟩ : ∃ M1 : Hp, M1 = va_up M_262 b13 (.inr (12, fs246.set 17 (.int (nI (v247 + 1))))) := ⟨_, rfl⟩
                                have hx17 : ((gnw89 : Nat) : Int) = ((v247 : Nat) : Int) := (congrFun hV.2.1 17).symm.trans ((fx_of hM_265 rfl hv247).trans (nI_toInt (by omega)))
                                have hV : VW K L M M_277 b13 (va_up (va_up (fx M b13) 17 ((gnw89 : Nat) : Int)) 17 (((v247 + 1) : Nat) : Int)) (va_up (va_up (va_up (va_up (ax M b13) 44 gpw89) 45 gqw89) 44 (upd gpw89 ((nI v247) : Int32).toNatClampNeg (nI v6w89))) 45 (upd gqw89 ((nI v247) : Int32).toNatClampNeg 0)) := by rw [eM_277]; exact hV.put hW hb_15 hM_265 hn246 rfl (by decide) rfl (nI_toInt (by omega))
                                have hP : va_P D vwCl ([(za, .inr (13, [.int 0, .ref z1, .int (nI z2), .int (nI z3), .int z4, .int z5, .ref z6, .ref z7, .ref z8, .ref z9, .int (nI z10), .ref z11, .ref z12, .ref z13, .ref z14, .ref z15, .int (nI z16), .ref z17, .int z18, .ref z19]))] ++ va_pl L M_277) H_269 := by rw [eM_277]; exact hP
                                have hD : va_D A ([(za, .inr (13, [.int 0, .ref z1, .int (nI z2), .int (nI z3), .int z4, .int z5, .ref z6, .ref z7, .ref z8, .ref z9, .int (nI z10), .ref z11, .ref z12, .ref z13, .ref z14, .ref z15, .int (nI z16), .ref z17, .int z18, .ref z19]))] ++ va_pl L M_277) := by rw [eM_277]; exact hD
                                have hW : WOM cy K L M_277 := by rw [eM_277]; exact hW.up_12 hb_15 ⟨_, rfl, hn_273, hk_271⟩
                                have hF : fr K L [12, 14, 15, 32, 42, 45, 46, 79, 80, 81, 83] M M_277 := by rw [eM_277]; exact hF.up hb_15 (by decide)
                                have hG : fG K L [1, 7, 8, 13, 14, 15, 16, 17, 18] M M_277 := by rw [eM_277]; exact hG.up hM_265 (by decide)
                                have hM_278 : M_277 b13 = .inr (12, fs246.set 17 (.int (nI (v247 + 1)))) := by rw [eM_277]; exact va_up_self _ _ _
                                have hM_279 : M_277 v250 = .inl (cy 14, 120, .inl (f_266)) := by rw [eM_277, va_up_ne _ _ (hc250.neT hb_15 (by decide))]; exact hM_263
                                have hM_280 : M_277 v248 = .inl (cy 14, 120, .inl (f_259)) := by rw [eM_277, va_up_ne _ _ (hc248.neT hb_15 (by decide))]; exact hM_264
                                refine lv_aload_n hx hb dX13_close_217 rfl (lv_at hl 4 rfl) ?_
                                refine pg_getN (D := D) (ci := 12) (v := .ref v250) (C := RX12) (T := TX12) (N := 51) hx hb hg inG12 hown hK hP hb_15.1 hM_278 rfl 45 (by decide) (hN.use (Cond.fieldLinkNest RX13 268 RX12 "stretchDays" "[I" RX13) 54 rfl rfl) (fun _ h9 => h9) hv_275 dX13_close_218 ?_
                                refine lv_aload_n hx hb dX13_close_221 rfl (lv_at hl 4 rfl) ?_
                                refine pg_getN (D := D) (ci := 12) (v := .int (nI (v247 + 1))) (C := RX12) (T := TX12) (N := 51) hx hb hg inG12 hown hK hP hb_15.1 hM_278 rfl 17 (by decide) (hN.use (Cond.fieldLinkNest RX13 256 RX12 "stretches" "I" RX13) 26 rfl rfl) (fun _ h9 => h9) hs_272 dX13_close_222 ?_
                                refine lv_iconst (v := 1) hx hb dX13_close_225 (by decide) ?_
                                refine lv_isub hx hb dX13_close_226 ?_
                                refine lv_topi (fun f_281 ef_281 => ?_)
                                obtain rfl : f_281 = (nI ((v247 + 1) - 1)) := ef_281.trans (nI_prd (by omega))
                                refine lv_dup2_11 hx hb dX13_close_227 rfl rfl ?_
                                have hi_282 : vp_in (nI ((v247 + 1) - 1)) 120 := (inbN ((v247 + 1) - 1) 120 (by omega) (by omega))
                                refine pg_iald hx hb hK hP hc250.1 0 hM_279 rfl hi_282 dX13_close_228 ?_
                                have hp_283 := hf_267 _ (vp_lt hi_282)
                                obtain ⟨c_284, hc_285, ec_286⟩ := hp_283
                                rw [ec_286]
                                have hy45 : (upd gqw89 ((nI v247) : Int32).toNatClampNeg 0) = f_266 := (congrFun hV.2.2.1 45).symm.trans (ax_of hM_278 (by decide) hv_275 hM_279)
                                have hec : (upd gqw89 ((nI v247) : Int32).toNatClampNeg 0) ((nI ((v247 + 1) - 1)) : Int32).toNatClampNeg = nI c_284 := by rw [hy45]; exact ec_286
                                have hcc : c_284 = 0 := updz (n := v247) (nI_cl (by omega)) ((nI_cl (by omega)).trans (by omega)) hec (by omega)
                                refine lv_iconst (v := 1) hx hb dX13_close_229 (by decide) ?_
                                refine lv_iadd hx hb dX13_close_230 ?_
                                refine lv_topi (fun f_287 ef_287 => ?_)
                                obtain rfl : f_287 = (nI (c_284 + 1)) := ef_287.trans (nI_add c_284 1)
                                refine pg_iast hx hb hK hP hD hS hc250.1 0 hM_279 rfl (inbN ((v247 + 1) - 1) 120 (by omega) (by omega)) dX13_close_231 (fun H_288 locs hP hD hS => ?_)
                                obtain ⟨M_289, eM_289⟩ : ∃ M1 : Hp, M1 = va_up M_277 v250 (.inl (cy 14, 120, .inl (upd f_266 ((nI ((v247 + 1) - 1)) : Int32).toNatClampNeg (nI (c_284 + 1))))) := ⟨_, rfl⟩
                                have hy45 : (upd gqw89 ((nI v247) : Int32).toNatClampNeg 0) = f_266 := (congrFun hV.2.2.1 45).symm.trans (ax_of hM_278 (by decide) hv_275 hM_279)
                                have hV : VW K L M M_289 b13 (va_up (va_up (fx M b13) 17 ((gnw89 : Nat) : Int)) 17 (((v247 + 1) : Nat) : Int)) (va_up (va_up (va_up (va_up (va_up (ax M b13) 44 gpw89) 45 gqw89) 44 (upd gpw89 ((nI v247) : Int32).toNatClampNeg (nI v6w89))) 45 (upd gqw89 ((nI v247) : Int32).toNatClampNeg 0)) 45 (upd (upd gqw89 ((nI v247) : Int32).toNatClampNeg 0) ((nI ((v247 + 1) - 1)) : Int32).toNatClampNeg (nI (c_284 + 1)))) := by rw [eM_289]; exact hV.ast (j := 45) hW hb_15 hM_278 (by decide) hv_275 hc250 hM_279
                                have hP : va_P D vwCl ([(za, .inr (13, [.int 0, .ref z1, .int (nI z2), .int (nI z3), .int z4, .int z5, .ref z6, .ref z7, .ref z8, .ref z9, .int (nI z10), .ref z11, .ref z12, .ref z13, .ref z14, .ref z15, .int (nI z16), .ref z17, .int z18, .ref z19]))] ++ va_pl L M_289) H_288 := by rw [eM_289]; exact hP
                                have hD : va_D A ([(za, .inr (13, [.int 0, .ref z1, .int (nI z2), .int (nI z3), .int z4, .int z5, .ref z6, .ref z7, .ref z8, .ref z9, .int (nI z10), .ref z11, .ref z12, .ref z13, .ref z14, .ref z15, .int (nI z16), .ref z17, .int z18, .ref z19]))] ++ va_pl L M_289) := by rw [eM_289]; exact hD
                                have hW : WOM cy K L M_289 := by rw [eM_289]; exact hW.up_46 hc250 ⟨_, rfl, (updP (P := fun z => ∃ c : Nat, c < 1001 ∧ z = nI c) hf_267 ⟨(c_284 + 1), by omega, rfl⟩)⟩
                                have hF : fr K L [12, 14, 15, 32, 42, 45, 46, 79, 80, 81, 83] M M_289 := by rw [eM_289]; exact hF.up hc250 (by decide)
                                have hG : fG K L [1, 7, 8, 13, 14, 15, 16, 17, 18] M M_289 := by rw [eM_289]; exact hG.arr hc250 (by decide)
                                have hM_290 : M_289 v250 = .inl (cy 14, 120, .inl (upd f_266 ((nI ((v247 + 1) - 1)) : Int32).toNatClampNeg (nI (c_284 + 1)))) := by rw [eM_289]; exact va_up_self _ _ _
                                have hM_291 : M_289 b13 = .inr (12, fs246.set 17 (.int (nI (v247 + 1)))) := by rw [eM_289, va_up_ne _ _ (hb_15.neT hc250 (by decide))]; exact hM_278
                                have hM_292 : M_289 v248 = .inl (cy 14, 120, .inl (f_259)) := by rw [eM_289, va_up_ne _ _ (hc248.neT hc250 (by decide))]; exact hM_280
                                have hf_294 : ∀ j, j < 120 → ∃ c : Nat, c < 1001 ∧ (upd f_266 ((nI ((v247 + 1) - 1)) : Int32).toNatClampNeg (nI (c_284 + 1))) j = nI c := (updP (P := fun z => ∃ c : Nat, c < 1001 ∧ z = nI c) hf_267 ⟨(c_284 + 1), by omega, rfl⟩)
                                obtain ⟨f_293, ef_293⟩ : ∃ f : Nat → Int32, f = upd f_266 ((nI ((v247 + 1) - 1)) : Int32).toNatClampNeg (nI (c_284 + 1)) := ⟨_, rfl⟩
                                rw [← ef_293] at hM_290 hf_294
                                refine lv_iinc (v := (nI (v6w89 + 1))) (lv' := [(6, .int (nI (v6w89 + 1))), (5, .int (-1)), (4, .int (nI c_33)), (3, .int 0), (2, .ref b13), (0, .ref za), (1, .int k1)]) hx hb dX13_close_232 hl (k := 0) rfl (nI_1 v6w89) (by decide) rfl (fun ls hl => ?_)
                                refine lv_goto (tgt := 164) hx hb dX13_close_235 (by decide) ?_
                                exact ih_87 (v6w89 + 1) (v247 + 1) (upd gpw89 ((nI v247) : Int32).toNatClampNeg (nI v6w89)) (upd (upd gqw89 ((nI v247) : Int32).toNatClampNeg 0) ((nI ((v247 + 1) - 1)) : Int32).toNatClampNeg (nI (c_284 + 1))) M_289 H_288 _ _ (by omega) (by omega) (by have h := SD.new hSD (by omega) (show (nI v247).toNatClampNeg = gnw89 from (nI_cl (by omega)).trans (by omega)) (show (nI ((v247 + 1) - 1)).toNatClampNeg = gnw89 from (nI_cl (by omega)).trans (by omega)) hcc; rw [← hgn] at h; exact h) hW hF hG (by have h := hV; simp only [va_up_up] at h; rw [va_up_4] at h; exact h) hP hD hS (lv_sub hl [0, 1, 2, 3, 4, 5, 6] rfl)
                              · have hz := rfl (a := 0)
                                have n_295 : ¬ (v6w89 = 0) := fun q => c_252 ((iEQ (a := v6w89) (b := 0) (by omega) (by omega)).mpr q)
                                refine lv_aload_n hx hb dX13_close_177 rfl (lv_at hl 4 rfl) ?_
                                refine lv_iload hx hb dX13_close_178 (lv_at hl 0 rfl) ?_
                                have hPc : va_P D vwCl ([] ++ va_pl L M_92) H_93 := hP.part (cx := []) [] rfl
                                have hDc : va_D A ([] ++ va_pl L M_92) := hD.part (cx := []) [] (by decide) rfl
                                have hFc : ∀ q, va_A ([] ++ va_pl L M_92) H_93.size q → A q := pg_free hDc hS hA
                                refine va_calli (va_runS (As := [.ref b13, .int (nI v6w89)]) (rest := []) ⟨hx, hb, hml, hown, hg⟩ (r_X13_isParted l D cy K L M_92 H_93.size b13 (nI v6w89)  hW hb_15) (va_cwS 2 hg (gS wd_879 wd_880 wd_717 wd_881) rfl rfl rfl (by decide +kernel) ⟨(Nat.le_trans (Nat.le_of_ble_eq_true rfl) hRf), (Nat.le_trans (Nat.le_of_ble_eq_true rfl) hRl)⟩) ⟨PG.blind, fun U hU hW => ⟨rfl, PG.at hPc hK hDc hN hU hW⟩⟩ rfl rfl hl.1 rfl (lv_room (Nat.le_of_ble_eq_true rfl)) dX13_close_180 ⟨(Nat.le_trans (Nat.le_of_ble_eq_true rfl) hRc), (Nat.le_trans (Nat.le_of_ble_eq_true rfl) hRs)⟩) hS (fun q _ h => hFc q h) hFc (fun r_297 M_298 t H_296 locs ht hvm hw hB hz1 hk1 hS => ?_)
                                have hp_299 := hw
                                obtain ⟨hP1, hD1⟩ := hB
                                rw [ht] at hP1
                                obtain ⟨hP, hD⟩ := va_joinP (X := [(za, .inr (13, [.int 0, .ref z1, .int (nI z2), .int (nI z3), .int z4, .int z5, .ref z6, .ref z7, .ref z8, .ref z9, .int (nI z10), .ref z11, .ref z12, .ref z13, .ref z14, .ref z15, .int (nI z16), .ref z17, .int z18, .ref z19]))]) (cx := []) (wr := [(za, .inr (13, [.int 0, .ref z1, .int (nI z2), .int (nI z3), .int z4, .int z5, .ref z6, .ref z7, .ref z8, .ref z9, .int (nI z10), .ref z11, .ref z12, .ref z13, .ref z14, .ref z15, .int (nI z16), .ref z17, .int z18, .ref z19]))]) (rx := []) (pl := va_pl L M_92) (pl1 := va_pl L M_92) hP hD [] [0] rfl rfl (by decide) (by decide) hk1 hFc hP1 hD1
                                have hP : va_P D vwCl ([(za, .inr (13, [.int 0, .ref z1, .int (nI z2), .int (nI z3), .int z4, .int z5, .ref z6, .ref z7, .ref z8, .ref z9, .int (nI z10), .ref z11, .ref z12, .ref z13, .ref z14, .ref z15, .int (nI z16), .ref z17, .int z18, .ref z19]))] ++ va_pl L M_92) H_296 := hP
                                have hD : va_D A ([(za, .inr (13, [.int 0, .ref z1, .int (nI z2), .int (nI z3), .int z4, .int z5, .ref z6, .ref z7, .ref z8, .ref z9, .int (nI z10), .ref z11, .ref z12, .ref z13, .ref z14, .ref z15, .int (nI z16), .ref z17, .int z18, .ref z19]))] ++ va_pl L M_92) := hD
                                rcases hp_299 with rfl | rfl
                                · have hz := rfl (a := 0)
                                  refine lv_if_eq (tgt := 217) hx hb dX13_close_183 (by decide) (fun c_300 => absurd c_300 (by decide)) (fun _ => ?_)
                                  refine lv_aload_n hx hb dX13_close_186 rfl (lv_at hl 4 rfl) ?_
                                  refine pg_getN (D := D) (ci := 12) (v := .ref v248) (C := RX12) (T := TX12) (N := 51) hx hb hg inG12 hown hK hP hb_15.1 hM246 rfl 44 (by decide) (hN.use (Cond.fieldLinkNest RX13 265 RX12 "stretchDay" "[I" RX13) 53 rfl rfl) (fun _ h9 => h9) hv248 dX13_close_187 ?_
                                  refine lv_aload_n hx hb dX13_close_190 rfl (lv_at hl 4 rfl) ?_
                                  refine pg_getN (D := D) (ci := 12) (v := .int (nI v247)) (C := RX12) (T := TX12) (N := 51) hx hb hg inG12 hown hK hP hb_15.1 hM246 rfl 17 (by decide) (hN.use (Cond.fieldLinkNest RX13 256 RX12 "stretches" "I" RX13) 26 rfl rfl) (fun _ h9 => h9) hv247 dX13_close_191 ?_
                                  refine lv_iload hx hb dX13_close_194 (lv_at hl 0 rfl) ?_
                                  refine pg_iast hx hb hK hP hD hS hc248.1 0 hM249 rfl (inbN v247 120 (by omega) (by omega)) dX13_close_196 (fun H_301 locs hP hD hS => ?_)
                                  obtain ⟨M_302, eM_302⟩ : ∃ M1 : Hp, M1 = va_up M_92 v248 (.inl (cy 14, 120, .inl (upd f249 ((nI v247) : Int32).toNatClampNeg (nI v6w89)))) := ⟨_, rfl⟩
                                  have hy44 : gpw89 = f249 := (congrFun hV.2.2.1 44).symm.trans (ax_of hM246 (by decide) hv248 hM249)
                                  have hV : VW K L M M_302 b13 (va_up (fx M b13) 17 ((gnw89 : Nat) : Int)) (va_up (va_up (va_up (ax M b13) 44 gpw89) 45 gqw89) 44 (upd gpw89 ((nI v247) : Int32).toNatClampNeg (nI v6w89))) := by rw [eM_302]; exact hV.ast (j := 44) hW hb_15 hM246 (by decide) hv248 hc248 hM249
                                  have hP : va_P D vwCl ([(za, .inr (13, [.int 0, .ref z1, .int (nI z2), .int (nI z3), .int z4, .int z5, .ref z6, .ref z7, .ref z8, .ref z9, .int (nI z10), .ref z11, .ref z12, .ref z13, .ref z14, .ref z15, .int (nI z16), .ref z17, .int z18, .ref z19]))] ++ va_pl L M_302) H_301 := by rw [eM_302]; exact hP
                                  have hD : va_D A ([(za, .inr (13, [.int 0, .ref z1, .int (nI z2), .int (nI z3), .int z4, .int z5, .ref z6, .ref z7, .ref z8, .ref z9, .int (nI z10), .ref z11, .ref z12, .ref z13, .ref z14, .ref z15, .int (nI z16), .ref z17, .int z18, .ref z19]))] ++ va_pl L M_302) := by rw [eM_302]; exact hD
                                  have hW : WOM cy K L M_302 := by rw [eM_302]; exact hW.up_45 hc248 ⟨_, rfl, (updP (P := fun z => ∃ c : Nat, c < 1000 ∧ z = nI c) hf249 ⟨v6w89, by omega, rfl⟩)⟩
                                  have hF : fr K L [12, 14, 15, 32, 42, 45, 46, 79, 80, 81, 83] M M_302 := by rw [eM_302]; exact hF.up hc248 (by decide)
                                  have hG : fG K L [1, 7, 8, 13, 14, 15, 16, 17, 18] M M_302 := by rw [eM_302]; exact hG.arr hc248 (by decide)
                                  have hM_303 : M_302 v248 = .inl (cy 14, 120, .inl (upd f249 ((nI v247) : Int32).toNatClampNeg (nI v6w89))) := by rw [eM_302]; exact va_up_self _ _ _
                                  have hM_304 : M_302 b13 = .inr (12, fs246) := by rw [eM_302, va_up_ne _ _ (hb_15.neT hc248 (by decide))]; exact hM246
                                  have hM_305 : M_302 v250 = .inl (cy 14, 120, .inl (f251)) := by rw [eM_302, va_up_ne _ _ (hc250.neT hc248 (by decide))]; exact hM251
                                  have hf_307 : ∀ j, j < 120 → ∃ c : Nat, c < 1000 ∧ (upd f249 ((nI v247) : Int32).toNatClampNeg (nI v6w89)) j = nI c := (updP (P := fun z => ∃ c : Nat, c < 1000 ∧ z = nI c) hf249 ⟨v6w89, by omega, rfl⟩)
                                  obtain ⟨f_306, ef_306⟩ : ∃ f : Nat → Int32, f = upd f249 ((nI v247) : Int32).toNatClampNeg (nI v6w89) := ⟨_, rfl⟩
                                  rw [← ef_306] at hM_303 hf_307
                                  refine lv_aload_n hx hb dX13_close_197 rfl (lv_at hl 4 rfl) ?_
                                  refine pg_getN (D := D) (ci := 12) (v := .ref v250) (C := RX12) (T := TX12) (N := 51) hx hb hg inG12 hown hK hP hb_15.1 hM_304 rfl 45 (by decide) (hN.use (Cond.fieldLinkNest RX13 268 RX12 "stretchDays" "[I" RX13) 54 rfl rfl) (fun _ h9 => h9) hv250 dX13_close_198 ?_
                                  refine lv_aload_n hx hb dX13_close_201 rfl (lv_at hl 4 rfl) ?_
                                  refine pg_getN (D := D) (ci := 12) (v := .int (nI v247)) (C := RX12) (T := TX12) (N := 51) hx hb hg inG12 hown hK hP hb_15.1 hM_304 rfl 17 (by decide) (hN.use (Cond.fieldLinkNest RX13 256 RX12 "stretches" "I" RX13) 26 rfl rfl) (fun _ h9 => h9) hv247 dX13_close_202 ?_
                                  refine lv_iconst (v := 0) hx hb dX13_close_205 (by decide) ?_
                                  refine pg_iast hx hb hK hP hD hS hc250.1 0 hM_305 rfl (inbN v247 120 (by omega) (by omega)) dX13_close_206 (fun H_308 locs hP hD hS => ?_)
                                  obtain ⟨M_309, eM_309⟩ : ∃ M1 : Hp, M1 = va_up M_302 v250 (.inl (cy 14, 120, .inl (upd f251 ((nI v247) : Int32).toNatClampNeg 0))) := ⟨_, rfl⟩
                                  have hy45 : gqw89 = f251 := (congrFun hV.2.2.1 45).symm.trans (ax_of hM_304 (by decide) hv250 hM_305)
                                  have hV : VW K L M M_309 b13 (va_up (fx M b13) 17 ((gnw89 : Nat) : Int)) (va_up (va_up (va_up (va_up (ax M b13) 44 gpw89) 45 gqw89) 44 (upd gpw89 ((nI v247) : Int32).toNatClampNeg (nI v6w89))) 45 (upd gqw89 ((nI v247) : Int32).toNatClampNeg 0)) := by rw [eM_309]; exact hV.ast (j := 45) hW hb_15 hM_304 (by decide) hv250 hc250 hM_305
                                  have hP : va_P D vwCl ([(za, .inr (13, [.int 0, .ref z1, .int (nI z2), .int (nI z3), .int z4, .int z5, .ref z6, .ref z7, .ref z8, .ref z9, .int (nI z10), .ref z11, .ref z12, .ref z13, .ref z14, .ref z15, .int (nI z16), .ref z17, .int z18, .ref z19]))] ++ va_pl L M_309) H_308 := by rw [eM_309]; exact hP
                                  have hD : va_D A ([(za, .inr (13, [.int 0, .ref z1, .int (nI z2), .int (nI z3), .int z4, .int z5, .ref z6, .ref z7, .ref z8, .ref z9, .int (nI z10), .ref z11, .ref z12, .ref z13, .ref z14, .ref z15, .int (nI z16), .ref z17, .int z18, .ref z19]))] ++ va_pl L M_309) := by rw [eM_309]; exact hD
                                  have hW : WOM cy K L M_309 := by rw [eM_309]; exact hW.up_46 hc250 ⟨_, rfl, (updP (P := fun z => ∃ c : Nat, c < 1001 ∧ z = nI c) hf251 ⟨0, by omega, rfl⟩)⟩
                                  have hF : fr K L [12, 14, 15, 32, 42, 45, 46, 79, 80, 81, 83] M M_309 := by rw [eM_309]; exact hF.up hc250 (by decide)
                                  have hG : fG K L [1, 7, 8, 13, 14, 15, 16, 17, 18] M M_309 := by rw [eM_309]; exact hG.arr hc250 (by decide)
                                  have hM_310 : M_309 v250 = .inl (cy 14, 120, .inl (upd f251 ((nI v247) : Int32).toNatClampNeg 0)) := by rw [eM_309]; exact va_up_self _ _ _
                                  have hM_311 : M_309 v248 = .inl (cy 14, 120, .inl (f_306)) := by rw [eM_309, va_up_ne _ _ (hc248.neT hc250 (by decide))]; exact hM_303
                                  have hM_312 : M_309 b13 = .inr (12, fs246) := by rw [eM_309, va_up_ne _ _ (hb_15.neT hc250 (by decide))]; exact hM_304
                                  have hf_314 : ∀ j, j < 120 → ∃ c : Nat, c < 1001 ∧ (upd f251 ((nI v247) : Int32).toNatClampNeg 0) j = nI c := (updP (P := fun z => ∃ c : Nat, c < 1001 ∧ z = nI c) hf251 ⟨0, by omega, rfl⟩)
                                  obtain ⟨f_313, ef_313⟩ : ∃ f : Nat → Int32, f = upd f251 ((nI v247) : Int32).toNatClampNeg 0 := ⟨_, rfl⟩
                                  rw [← ef_313] at hM_310 hf_314
                                  refine lv_aload_n hx hb dX13_close_207 rfl (lv_at hl 4 rfl) ?_
                                  refine lv_dup hx hb dX13_close_208 rfl ?_
                                  refine pg_getN (D := D) (ci := 12) (v := .int (nI v247)) (C := RX12) (T := TX12) (N := 51) hx hb hg inG12 hown hK hP hb_15.1 hM_312 rfl 17 (by decide) (hN.use (Cond.fieldLinkNest RX13 256 RX12 "stretches" "I" RX13) 26 rfl rfl) (fun _ h9 => h9) hv247 dX13_close_209 ?_
                                  refine lv_iconst (v := 1) hx hb dX13_close_212 (by decide) ?_
                                  refine lv_iadd hx hb dX13_close_213 ?_
                                  refine lv_topi (fun f_315 ef_315 => ?_)
                                  obtain rfl : f_315 = (nI (v247 + 1)) := ef_315.trans (nI_add v247 1)
                                  refine pg_putN (D := D) (ci := 12) (v := .int (nI (v247 + 1))) (ty := .int) (C := RX12) (T := TX12) (N := 51) hx hb hg inG12 tyX12 tyX12_ok nmX12 hown hK hP hD hS hb_15.1 hM_312 rfl 17 (by decide) (hN.use (Cond.fieldLinkNest RX13 256 RX12 "stretches" "I" RX13) 26 rfl rfl) (fun _ h9 => h9) rfl (by decide +kernel) rfl rfl (by rw [hn246]; decide) dX13_close_214 (fun H_316 locs hP hD hS => ?_)
                                  have hs_319 : (fs246.set 17 (.int (nI (v247 + 1))))[17]? = some (.int (nI (v247 + 1))) := List.getElem?_set_self (by rw [hn246]; decide)
                                  have hk_318 := fld12_set (k := 17) (w := .int (nI (v247 + 1))) hl246 (show fld12 K L 17 (fs246.set 17 (.int (nI (v247 + 1)))) from ⟨(v247 + 1), hs_319, by omega⟩)
                                  have hn_320 : (fs246.set 17 (.int (nI (v247 + 1)))).length = 51 := by rw [List.length_set]; exact hn246
                                  have hv_321 : (fs246.set 17 (.int (nI (v247 + 1))))[44]? = some (.ref v248) := by rw [List.getElem?_set_ne (by decide)]; exact hv248
                                  have hv_322 : (fs246.set 17 (.int (nI (v247 + 1))))[45]? = some (.ref v250) := by rw [List.getElem?_set_ne (by decide)]; exact hv250
                                  have hb_323 : (v247 + 1) ≤ 120 := by omega
                                  obtain ⟨M_324, eM_324⟩ : ∃ M1 : Hp, M1 = va_up M_309 b13 (.inr (12, fs246.set 17 (.int (nI (v247 + 1))))) := ⟨_, rfl⟩
                                  have hx17 : ((gnw89 : Nat) : Int) = ((v247 : Nat) : Int) := (congrFun hV.2.1 17).symm.trans ((fx_of hM_312 rfl hv247).trans (nI_toInt (by omega)))
                                  have hV : VW K L M M_324 b13 (va_up (va_up (fx M b13) 17 ((gnw89 : Nat) : Int)) 17 (((v247 + 1) : Nat) : Int)) (va_up (va_up (va_up (va_up (ax M b13) 44 gpw89) 45 gqw89) 44 (upd gpw89 ((nI v247) : Int32).toNatClampNeg (nI v6w89))) 45 (upd gqw89 ((nI v247) : Int32).toNatClampNeg 0)) := by rw [eM_324]; exact hV.put hW hb_15 hM_312 hn246 rfl (by decide) rfl (nI_toInt (by omega))
                                  have hP : va_P D vwCl ([(za, .inr (13, [.int 0, .ref z1, .int (nI z2), .int (nI z3), .int z4, .int z5, .ref z6, .ref z7, .ref z8, .ref z9, .int (nI z10), .ref z11, .ref z12, .ref z13, .ref z14, .ref z15, .int (nI z16), .ref z17, .int z18, .ref z19]))] ++ va_pl L M_324) H_316 := by rw [eM_324]; exact hP
                                  have hD : va_D A ([(za, .inr (13, [.int 0, .ref z1, .int (nI z2), .int (nI z3), .int z4, .int z5, .ref z6, .ref z7, .ref z8, .ref z9, .int (nI z10), .ref z11, .ref z12, .ref z13, .ref z14, .ref z15, .int (nI z16), .ref z17, .int z18, .ref z19]))] ++ va_pl L M_324) := by rw [eM_324]; exact hD
                                  have hW : WOM cy K L M_324 := by rw [eM_324]; exact hW.up_12 hb_15 ⟨_, rfl, hn_320, hk_318⟩
                                  have hF : fr K L [12, 14, 15, 32, 42, 45, 46, 79, 80, 81, 83] M M_324 := by rw [eM_324]; exact hF.up hb_15 (by decide)
                                  have hG : fG K L [1, 7, 8, 13, 14, 15, 16, 17, 18] M M_324 := by rw [eM_324]; exact hG.up hM_312 (by decide)
                                  have hM_325 : M_324 b13 = .inr (12, fs246.set 17 (.int (nI (v247 + 1)))) := by rw [eM_324]; exact va_up_self _ _ _
                                  have hM_326 : M_324 v250 = .inl (cy 14, 120, .inl (f_313)) := by rw [eM_324, va_up_ne _ _ (hc250.neT hb_15 (by decide))]; exact hM_310
                                  have hM_327 : M_324 v248 = .inl (cy 14, 120, .inl (f_306)) := by rw [eM_324, va_up_ne _ _ (hc248.neT hb_15 (by decide))]; exact hM_311
                                  refine lv_aload_n hx hb dX13_close_217 rfl (lv_at hl 4 rfl) ?_
                                  refine pg_getN (D := D) (ci := 12) (v := .ref v250) (C := RX12) (T := TX12) (N := 51) hx hb hg inG12 hown hK hP hb_15.1 hM_325 rfl 45 (by decide) (hN.use (Cond.fieldLinkNest RX13 268 RX12 "stretchDays" "[I" RX13) 54 rfl rfl) (fun _ h9 => h9) hv_322 dX13_close_218 ?_
                                  refine lv_aload_n hx hb dX13_close_221 rfl (lv_at hl 4 rfl) ?_
                                  refine pg_getN (D := D) (ci := 12) (v := .int (nI (v247 + 1))) (C := RX12) (T := TX12) (N := 51) hx hb hg inG12 hown hK hP hb_15.1 hM_325 rfl 17 (by decide) (hN.use (Cond.fieldLinkNest RX13 256 RX12 "stretches" "I" RX13) 26 rfl rfl) (fun _ h9 => h9) hs_319 dX13_close_222 ?_
                                  refine lv_iconst (v := 1) hx hb dX13_close_225 (by decide) ?_
                                  refine lv_isub hx hb dX13_close_226 ?_
                                  refine lv_topi (fun f_328 ef_328 => ?_)
                                  obtain rfl : f_328 = (nI ((v247 + 1) - 1)) := ef_328.trans (nI_prd (by omega))
                                  refine lv_dup2_11 hx hb dX13_close_227 rfl rfl ?_
                                  have hi_329 : vp_in (nI ((v247 + 1) - 1)) 120 := (inbN ((v247 + 1) - 1) 120 (by omega) (by omega))
                                  refine pg_iald hx hb hK hP hc250.1 0 hM_326 rfl hi_329 dX13_close_228 ?_
                                  have hp_330 := hf_314 _ (vp_lt hi_329)
                                  obtain ⟨c_331, hc_332, ec_333⟩ := hp_330
                                  rw [ec_333]
                                  have hy45 : (upd gqw89 ((nI v247) : Int32).toNatClampNeg 0) = f_313 := (congrFun hV.2.2.1 45).symm.trans (ax_of hM_325 (by decide) hv_322 hM_326)
                                  have hec : (upd gqw89 ((nI v247) : Int32).toNatClampNeg 0) ((nI ((v247 + 1) - 1)) : Int32).toNatClampNeg = nI c_331 := by rw [hy45]; exact ec_333
                                  have hcc : c_331 = 0 := updz (n := v247) (nI_cl (by omega)) ((nI_cl (by omega)).trans (by omega)) hec (by omega)
                                  refine lv_iconst (v := 1) hx hb dX13_close_229 (by decide) ?_
                                  refine lv_iadd hx hb dX13_close_230 ?_
                                  refine lv_topi (fun f_334 ef_334 => ?_)
                                  obtain rfl : f_334 = (nI (c_331 + 1)) := ef_334.trans (nI_add c_331 1)
                                  refine pg_iast hx hb hK hP hD hS hc250.1 0 hM_326 rfl (inbN ((v247 + 1) - 1) 120 (by omega) (by omega)) dX13_close_231 (fun H_335 locs hP hD hS => ?_)
                                  obtain ⟨M_336, eM_336⟩ : ∃ M1 : Hp, M1 = va_up M_324 v250 (.inl (cy 14, 120, .inl (upd f_313 ((nI ((v247 + 1) - 1)) : Int32).toNatClampNeg (nI (c_331 + 1))))) := ⟨_, rfl⟩
                                  have hy45 : (upd gqw89 ((nI v247) : Int32).toNatClampNeg 0) = f_313 := (congrFun hV.2.2.1 45).symm.trans (ax_of hM_325 (by decide) hv_322 hM_326)
                                  have hV : VW K L M M_336 b13 (va_up (va_up (fx M b13) 17 ((gnw89 : Nat) : Int)) 17 (((v247 + 1) : Nat) : Int)) (va_up (va_up (va_up (va_up (va_up (ax M b13) 44 gpw89) 45 gqw89) 44 (upd gpw89 ((nI v247) : Int32).toNatClampNeg (nI v6w89))) 45 (upd gqw89 ((nI v247) : Int32).toNatClampNeg 0)) 45 (upd (upd gqw89 ((nI v247) : Int32).toNatClampNeg 0) ((nI ((v247 + 1) - 1)) : Int32).toNatClampNeg (nI (c_331 + 1)))) := by rw [eM_336]; exact hV.ast (j := 45) hW hb_15 hM_325 (by decide) hv_322 hc250 hM_326
                                  have hP : va_P D vwCl ([(za, .inr (13, [.int 0, .ref z1, .int (nI z2), .int (nI z3), .int z4, .int z5, .ref z6, .ref z7, .ref z8, .ref z9, .int (nI z10), .ref z11, .ref z12, .ref z13, .ref z14, .ref z15, .int (nI z16), .ref z17, .int z18, .ref z19]))] ++ va_pl L M_336) H_335 := by rw [eM_336]; exact hP
                                  have hD : va_D A ([(za, .inr (13, [.int 0, .ref z1, .int (nI z2), .int (nI z3), .int z4, .int z5, .ref z6, .ref z7, .ref z8, .ref z9, .int (nI z10), .ref z11, .ref z12, .ref z13, .ref z14, .ref z15, .int (nI z16), .ref z17, .int z18, .ref z19]))] ++ va_pl L M_336) := by rw [eM_336]; exact hD
                                  have hW : WOM cy K L M_336 := by rw [eM_336]; exact hW.up_46 hc250 ⟨_, rfl, (updP (P := fun z => ∃ c : Nat, c < 1001 ∧ z = nI c) hf_314 ⟨(c_331 + 1), by omega, rfl⟩)⟩
                                  have hF : fr K L [12, 14, 15, 32, 42, 45, 46, 79, 80, 81, 83] M M_336 := by rw [eM_336]; exact hF.up hc250 (by decide)
                                  have hG : fG K L [1, 7, 8, 13, 14, 15, 16, 17, 18] M M_336 := by rw [eM_336]; exact hG.arr hc250 (by decide)
                                  have hM_337 : M_336 v250 = .inl (cy 14, 120, .inl (upd f_313 ((nI ((v247 + 1) - 1)) : Int32).toNatClampNeg (nI (c_331 + 1)))) := by rw [eM_336]; exact va_up_self _ _ _
                                  have hM_338 : M_336 b13 = .inr (12, fs246.set 17 (.int (nI (v247 + 1)))) := by rw [eM_336, va_up_ne _ _ (hb_15.neT hc250 (by decide))]; exact hM_325
                                  have hM_339 : M_336 v248 = .inl (cy 14, 120, .inl (f_306)) := by rw [eM_336, va_up_ne _ _ (hc248.neT hc250 (by decide))]; exact hM_327
                                  have hf_341 : ∀ j, j < 120 → ∃ c : Nat, c < 1001 ∧ (upd f_313 ((nI ((v247 + 1) - 1)) : Int32).toNatClampNeg (nI (c_331 + 1))) j = nI c := (updP (P := fun z => ∃ c : Nat, c < 1001 ∧ z = nI c) hf_314 ⟨(c_331 + 1), by omega, rfl⟩)
                                  obtain ⟨f_340, ef_340⟩ : ∃ f : Nat → Int32, f = upd f_313 ((nI ((v247 + 1) - 1)) : Int32).toNatClampNeg (nI (c_331 + 1)) := ⟨_, rfl⟩
                                  rw [← ef_340] at hM_337 hf_341
                                  refine lv_iinc (v := (nI (v6w89 + 1))) (lv' := [(6, .int (nI (v6w89 + 1))), (5, .int (-1)), (4, .int (nI c_33)), (3, .int 0), (2, .ref b13), (0, .ref za), (1, .int k1)]) hx hb dX13_close_232 hl (k := 0) rfl (nI_1 v6w89) (by decide) rfl (fun ls hl => ?_)
                                  refine lv_goto (tgt := 164) hx hb dX13_close_235 (by decide) ?_
                                  exact ih_87 (v6w89 + 1) (v247 + 1) (upd gpw89 ((nI v247) : Int32).toNatClampNeg (nI v6w89)) (upd (upd gqw89 ((nI v247) : Int32).toNatClampNeg 0) ((nI ((v247 + 1) - 1)) : Int32).toNatClampNeg (nI (c_331 + 1))) M_336 H_335 _ _ (by omega) (by omega) (by have h := SD.new hSD (by omega) (show (nI v247).toNatClampNeg = gnw89 from (nI_cl (by omega)).trans (by omega)) (show (nI ((v247 + 1) - 1)).toNatClampNeg = gnw89 from (nI_cl (by omega)).trans (by omega)) hcc; rw [← hgn] at h; exact h) hW hF hG (by have h := hV; simp only [va_up_up] at h; rw [va_up_4] at h; exact h) hP hD hS (lv_sub hl [0, 1, 2, 3, 4, 5, 6] rfl)
                                · have hz := rfl (a := 0)
                                  refine lv_if_eq (tgt := 217) hx hb dX13_close_183 (by decide) (fun _ => ?_) (fun c_342 => absurd c_342 (by decide))
                                  refine lv_aload_n hx hb dX13_close_217 rfl (lv_at hl 4 rfl) ?_
                                  refine pg_getN (D := D) (ci := 12) (v := .ref v250) (C := RX12) (T := TX12) (N := 51) hx hb hg inG12 hown hK hP hb_15.1 hM246 rfl 45 (by decide) (hN.use (Cond.fieldLinkNest RX13 268 RX12 "stretchDays" "[I" RX13) 54 rfl rfl) (fun _ h9 => h9) hv250 dX13_close_218 ?_
                                  refine lv_aload_n hx hb dX13_close_221 rfl (lv_at hl 4 rfl) ?_
                                  refine pg_getN (D := D) (ci := 12) (v := .int (nI v247)) (C := RX12) (T := TX12) (N := 51) hx hb hg inG12 hown hK hP hb_15.1 hM246 rfl 17 (by decide) (hN.use (Cond.fieldLinkNest RX13 256 RX12 "stretches" "I" RX13) 26 rfl rfl) (fun _ h9 => h9) hv247 dX13_close_222 ?_
                                  refine lv_iconst (v := 1) hx hb dX13_close_225 (by decide) ?_
                                  refine lv_isub hx hb dX13_close_226 ?_
                                  refine lv_topi (fun f_343 ef_343 => ?_)
                                  obtain rfl : f_343 = (nI (v247 - 1)) := ef_343.trans (nI_prd (by omega))
                                  refine lv_dup2_11 hx hb dX13_close_227 rfl rfl ?_
                                  have hi_344 : vp_in (nI (v247 - 1)) 120 := (inbN (v247 - 1) 120 (by omega) (by omega))
                                  refine pg_iald hx hb hK hP hc250.1 0 hM251 rfl hi_344 dX13_close_228 ?_
                                  have hp_345 := hf251 _ (vp_lt hi_344)
                                  obtain ⟨c_346, hc_347, ec_348⟩ := hp_345
                                  rw [ec_348]
                                  have hy45 : gqw89 = f251 := (congrFun hV.2.2.1 45).symm.trans (ax_of hM246 (by decide) hv250 hM251)
                                  have hec : gqw89 ((nI (v247 - 1)) : Int32).toNatClampNeg = nI c_346 := by rw [hy45]; exact ec_348
                                  have hcc : c_346 ≤ v6w89 := SD.c hSD (by omega) ((nI_cl (by omega)).trans (by omega)) hec (by omega)
                                  refine lv_iconst (v := 1) hx hb dX13_close_229 (by decide) ?_
                                  refine lv_iadd hx hb dX13_close_230 ?_
                                  refine lv_topi (fun f_349 ef_349 => ?_)
                                  obtain rfl : f_349 = (nI (c_346 + 1)) := ef_349.trans (nI_add c_346 1)
                                  refine pg_iast hx hb hK hP hD hS hc250.1 0 hM251 rfl (inbN (v247 - 1) 120 (by omega) (by omega)) dX13_close_231 (fun H_350 locs hP hD hS => ?_)
                                  obtain ⟨M_351, eM_351⟩ : ∃ M1 : Hp, M1 = va_up M_92 v250 (.inl (cy 14, 120, .inl (upd f251 ((nI (v247 - 1)) : Int32).toNatClampNeg (nI (c_346 + 1))))) := ⟨_, rfl⟩
                                  have hy45 : gqw89 = f251 := (congrFun hV.2.2.1 45).symm.trans (ax_of hM246 (by decide) hv250 hM251)
                                  have hV : VW K L M M_351 b13 (va_up (fx M b13) 17 ((gnw89 : Nat) : Int)) (va_up (va_up (va_up (ax M b13) 44 gpw89) 45 gqw89) 45 (upd gqw89 ((nI (v247 - 1)) : Int32).toNatClampNeg (nI (c_346 + 1)))) := by rw [eM_351]; exact hV.ast (j := 45) hW hb_15 hM246 (by decide) hv250 hc250 hM251
                                  have hP : va_P D vwCl ([(za, .inr (13, [.int 0, .ref z1, .int (nI z2), .int (nI z3), .int z4, .int z5, .ref z6, .ref z7, .ref z8, .ref z9, .int (nI z10), .ref z11, .ref z12, .ref z13, .ref z14, .ref z15, .int (nI z16), .ref z17, .int z18, .ref z19]))] ++ va_pl L M_351) H_350 := by rw [eM_351]; exact hP
                                  have hD : va_D A ([(za, .inr (13, [.int 0, .ref z1, .int (nI z2), .int (nI z3), .int z4, .int z5, .ref z6, .ref z7, .ref z8, .ref z9, .int (nI z10), .ref z11, .ref z12, .ref z13, .ref z14, .ref z15, .int (nI z16), .ref z17, .int z18, .ref z19]))] ++ va_pl L M_351) := by rw [eM_351]; exact hD
                                  have hW : WOM cy K L M_351 := by rw [eM_351]; exact hW.up_46 hc250 ⟨_, rfl, (updP (P := fun z => ∃ c : Nat, c < 1001 ∧ z = nI c) hf251 ⟨(c_346 + 1), by omega, rfl⟩)⟩
                                  have hF : fr K L [12, 14, 15, 32, 42, 45, 46, 79, 80, 81, 83] M M_351 := by rw [eM_351]; exact hF.up hc250 (by decide)
                                  have hG : fG K L [1, 7, 8, 13, 14, 15, 16, 17, 18] M M_351 := by rw [eM_351]; exact hG.arr hc250 (by decide)
                                  have hM_352 : M_351 v250 = .inl (cy 14, 120, .inl (upd f251 ((nI (v247 - 1)) : Int32).toNatClampNeg (nI (c_346 + 1)))) := by rw [eM_351]; exact va_up_self _ _ _
                                  have hM_353 : M_351 b13 = .inr (12, fs246) := by rw [eM_351, va_up_ne _ _ (hb_15.neT hc250 (by decide))]; exact hM246
                                  have hM_354 : M_351 v248 = .inl (cy 14, 120, .inl (f249)) := by rw [eM_351, va_up_ne _ _ (hc248.neT hc250 (by decide))]; exact hM249
                                  have hf_356 : ∀ j, j < 120 → ∃ c : Nat, c < 1001 ∧ (upd f251 ((nI (v247 - 1)) : Int32).toNatClampNeg (nI (c_346 + 1))) j = nI c := (updP (P := fun z => ∃ c : Nat, c < 1001 ∧ z = nI c) hf251 ⟨(c_346 + 1), by omega, rfl⟩)
                                  obtain ⟨f_355, ef_355⟩ : ∃ f : Nat → Int32, f = upd f251 ((nI (v247 - 1)) : Int32).toNatClampNeg (nI (c_346 + 1)) := ⟨_, rfl⟩
                                  rw [← ef_355] at hM_352 hf_356
                                  refine lv_iinc (v := (nI (v6w89 + 1))) (lv' := [(6, .int (nI (v6w89 + 1))), (5, .int (-1)), (4, .int (nI c_33)), (3, .int 0), (2, .ref b13), (0, .ref za), (1, .int k1)]) hx hb dX13_close_232 hl (k := 0) rfl (nI_1 v6w89) (by decide) rfl (fun ls hl => ?_)
                                  refine lv_goto (tgt := 164) hx hb dX13_close_235 (by decide) ?_
                                  exact ih_87 (v6w89 + 1) gnw89 gpw89 (upd gqw89 ((nI (v247 - 1)) : Int32).toNatClampNeg (nI (c_346 + 1))) M_351 H_350 _ _ (by omega) (by omega) (SD.old hSD (by omega) ((nI_cl (by omega)).trans (by omega)) hec (by omega)) hW hF hG (by have h := hV; simp only [va_up_up] at h; exact h) hP hD hS (lv_sub hl [0, 1, 2, 3, 4, 5, 6] rfl)
                        exact key_86 (1001 - 0 + 1) 0 0 (ax M b13 44) (ax M b13 45) M_81 H_82 _ _ (by omega) (by omega) (SD.rf _ _ _) hW hF hG (by rw [va_up_id, va_up_id]; exact hV) hP hD hS (lv_sub hl [0, 1, 2, 3, 4, 5, 6] rfl)
                      · have hz := rfl (a := 0)
                        have n_357 : ¬ (24 ≤ v6w79) := fun q => c_84 ((iLE (a := 24) (b := v6w79) (by omega) (by omega)).mpr q)
                        refine lv_aload_n hx hb dX13_close_147 rfl (lv_at hl 4 rfl) ?_
                        obtain ⟨v358, hv358, hc358⟩ : ∃ v : Nat, (fs16.set 17 (.int 0))[33]? = some (.ref v : Value) ∧ isk K L v 15 24 := hk_64 33 (by decide)
                        refine pg_getN (D := D) (ci := 12) (v := .ref v358) (C := RX12) (T := TX12) (N := 51) hx hb hg inG12 hown hK hP hb_15.1 hM_83 rfl 33 (by decide) (hN.use (Cond.fieldLinkNest RX13 259 RX12 "dues" "[J" RX13) 42 rfl rfl) (fun _ h9 => h9) hv358 dX13_close_148 ?_
                        refine lv_iload hx hb dX13_close_151 (lv_at hl 0 rfl) ?_
                        refine lv_lconst (v := 0) hx hb dX13_close_153 (by decide) ?_
                        obtain ⟨f359, hM359⟩ := hW.open_15 hc358
                        refine pg_last hx hb hK hP hD hS hc358.1 1 hM359 rfl (inbN v6w79 24 (by omega) (by omega)) dX13_close_154 (fun H_360 locs hP hD hS => ?_)
                        obtain ⟨M_361, eM_361⟩ : ∃ M1 : Hp, M1 = va_up M_81 v358 (.inl (cy 15, 24, .inr (.inl (vp_updL f359 ((nI v6w79) : Int32).toNatClampNeg 0)))) := ⟨_, rfl⟩
                        have hV : VW K L M M_361 b13 (va_up (fx M b13) 17 (0 : Int)) (ax M b13) := by rw [eM_361]; exact hV.oth hW hb_15 hc358 (by decide)
                        have hP : va_P D vwCl ([(za, .inr (13, [.int 0, .ref z1, .int (nI z2), .int (nI z3), .int z4, .int z5, .ref z6, .ref z7, .ref z8, .ref z9, .int (nI z10), .ref z11, .ref z12, .ref z13, .ref z14, .ref z15, .int (nI z16), .ref z17, .int z18, .ref z19]))] ++ va_pl L M_361) H_360 := by rw [eM_361]; exact hP
                        have hD : va_D A ([(za, .inr (13, [.int 0, .ref z1, .int (nI z2), .int (nI z3), .int z4, .int z5, .ref z6, .ref z7, .ref z8, .ref z9, .int (nI z10), .ref z11, .ref z12, .ref z13, .ref z14, .ref z15, .int (nI z16), .ref z17, .int z18, .ref z19]))] ++ va_pl L M_361) := by rw [eM_361]; exact hD
                        have hW : WOM cy K L M_361 := by rw [eM_361]; exact hW.up_15 hc358 ⟨_, rfl⟩
                        have hF : fr K L [12, 14, 15, 32, 42, 45, 46, 79, 80, 81, 83] M M_361 := by rw [eM_361]; exact hF.up hc358 (by decide)
                        have hG : fG K L [1, 7, 8, 13, 14, 15, 16, 17, 18] M M_361 := by rw [eM_361]; exact hG.arr hc358 (by decide)
                        have hM_362 : M_361 v358 = .inl (cy 15, 24, .inr (.inl (vp_updL f359 ((nI v6w79) : Int32).toNatClampNeg 0))) := by rw [eM_361]; exact va_up_self _ _ _
                        have hM_363 : M_361 b13 = .inr (12, fs16.set 17 (.int 0)) := by rw [eM_361, va_up_ne _ _ (hb_15.neT hc358 (by decide))]; exact hM_83
                        obtain ⟨f_364, ef_364⟩ : ∃ f : Nat → Int64, f = vp_updL f359 ((nI v6w79) : Int32).toNatClampNeg 0 := ⟨_, rfl⟩
                        rw [← ef_364] at hM_362
                        refine lv_iinc (v := (nI (v6w79 + 1))) (lv' := [(6, .int (nI (v6w79 + 1))), (5, .int (-1)), (4, .int (nI c_33)), (3, .int 0), (2, .ref b13), (0, .ref za), (1, .int k1)]) hx hb dX13_close_155 hl (k := 0) rfl (nI_1 v6w79) (by decide) rfl (fun ls hl => ?_)
                        refine lv_goto (tgt := 140) hx hb dX13_close_158 (by decide) ?_
                        exact ih_77 (v6w79 + 1) M_361 H_360 _ _ (by omega) hM_363 (by omega) hW hF hG hV hP hD hS (lv_sub hl [0, 1, 2, 3, 4, 5, 6] rfl)
                  exact key_76 (24 - 0 + 1) 0 M_74 H_62 _ _ (by omega) hM_75 (by omega) hW hF hG hV hP hD hS (lv_sub hl [0, 1, 2, 3, 4, 5, 6] rfl)
                · have hz := rfl (a := 0)
                  refine lv_istore (lv' := [(5, .int (nI j_57)), (4, .int (nI c_33)), (3, .int 0), (2, .ref b13), (0, .ref za), (1, .int k1)]) hx hb dX13_close_115 hl (by decide) rfl (fun ls hl => ?_)
                  refine lv_iload hx hb dX13_close_117 (lv_at hl 0 rfl) ?_
                  refine lv_iconst (v := (-1)) hx hb dX13_close_119 (by decide) ?_
                  refine lv_icmp_eq (tgt := 132) hx hb dX13_close_120 (by decide) (fun c_365 => absurd c_365 (nI_ne_m1 (by omega))) (fun _ => ?_)
                  refine lv_aload_n hx hb dX13_close_123 rfl (lv_at hl 4 rfl) ?_
                  refine lv_bipush (v := 7) hx hb dX13_close_124 (by decide) ?_
                  refine lv_iload hx hb dX13_close_126 (lv_at hl 0 rfl) ?_
                  have hPc := hP.sub (ws' := [(za, .inr (13, [.int 0, .ref z1, .int (nI z2), .int (nI z3), .int z4, .int z5, .ref z6, .ref z7, .ref z8, .ref z9, .int (nI z10), .ref z11, .ref z12, .ref z13, .ref z14, .ref z15, .int (nI z16), .ref z17, .int z18, .ref z19]))]) [0] rfl
                  have hDc := hD.sub (ws' := [(za, .inr (13, [.int 0, .ref z1, .int (nI z2), .int (nI z3), .int z4, .int z5, .ref z6, .ref z7, .ref z8, .ref z9, .int (nI z10), .ref z11, .ref z12, .ref z13, .ref z14, .ref z15, .int (nI z16), .ref z17, .int z18, .ref z19]))]) [0] (by decide) rfl
                  have hKc := hK.sub (tys' := []) [] rfl
                  have hFc := va_free (wc := [(za, .inr (13, [.int 0, .ref z1, .int (nI z2), .int (nI z3), .int z4, .int z5, .ref z6, .ref z7, .ref z8, .ref z9, .int (nI z10), .ref z11, .ref z12, .ref z13, .ref z14, .ref z15, .int (nI z16), .ref z17, .int z18, .ref z19]))]) hD hS hA [0] rfl
                  refine va_calli (va_runV (As := [.int 7, .int (nI j_57)]) (rest := []) ⟨hx, hb, hml, hown, hg⟩ (m_refusedAt l D H_52.size za 0 z1 (nI z2) (nI z3) z4 z5 z6 z7 z8 z9 (nI z10) z11 z12 z13 z14 z15 (nI z16) z17 z18 z19 7 (nI j_57)) (cwV 2 hg (gV wd_882 wd_883 wd_884 wd_717 wd_885) rfl rfl rfl (by decide +kernel) ⟨(Nat.le_trans (Nat.le_of_ble_eq_true rfl) hRf), (Nat.le_trans (Nat.le_of_ble_eq_true rfl) hRl)⟩) ⟨Pr.blind, va_recv hK hP (ci := 13) (q0 := 0) rfl rfl, fun U hU hW => ⟨rfl, Pr.at hPc hKc hDc hN hU hW⟩⟩ rfl rfl hl.1 rfl (lv_room (Nat.le_of_ble_eq_true rfl)) dX13_close_128 ⟨(Nat.le_trans (Nat.le_of_ble_eq_true rfl) hRc), (Nat.le_trans (Nat.le_of_ble_eq_true rfl) hRs)⟩) hS (fun q _ h => hFc q h) hFc (fun r_367 M_368 t H_366 locs ht hvm hw hB hz1 hk1 hS => ?_)
                  have hp_369 := hw
                  obtain ⟨hP1, hK1, hD1⟩ := hB
                  rw [ht] at hP1
                  obtain ⟨hP, hD⟩ := va_joinQ (X := [(za, .inr (13, [.int 0, .ref z1, .int (nI z2), .int (nI z3), .int z4, .int z5, .ref z6, .ref z7, .ref z8, .ref z9, .int (nI z10), .ref z11, .ref z12, .ref z13, .ref z14, .ref z15, .int (nI z16), .ref z17, .int z18, .ref z19]))]) (cx := [(za, .inr (13, [.int 0, .ref z1, .int (nI z2), .int (nI z3), .int z4, .int z5, .ref z6, .ref z7, .ref z8, .ref z9, .int (nI z10), .ref z11, .ref z12, .ref z13, .ref z14, .ref z15, .int (nI z16), .ref z17, .int z18, .ref z19]))]) (wr := []) (w1 := [(za, .inr (13, [.int 0, .ref z1, .int (nI z2), .int (nI z3), .int 7, .int (nI j_57), .ref z6, .ref z7, .ref z8, .ref z9, .int (nI z10), .ref z11, .ref z12, .ref z13, .ref z14, .ref z15, .int (nI z16), .ref z17, .int z18, .ref z19]))]) (pl := va_pl L M_42) hP hD [0] [] rfl rfl (by decide) (by decide) hk1 hFc hP1 hD1
                  have hP : va_P D vwCl ([(za, .inr (13, [.int 0, .ref z1, .int (nI z2), .int (nI z3), .int 7, .int (nI j_57), .ref z6, .ref z7, .ref z8, .ref z9, .int (nI z10), .ref z11, .ref z12, .ref z13, .ref z14, .ref z15, .int (nI z16), .ref z17, .int z18, .ref z19]))] ++ va_pl L M_42) H_366 := hP
                  have hD : va_D A ([(za, .inr (13, [.int 0, .ref z1, .int (nI z2), .int (nI z3), .int 7, .int (nI j_57), .ref z6, .ref z7, .ref z8, .ref z9, .int (nI z10), .ref z11, .ref z12, .ref z13, .ref z14, .ref z15, .int (nI z16), .ref z17, .int z18, .ref z19]))] ++ va_pl L M_42) := hD
                  have hq := Eq.symm hp_369
                  subst hq
                  have hlg7 : ¬ ∀ b, b < z2 → ¬ LAG PK PT SX SY (k1 : Int32).toNatClampNeg (enD (SX (k1 : Int32).toNatClampNeg) (SY (k1 : Int32).toNatClampNeg)) b := fun w9 => w9 _ c_59 (by rw [hEd]; have h9 := c_60; rw [nI_toInt (by omega)] at h9; exact h9)
                  have hno : ¬ okCl z2 PK PT SX SY k1 := fun q9 => by unfold okCl okH at q9; first | omega | (obtain ⟨⟨_, _⟩, _, _, _, _⟩ := q9; first | omega | contradiction)
                  have hA9 : HA (ax M b13 2) (ax M b13 3) := hAT.1
                  have hB9 : HB (fx M b13 16) (fx M b13 14) (ax M b13 3) (ax M b13 43) := hAT.2.1
                  have hC9 : HC (fx M b13 10) (ax M b13 22) (ax M b13 23) := hAT.2.2.1
                  have hD9 : HD (fx M b13 0) (fx M b13 11) (fx M b13 15) (ax M b13 34) (ax M b13 41) := hAT.2.2.2.1
                  have hE9 : HE (fx M b13 0) (fx M b13 1) (fx M b13 12) (fx M b13 13) (ax M b13 37) := hAT.2.2.2.2
                  have hH9 : HI (fx M b13) (ax M b13) := ⟨hA9, hB9, hC9, hD9, hE9⟩
                  have hGI9 : GI K L z1 z2 M_42 := GI.fin hW0 i1 b2 hGI hact hV (hF.at i1 (by decide)) hH9
                  rw [hQ]
                  exact W.iret (v := (-1)) hx hb hr (fun t ht hW9 => ⟨⟨(-1), M_42, rfl, ⟨hW, hF, hG, ⟨hGI9, fun _ => 0, fun _ _ => 0, fun w9 => absurd w9 hno, (by unfold sxCl syCl; rw [if_neg hno, if_neg hno]; have hQ9 := ZSx.fin hW0 i1 b2 hZS hGI.1 hkn hb9 hV (hF.at i1 (by decide)) hZk.1 hZk.2; rw [va_upJ, va_upJ] at hQ9; exact hQ9)⟩, (by unfold anCl; rw [if_neg hno])⟩, ⟨7, (nI j_57), z16, (by omega), by rw [ht]; exact hP, hD⟩⟩, hS.F ht⟩) hS.2.2 dX13_close_131
              · have hz := rfl (a := 0)
                have n_370 : ¬ (c_33 < v5w39) := fun q => c_45 ((iLT (a := c_33) (b := v5w39) (by omega) (by omega)).mpr q)
                refine lv_aload_n hx hb dX13_close_85 rfl (lv_at hl 3 rfl) ?_
                refine lv_iload hx hb dX13_close_86 (lv_at hl 0 rfl) ?_
                have hPc : va_P D vwCl ([] ++ va_pl L M_42) H_43 := hP.part (cx := []) [] rfl
                have hDc : va_D A ([] ++ va_pl L M_42) := hD.part (cx := []) [] (by decide) rfl
                have hFc : ∀ q, va_A ([] ++ va_pl L M_42) H_43.size q → A q := pg_free hDc hS hA
                refine va_calli (va_runV (As := [.int (nI v5w39)]) (rest := []) ⟨hx, hb, hml, hown, hg⟩ (f_isOpen l D cy K L M_42 H_43.size b13 v5w39  hW hb_15 (by omega)) (cwV 1 hg (gV wd_752 wd_753 wd_754 wd_737 wd_755) rfl rfl rfl (by decide +kernel) ⟨(Nat.le_trans (Nat.le_of_ble_eq_true rfl) hRf), (Nat.le_trans (Nat.le_of_ble_eq_true rfl) hRl)⟩) ⟨PG.blind, pg_recv hK hP hb_15.1 hM_44 rfl, fun U hU hW => ⟨rfl, PG.at hPc hK hDc hN hU hW⟩⟩ rfl rfl hl.1 rfl (lv_room (Nat.le_of_ble_eq_true rfl)) dX13_close_88 ⟨(Nat.le_trans (Nat.le_of_ble_eq_true rfl) hRc), (Nat.le_trans (Nat.le_of_ble_eq_true rfl) hRs)⟩) hS (fun q _ h => hFc q h) hFc (fun r_372 M_373 t H_371 locs ht hvm hw hB hz1 hk1 hS => ?_)
                have hp_374 := hw
                obtain ⟨hP1, hD1⟩ := hB
                rw [ht] at hP1
                obtain ⟨hP, hD⟩ := va_joinP (X := [(za, .inr (13, [.int 0, .ref z1, .int (nI z2), .int (nI z3), .int z4, .int z5, .ref z6, .ref z7, .ref z8, .ref z9, .int (nI z10), .ref z11, .ref z12, .ref z13, .ref z14, .ref z15, .int (nI z16), .ref z17, .int z18, .ref z19]))]) (cx := []) (wr := [(za, .inr (13, [.int 0, .ref z1, .int (nI z2), .int (nI z3), .int z4, .int z5, .ref z6, .ref z7, .ref z8, .ref z9, .int (nI z10), .ref z11, .ref z12, .ref z13, .ref z14, .ref z15, .int (nI z16), .ref z17, .int z18, .ref z19]))]) (rx := []) (pl := va_pl L M_42) (pl1 := va_pl L M_42) hP hD [] [0] rfl rfl (by decide) (by decide) hk1 hFc hP1 hD1
                have hP : va_P D vwCl ([(za, .inr (13, [.int 0, .ref z1, .int (nI z2), .int (nI z3), .int z4, .int z5, .ref z6, .ref z7, .ref z8, .ref z9, .int (nI z10), .ref z11, .ref z12, .ref z13, .ref z14, .ref z15, .int (nI z16), .ref z17, .int z18, .ref z19]))] ++ va_pl L M_42) H_371 := hP
                have hD : va_D A ([(za, .inr (13, [.int 0, .ref z1, .int (nI z2), .int (nI z3), .int z4, .int z5, .ref z6, .ref z7, .ref z8, .ref z9, .int (nI z10), .ref z11, .ref z12, .ref z13, .ref z14, .ref z15, .int (nI z16), .ref z17, .int z18, .ref z19]))] ++ va_pl L M_42) := hD
                rcases hp_374 with ⟨rfl, c_375⟩ | ⟨rfl, c_376⟩
                · have hz := rfl (a := 0)
                  have hop9 : opD (SY (k1 : Int32).toNatClampNeg) v5w39 := by have h9 := c_375; rw [hV.2.2.1, hZk.2] at h9; exact h9
                  refine lv_if_eq (tgt := 102) hx hb dX13_close_91 (by decide) (fun c_377 => absurd c_377 (by decide)) (fun _ => ?_)
                  refine lv_aload_n hx hb dX13_close_94 rfl (lv_at hl 4 rfl) ?_
                  refine lv_iconst (v := 5) hx hb dX13_close_95 (by decide) ?_
                  refine lv_iload hx hb dX13_close_96 (lv_at hl 0 rfl) ?_
                  have hPc := hP.sub (ws' := [(za, .inr (13, [.int 0, .ref z1, .int (nI z2), .int (nI z3), .int z4, .int z5, .ref z6, .ref z7, .ref z8, .ref z9, .int (nI z10), .ref z11, .ref z12, .ref z13, .ref z14, .ref z15, .int (nI z16), .ref z17, .int z18, .ref z19]))]) [0] rfl
                  have hDc := hD.sub (ws' := [(za, .inr (13, [.int 0, .ref z1, .int (nI z2), .int (nI z3), .int z4, .int z5, .ref z6, .ref z7, .ref z8, .ref z9, .int (nI z10), .ref z11, .ref z12, .ref z13, .ref z14, .ref z15, .int (nI z16), .ref z17, .int z18, .ref z19]))]) [0] (by decide) rfl
                  have hKc := hK.sub (tys' := []) [] rfl
                  have hFc := va_free (wc := [(za, .inr (13, [.int 0, .ref z1, .int (nI z2), .int (nI z3), .int z4, .int z5, .ref z6, .ref z7, .ref z8, .ref z9, .int (nI z10), .ref z11, .ref z12, .ref z13, .ref z14, .ref z15, .int (nI z16), .ref z17, .int z18, .ref z19]))]) hD hS hA [0] rfl
                  refine va_calli (va_runV (As := [.int 5, .int (nI v5w39)]) (rest := []) ⟨hx, hb, hml, hown, hg⟩ (m_refusedAt l D H_371.size za 0 z1 (nI z2) (nI z3) z4 z5 z6 z7 z8 z9 (nI z10) z11 z12 z13 z14 z15 (nI z16) z17 z18 z19 5 (nI v5w39)) (cwV 2 hg (gV wd_882 wd_883 wd_884 wd_717 wd_885) rfl rfl rfl (by decide +kernel) ⟨(Nat.le_trans (Nat.le_of_ble_eq_true rfl) hRf), (Nat.le_trans (Nat.le_of_ble_eq_true rfl) hRl)⟩) ⟨Pr.blind, va_recv hK hP (ci := 13) (q0 := 0) rfl rfl, fun U hU hW => ⟨rfl, Pr.at hPc hKc hDc hN hU hW⟩⟩ rfl rfl hl.1 rfl (lv_room (Nat.le_of_ble_eq_true rfl)) dX13_close_98 ⟨(Nat.le_trans (Nat.le_of_ble_eq_true rfl) hRc), (Nat.le_trans (Nat.le_of_ble_eq_true rfl) hRs)⟩) hS (fun q _ h => hFc q h) hFc (fun r_379 M_380 t H_378 locs ht hvm hw hB hz1 hk1 hS => ?_)
                  have hp_381 := hw
                  obtain ⟨hP1, hK1, hD1⟩ := hB
                  rw [ht] at hP1
                  obtain ⟨hP, hD⟩ := va_joinQ (X := [(za, .inr (13, [.int 0, .ref z1, .int (nI z2), .int (nI z3), .int z4, .int z5, .ref z6, .ref z7, .ref z8, .ref z9, .int (nI z10), .ref z11, .ref z12, .ref z13, .ref z14, .ref z15, .int (nI z16), .ref z17, .int z18, .ref z19]))]) (cx := [(za, .inr (13, [.int 0, .ref z1, .int (nI z2), .int (nI z3), .int z4, .int z5, .ref z6, .ref z7, .ref z8, .ref z9, .int (nI z10), .ref z11, .ref z12, .ref z13, .ref z14, .ref z15, .int (nI z16), .ref z17, .int z18, .ref z19]))]) (wr := []) (w1 := [(za, .inr (13, [.int 0, .ref z1, .int (nI z2), .int (nI z3), .int 5, .int (nI v5w39), .ref z6, .ref z7, .ref z8, .ref z9, .int (nI z10), .ref z11, .ref z12, .ref z13, .ref z14, .ref z15, .int (nI z16), .ref z17, .int z18, .ref z19]))]) (pl := va_pl L M_42) hP hD [0] [] rfl rfl (by decide) (by decide) hk1 hFc hP1 hD1
                  have hP : va_P D vwCl ([(za, .inr (13, [.int 0, .ref z1, .int (nI z2), .int (nI z3), .int 5, .int (nI v5w39), .ref z6, .ref z7, .ref z8, .ref z9, .int (nI z10), .ref z11, .ref z12, .ref z13, .ref z14, .ref z15, .int (nI z16), .ref z17, .int z18, .ref z19]))] ++ va_pl L M_42) H_378 := hP
                  have hD : va_D A ([(za, .inr (13, [.int 0, .ref z1, .int (nI z2), .int (nI z3), .int 5, .int (nI v5w39), .ref z6, .ref z7, .ref z8, .ref z9, .int (nI z10), .ref z11, .ref z12, .ref z13, .ref z14, .ref z15, .int (nI z16), .ref z17, .int z18, .ref z19]))] ++ va_pl L M_42) := hD
                  have hq := Eq.symm hp_381
                  subst hq
                  have hI_382 : (0 : Int) ≤ (k1 : Int32).toInt := inltI rfl rfl c_7
                  have hI_383 : (k1 : Int32).toInt < ((z2 : Nat) : Int) := inleI (nI_toInt (by omega)) rfl c_8
                  have hI_384 : ((v21 : Nat) : Int) ≠ ((v20 : Nat) : Int) := ineI (nI_toInt (by omega)) (nI_toInt (by omega)) c_24
                  have hI_385 : ((v19 : Nat) : Int) ≠ (0 : Int) := ineI (nI_toInt (by omega)) rfl c_26
                  have hI_386 : ((v5w39 : Nat) : Int) ≤ ((c_33 : Nat) : Int) := inltI (nI_toInt (by omega)) (nI_toInt (by omega)) c_45
                  have hop5 : ¬ (∀ d : Nat, SX (k1 : Int32).toNatClampNeg 1 < (d : Int) → (d : Int) ≤ enD (SX (k1 : Int32).toNatClampNeg) (SY (k1 : Int32).toNatClampNeg) → ¬ opD (SY (k1 : Int32).toNatClampNeg) d) := fun w9 => w9 v5w39 (by omega) (by rw [hEd]; omega) hop9
                  have hno : ¬ okCl z2 PK PT SX SY k1 := fun q9 => by unfold okCl okH at q9; first | omega | (obtain ⟨⟨_, _⟩, _, _, _, _⟩ := q9; first | omega | contradiction)
                  have hA9 : HA (ax M b13 2) (ax M b13 3) := hAT.1
                  have hB9 : HB (fx M b13 16) (fx M b13 14) (ax M b13 3) (ax M b13 43) := hAT.2.1
                  have hC9 : HC (fx M b13 10) (ax M b13 22) (ax M b13 23) := hAT.2.2.1
                  have hD9 : HD (fx M b13 0) (fx M b13 11) (fx M b13 15) (ax M b13 34) (ax M b13 41) := hAT.2.2.2.1
                  have hE9 : HE (fx M b13 0) (fx M b13 1) (fx M b13 12) (fx M b13 13) (ax M b13 37) := hAT.2.2.2.2
                  have hH9 : HI (fx M b13) (ax M b13) := ⟨hA9, hB9, hC9, hD9, hE9⟩
                  have hGI9 : GI K L z1 z2 M_42 := GI.fin hW0 i1 b2 hGI hact hV (hF.at i1 (by decide)) hH9
                  rw [hQ]
                  exact W.iret (v := (-1)) hx hb hr (fun t ht hW9 => ⟨⟨(-1), M_42, rfl, ⟨hW, hF, hG, ⟨hGI9, fun _ => 0, fun _ _ => 0, fun w9 => absurd w9 hno, (by unfold sxCl syCl; rw [if_neg hno, if_neg hno]; have hQ9 := ZSx.fin hW0 i1 b2 hZS hGI.1 hkn hb9 hV (hF.at i1 (by decide)) hZk.1 hZk.2; rw [va_upJ, va_upJ] at hQ9; exact hQ9)⟩, (by unfold anCl; rw [if_neg hno])⟩, ⟨5, (nI v5w39), z16, (by omega), by rw [ht]; exact hP, hD⟩⟩, hS.F ht⟩) hS.2.2 dX13_close_101
                · have hz := rfl (a := 0)
                  have hno9 : ¬ opD (SY (k1 : Int32).toNatClampNeg) v5w39 := by have h9 := c_376; rw [hV.2.2.1, hZk.2] at h9; exact h9
                  refine lv_if_eq (tgt := 102) hx hb dX13_close_91 (by decide) (fun _ => ?_) (fun c_387 => absurd c_387 (by decide))
                  refine lv_iinc (v := (nI (v5w39 + 1))) (lv' := [(5, .int (nI (v5w39 + 1))), (4, .int (nI c_33)), (3, .int 0), (2, .ref b13), (0, .ref za), (1, .int k1)]) hx hb dX13_close_102 hl (k := 0) rfl (nI_1 v5w39) (by decide) rfl (fun ls hl => ?_)
                  refine lv_goto (tgt := 78) hx hb dX13_close_105 (by decide) ?_
                  exact ih_37 (v5w39 + 1) M_42 H_371 _ _ (by omega) hM_44 (by omega) (fun d h1 h2 => by by_cases z9 : d = v5w39; swap; exact hx_41 d h1 (by omega); rw [z9]; exact hno9) hW hF hG hV hP hD hS (lv_sub hl [0, 1, 2, 3, 4, 5] rfl)
          exact key_36 (1001 - 0 + 1) 0 M H_2 _ _ (by omega) hM16 (by omega) (fun d h1 h2 => by omega) hW hF hG hV hP hD hS (lv_sub hl [0, 1, 2, 3, 4, 5] rfl)
        · have hz := rfl (a := 0)
          refine lv_iconst (v := 1) hx hb dX13_close_61 (by decide) ?_
          refine lv_iadd hx hb dX13_close_62 ?_
          refine lv_topi (fun f_388 ef_388 => ?_)
          obtain rfl : f_388 = (nI (c_28 + 1)) := ef_388.trans (nI_add c_28 1)
          refine lv_istore_n (lv' := [(3, .int (nI (c_28 + 1))), (2, .ref b13), (0, .ref za), (1, .int k1)]) hx hb dX13_close_63 rfl hl (by decide) rfl (fun ls hl => ?_)
          have hlt13 : v21 < v20 := by have h := hAT.2.2.2.2.1; omega
          refine lv_aload_n hx hb dX13_close_64 rfl (lv_at hl 1 rfl) ?_
          refine pg_getN (D := D) (ci := 12) (v := .ref v22) (C := RX12) (T := TX12) (N := 51) hx hb hg inG12 hown hK hP hb_15.1 hM16 rfl 37 (by decide) (hN.use (Cond.fieldLinkNest RX13 236 RX12 "end" "[I" RX13) 46 rfl rfl) (fun _ h9 => h9) hv22 dX13_close_65 ?_
          refine lv_aload_n hx hb dX13_close_68 rfl (lv_at hl 1 rfl) ?_
          refine pg_getN (D := D) (ci := 12) (v := .int (nI v21)) (C := RX12) (T := TX12) (N := 51) hx hb hg inG12 hown hK hP hb_15.1 hM16 rfl 13 (by decide) (hN.use (Cond.fieldLinkNest RX13 244 RX12 "closed" "I" RX13) 22 rfl rfl) (fun _ h9 => h9) hv21 dX13_close_69 ?_
          have hi_389 : vp_in (nI v21) 12 := (inbN v21 12 (by omega) (by omega))
          refine pg_iald hx hb hK hP hc22.1 0 hM23 rfl hi_389 dX13_close_72 ?_
          have hp_390 := hf23 _ (vp_lt hi_389)
          obtain ⟨c_391, hc_392, ec_393⟩ := hp_390
          rw [ec_393]
          refine lv_istore (lv' := [(4, .int (nI c_391)), (3, .int (nI (c_28 + 1))), (2, .ref b13), (0, .ref za), (1, .int k1)]) hx hb dX13_close_73 hl (by decide) rfl (fun ls hl => ?_)
          have hx1b : fx M b13 1 = (((c_28 + 1) : Nat) : Int) - 1 := by rw [hx1]; first | decide | (rw [nI_toInt (by omega)]; omega)
          obtain ⟨hq1, hq2, hq3, hq4⟩ := heC hAT.2.2.2.2 hb13 hb12 (by omega) (by omega) hb37 (nI_cl (by omega)) ec_393 (by omega)
          have h11 : 1 ≤ fx M b13 11 := by omega
          have hT37 : (ax M b13 37 v21).toInt = ((c_391 : Nat) : Int) := by
            have h := ec_393
            rw [nI_cl (by omega)] at h
            rw [hb37, h, nI_toInt (by omega)]
          have hEd : enD (SX (k1 : Int32).toNatClampNeg) (SY (k1 : Int32).toNatClampNeg) = ((c_391 : Nat) : Int) := by unfold enD; rw [← hZk.2, show (SX (k1 : Int32).toNatClampNeg 13).toNat = v21 by omega]; exact hT37
          refine lv_iload_n hx hb dX13_close_75 rfl (lv_at hl 1 rfl) ?_
          refine lv_istore (lv' := [(5, .int (nI (c_28 + 1))), (4, .int (nI c_391)), (3, .int (nI (c_28 + 1))), (2, .ref b13), (0, .ref za), (1, .int k1)]) hx hb dX13_close_76 hl (by decide) rfl (fun ls hl => ?_)
          have key_394 : ∀ (fu_396 : Nat) (v5w397 : Nat) (M_400 : Hp) (H_401 : Heap) (locs : List Loc) (ls : Array Slot), 1001 - v5w397 < fu_396 → M_400 b13 = .inr (12, fs16) → v5w397 ≤ 1000 → (∀ d : Nat, SX (k1 : Int32).toNatClampNeg 1 < (d : Int) → d < v5w397 → ¬ opD (SY (k1 : Int32).toNatClampNeg) d) → WOM cy K L M_400 → fr K L [12, 14, 15, 32, 42, 45, 46, 79, 80, 81, 83] M M_400 → fG K L [1, 7, 8, 13, 14, 15, 16, 17, 18] M M_400 → VW K L M M_400 b13 (fx M b13) (ax M b13) → va_P D vwCl ([(za, .inr (13, [.int 0, .ref z1, .int (nI z2), .int (nI z3), .int z4, .int z5, .ref z6, .ref z7, .ref z8, .ref z9, .int (nI z10), .ref z11, .ref z12, .ref z13, .ref z14, .ref z15, .int (nI z16), .ref z17, .int z18, .ref z19]))] ++ va_pl L M_400) H_401 → va_D A ([(za, .inr (13, [.int 0, .ref z1, .int (nI z2), .int (nI z3), .int z4, .int z5, .ref z6, .ref z7, .ref z8, .ref z9, .int (nI z10), .ref z11, .ref z12, .ref z13, .ref z14, .ref z15, .int (nI z16), .ref z17, .int z18, .ref z19]))] ++ va_pl L M_400) → va_S A s.heap H_401 locs → lv_has ls 8 [(5, .int (nI v5w397)), (4, .int (nI c_391)), (3, .int (nI (c_28 + 1))), (2, .ref b13), (0, .ref za), (1, .int k1)] → W p l e R s m ([.ref za, .int k1] : List Value).toArray below meth c H_401 locs 0 0 Q (F0 m 78 ls []) := by
            intro fu_396
            induction fu_396 with
            | zero => intro v5w397 M_400 H_401 locs ls h; exact absurd h (Nat.not_lt_zero _)
            | succ fu_396 ih_395 =>
              intro v5w397 M_400 H_401 locs ls hfu hM_402 hx_398 hx_399 hW hF hG hV hP hD hS hl
              refine lv_iload hx hb dX13_close_78 (lv_at hl 0 rfl) ?_
              refine lv_iload hx hb dX13_close_80 (lv_at hl 1 rfl) ?_
              refine lv_icmp_gt (tgt := 108) hx hb dX13_close_82 (by decide) (fun c_403 => ?_) (fun c_403 => ?_)
              · have hz := rfl (a := 0)
                have n_404 : c_391 < v5w397 := (iLT (a := c_391) (b := v5w397) (by omega) (by omega)).mp c_403
                have hall := hx_399
                have hv5 : c_391 < v5w397 := by omega
                have hI_405 : (0 : Int) ≤ (k1 : Int32).toInt := inltI rfl rfl c_7
                have hI_406 : (k1 : Int32).toInt < ((z2 : Nat) : Int) := inleI (nI_toInt (by omega)) rfl c_8
                have hI_407 : ((v21 : Nat) : Int) ≠ ((v20 : Nat) : Int) := ineI (nI_toInt (by omega)) (nI_toInt (by omega)) c_24
                have hI_408 : ((v19 : Nat) : Int) ≠ (0 : Int) := ineI (nI_toInt (by omega)) rfl c_26
                have hI_409 : ((c_391 : Nat) : Int) < ((v5w397 : Nat) : Int) := iltI (nI_toInt (by omega)) (nI_toInt (by omega)) c_403
                have hZSw := ZSx.fin hW0 i1 b2 hZS hGI.1 hkn hb9 hV (hF.at i1 (by decide)) hZk.1 hZk.2
                rw [va_upJ, va_upJ] at hZSw
                have hZPw := ZP.mv hZP i6 i7 hF (by decide) (by decide)
                refine lv_aload_n hx hb dX13_close_108 rfl (lv_at hl 4 rfl) ?_
                refine lv_iload_n hx hb dX13_close_109 rfl (lv_at hl 5 rfl) ?_
                refine lv_iload hx hb dX13_close_110 (lv_at hl 1 rfl) ?_
                have hPc : va_P D vwCl ([(za, .inr (13, [.int 0, .ref z1, .int (nI z2), .int (nI z3), .int z4, .int z5, .ref z6, .ref z7, .ref z8, .ref z9, .int (nI z10), .ref z11, .ref z12, .ref z13, .ref z14, .ref z15, .int (nI z16), .ref z17, .int z18, .ref z19]))] ++ va_pl L M_400) H_401 := hP
                have hDc : va_D A ([(za, .inr (13, [.int 0, .ref z1, .int (nI z2), .int (nI z3), .int z4, .int z5, .ref z6, .ref z7, .ref z8, .ref z9, .int (nI z10), .ref z11, .ref z12, .ref z13, .ref z14, .ref z15, .int (nI z16), .ref z17, .int z18, .ref z19]))] ++ va_pl L M_400) := hD
                have hFc : ∀ q, va_A ([(za, .inr (13, [.int 0, .ref z1, .int (nI z2), .int (nI z3), .int z4, .int z5, .ref z6, .ref z7, .ref z8, .ref z9, .int (nI z10), .ref z11, .ref z12, .ref z13, .ref z14, .ref z15, .int (nI z16), .ref z17, .int z18, .ref z19]))] ++ va_pl L M_400) H_401.size q → A q := pg_free hDc hS hA
                refine va_calli (va_runV (As := [.int k1, .int (nI c_391)]) (rest := []) ⟨hx, hb, hml, hown, hg⟩ (z_behind l D cy K L M_400 H_401.size za 0 z1 z2 z3 z4 z5 z6 z7 z8 z9 z10 z11 z12 z13 z14 z15 z16 z17 z18 z19 k1 (nI c_391) SX SY PK PT  hW i1 b2 b3 i6 i7 i8 i9 b10 i11 i12 i13 i14 i15 b16 i17 i19 hZSw hZPw (by omega)) (cwV 2 hg (gV wd_853 wd_854 wd_855 wd_717 wd_856) rfl rfl rfl (by decide +kernel) ⟨(Nat.le_trans (Nat.le_of_ble_eq_true rfl) hRf), (Nat.le_trans (Nat.le_of_ble_eq_true rfl) hRl)⟩) ⟨PG.blind, va_recv hK hP (ci := 13) (q0 := 0) rfl rfl, fun U hU hW => ⟨rfl, PG.at hPc hK hDc hN hU hW⟩⟩ rfl rfl hl.1 rfl (lv_room (Nat.le_of_ble_eq_true rfl)) dX13_close_112 ⟨(Nat.le_trans (Nat.le_of_ble_eq_true rfl) hRc), (Nat.le_trans (Nat.le_of_ble_eq_true rfl) hRs)⟩) hS (fun q _ h => hFc q h) hFc (fun r_411 M_412 t H_410 locs ht hvm hw hB hz1 hk1 hS => ?_)
                have hp_413 := hw
                obtain ⟨hP1, hD1⟩ := hB
                rw [ht] at hP1
                have hP : va_P D vwCl ([(za, .inr (13, [.int 0, .ref z1, .int (nI z2), .int (nI z3), .int z4, .int z5, .ref z6, .ref z7, .ref z8, .ref z9, .int (nI z10), .ref z11, .ref z12, .ref z13, .ref z14, .ref z15, .int (nI z16), .ref z17, .int z18, .ref z19]))] ++ va_pl L M_400) H_410 := hP1
                have hD : va_D A ([(za, .inr (13, [.int 0, .ref z1, .int (nI z2), .int (nI z3), .int z4, .int z5, .ref z6, .ref z7, .ref z8, .ref z9, .int (nI z10), .ref z11, .ref z12, .ref z13, .ref z14, .ref z15, .int (nI z16), .ref z17, .int z18, .ref z19]))] ++ va_pl L M_400) := hD1.mono hFc
                rcases hp_413 with ⟨rfl, c_414⟩ | ⟨j_415, rfl, c_416, c_417, c_418⟩
                · have hz := rfl (a := 0)
                  refine lv_istore (lv' := [(5, .int (-1)), (4, .int (nI c_391)), (3, .int (nI (c_28 + 1))), (2, .ref b13), (0, .ref za), (1, .int k1)]) hx hb dX13_close_115 hl (by decide) rfl (fun ls hl => ?_)
                  refine lv_iload hx hb dX13_close_117 (lv_at hl 0 rfl) ?_
                  refine lv_iconst (v := (-1)) hx hb dX13_close_119 (by decide) ?_
                  refine lv_icmp_eq (tgt := 132) hx hb dX13_close_120 (by decide) (fun _ => ?_) (fun c_419 => absurd c_419 (by decide))
                  refine lv_aload_n hx hb dX13_close_132 rfl (lv_at hl 3 rfl) ?_
                  refine lv_iconst (v := 0) hx hb dX13_close_133 (by decide) ?_
                  refine pg_putN (D := D) (ci := 12) (v := .int 0) (ty := .int) (C := RX12) (T := TX12) (N := 51) hx hb hg inG12 tyX12 tyX12_ok nmX12 hown hK hP hD hS hb_15.1 hM_402 rfl 17 (by decide) (hN.use (Cond.fieldLinkNest RX13 256 RX12 "stretches" "I" RX13) 26 rfl rfl) (fun _ h9 => h9) rfl (by decide +kernel) rfl rfl (by rw [hn16]; decide) dX13_close_134 (fun H_420 locs hP hD hS => ?_)
                  have hs_423 : (fs16.set 17 (.int 0))[17]? = some (.int (nI 0)) := List.getElem?_set_self (by rw [hn16]; decide)
                  have hk_422 := fld12_set (k := 17) (w := .int 0) hl16 (show fld12 K L 17 (fs16.set 17 (.int 0)) from ⟨0, hs_423, by omega⟩)
                  have hn_424 : (fs16.set 17 (.int 0)).length = 51 := by rw [List.length_set]; exact hn16
                  have hv_425 : (fs16.set 17 (.int 0))[0]? = some (.int (nI v17)) := by rw [List.getElem?_set_ne (by decide)]; exact hv17
                  have hv_426 : (fs16.set 17 (.int 0))[1]? = some (.int (nI c_28)) := by rw [List.getElem?_set_ne (by decide)]; exact hv18
                  have hv_427 : (fs16.set 17 (.int 0))[11]? = some (.int (nI v19)) := by rw [List.getElem?_set_ne (by decide)]; exact hv19
                  have hv_428 : (fs16.set 17 (.int 0))[12]? = some (.int (nI v20)) := by rw [List.getElem?_set_ne (by decide)]; exact hv20
                  have hv_429 : (fs16.set 17 (.int 0))[13]? = some (.int (nI v21)) := by rw [List.getElem?_set_ne (by decide)]; exact hv21
                  have hv_430 : (fs16.set 17 (.int 0))[37]? = some (.ref v22) := by rw [List.getElem?_set_ne (by decide)]; exact hv22
                  have hb_431 : 0 ≤ 120 := by omega
                  obtain ⟨M_432, eM_432⟩ : ∃ M1 : Hp, M1 = va_up M_400 b13 (.inr (12, fs16.set 17 (.int 0))) := ⟨_, rfl⟩
                  have hV : VW K L M M_432 b13 (va_up (fx M b13) 17 (0 : Int)) (ax M b13) := by rw [eM_432]; exact hV.put hW hb_15 hM_402 hn16 rfl (by decide) rfl (by decide)
                  have hP : va_P D vwCl ([(za, .inr (13, [.int 0, .ref z1, .int (nI z2), .int (nI z3), .int z4, .int z5, .ref z6, .ref z7, .ref z8, .ref z9, .int (nI z10), .ref z11, .ref z12, .ref z13, .ref z14, .ref z15, .int (nI z16), .ref z17, .int z18, .ref z19]))] ++ va_pl L M_432) H_420 := by rw [eM_432]; exact hP
                  have hD : va_D A ([(za, .inr (13, [.int 0, .ref z1, .int (nI z2), .int (nI z3), .int z4, .int z5, .ref z6, .ref z7, .ref z8, .ref z9, .int (nI z10), .ref z11, .ref z12, .ref z13, .ref z14, .ref z15, .int (nI z16), .ref z17, .int z18, .ref z19]))] ++ va_pl L M_432) := by rw [eM_432]; exact hD
                  have hW : WOM cy K L M_432 := by rw [eM_432]; exact hW.up_12 hb_15 ⟨_, rfl, hn_424, hk_422⟩
                  have hF : fr K L [12, 14, 15, 32, 42, 45, 46, 79, 80, 81, 83] M M_432 := by rw [eM_432]; exact hF.up hb_15 (by decide)
                  have hG : fG K L [1, 7, 8, 13, 14, 15, 16, 17, 18] M M_432 := by rw [eM_432]; exact hG.up hM_402 (by decide)
                  have hM_433 : M_432 b13 = .inr (12, fs16.set 17 (.int 0)) := by rw [eM_432]; exact va_up_self _ _ _
                  refine lv_iconst (v := 0) hx hb dX13_close_137 (by decide) ?_
                  refine lv_istore (lv' := [(6, .int 0), (5, .int (-1)), (4, .int (nI c_391)), (3, .int (nI (c_28 + 1))), (2, .ref b13), (0, .ref za), (1, .int k1)]) hx hb dX13_close_138 hl (by decide) rfl (fun ls hl => ?_)
                  have key_434 : ∀ (fu_436 : Nat) (v6w437 : Nat) (M_439 : Hp) (H_440 : Heap) (locs : List Loc) (ls : Array Slot), 24 - v6w437 < fu_436 → M_439 b13 = .inr (12, fs16.set 17 (.int 0)) → v6w437 ≤ 24 → WOM cy K L M_439 → fr K L [12, 14, 15, 32, 42, 45, 46, 79, 80, 81, 83] M M_439 → fG K L [1, 7, 8, 13, 14, 15, 16, 17, 18] M M_439 → VW K L M M_439 b13 (va_up (fx M b13) 17 (0 : Int)) (ax M b13) → va_P D vwCl ([(za, .inr (13, [.int 0, .ref z1, .int (nI z2), .int (nI z3), .int z4, .int z5, .ref z6, .ref z7, .ref z8, .ref z9, .int (nI z10), .ref z11, .ref z12, .ref z13, .ref z14, .ref z15, .int (nI z16), .ref z17, .int z18, .ref z19]))] ++ va_pl L M_439) H_440 → va_D A ([(za, .inr (13, [.int 0, .ref z1, .int (nI z2), .int (nI z3), .int z4, .int z5, .ref z6, .ref z7, .ref z8, .ref z9, .int (nI z10), .ref z11, .ref z12, .ref z13, .ref z14, .ref z15, .int (nI z16), .ref z17, .int z18, .ref z19]))] ++ va_pl L M_439) → va_S A s.heap H_440 locs → lv_has ls 8 [(6, .int (nI v6w437)), (5, .int (-1)), (4, .int (nI c_391)), (3, .int (nI (c_28 + 1))), (2, .ref b13), (0, .ref za), (1, .int k1)] → W p l e R s m ([.ref za, .int k1] : List Value).toArray below meth c H_440 locs 0 0 Q (F0 m 140 ls []) := by
                    intro fu_436
                    induction fu_436 with
                    | zero => intro v6w437 M_439 H_440 locs ls h; exact absurd h (Nat.not_lt_zero _)
                    | succ fu_436 ih_435 =>
                      intro v6w437 M_439 H_440 locs ls hfu hM_441 hx_438 hW hF hG hV hP hD hS hl
                      refine lv_iload hx hb dX13_close_140 (lv_at hl 0 rfl) ?_
                      refine lv_bipush (v := 24) hx hb dX13_close_142 (by decide) ?_
                      refine lv_icmp_ge (tgt := 161) hx hb dX13_close_144 (by decide) (fun c_442 => ?_) (fun c_442 => ?_)
                      · have hz := rfl (a := 0)
                        have n_443 : 24 ≤ v6w437 := (iLE (a := 24) (b := v6w437) (by omega) (by omega)).mp c_442
                        refine lv_iload_n hx hb dX13_close_161 rfl (lv_at hl 3 rfl) ?_
                        refine lv_istore (lv' := [(6, .int (nI (c_28 + 1))), (5, .int (-1)), (4, .int (nI c_391)), (3, .int (nI (c_28 + 1))), (2, .ref b13), (0, .ref za), (1, .int k1)]) hx hb dX13_close_162 hl (by decide) rfl (fun ls hl => ?_)
                        have key_444 : ∀ (fu_446 : Nat) (v6w447 : Nat) (gnw447 : Nat) (gpw447 : Nat → Int32) (gqw447 : Nat → Int32) (M_450 : Hp) (H_451 : Heap) (locs : List Loc) (ls : Array Slot), 1001 - v6w447 < fu_446 → v6w447 ≤ c_391 + 1 → SD (c_28 + 1) gnw447 v6w447 gpw447 gqw447 → WOM cy K L M_450 → fr K L [12, 14, 15, 32, 42, 45, 46, 79, 80, 81, 83] M M_450 → fG K L [1, 7, 8, 13, 14, 15, 16, 17, 18] M M_450 → VW K L M M_450 b13 (va_up (fx M b13) 17 ((gnw447 : Nat) : Int)) (va_up (va_up (ax M b13) 44 gpw447) 45 gqw447) → va_P D vwCl ([(za, .inr (13, [.int 0, .ref z1, .int (nI z2), .int (nI z3), .int z4, .int z5, .ref z6, .ref z7, .ref z8, .ref z9, .int (nI z10), .ref z11, .ref z12, .ref z13, .ref z14, .ref z15, .int (nI z16), .ref z17, .int z18, .ref z19]))] ++ va_pl L M_450) H_451 → va_D A ([(za, .inr (13, [.int 0, .ref z1, .int (nI z2), .int (nI z3), .int z4, .int z5, .ref z6, .ref z7, .ref z8, .ref z9, .int (nI z10), .ref z11, .ref z12, .ref z13, .ref z14, .ref z15, .int (nI z16), .ref z17, .int z18, .ref z19]))] ++ va_pl L M_450) → va_S A s.heap H_451 locs → lv_has ls 8 [(6, .int (nI v6w447)), (5, .int (-1)), (4, .int (nI c_391)), (3, .int (nI (c_28 + 1))), (2, .ref b13), (0, .ref za), (1, .int k1)] → W p l e R s m ([.ref za, .int k1] : List Value).toArray below meth c H_451 locs 0 0 Q (F0 m 164 ls []) := by
                          intro fu_446
                          induction fu_446 with
                          | zero => intro v6w447 gnw447 gpw447 gqw447 M_450 H_451 locs ls h; exact absurd h (Nat.not_lt_zero _)
                          | succ fu_446 ih_445 =>
                            intro v6w447 gnw447 gpw447 gqw447 M_450 H_451 locs ls hfu hx_448 hx_449 hW hF hG hV hP hD hS hl
                            refine lv_iload hx hb dX13_close_164 (lv_at hl 0 rfl) ?_
                            refine lv_iload hx hb dX13_close_166 (lv_at hl 2 rfl) ?_
                            refine lv_icmp_gt (tgt := 238) hx hb dX13_close_168 (by decide) (fun c_452 => ?_) (fun c_452 => ?_)
                            · have hz := rfl (a := 0)
                              have n_453 : c_391 < v6w447 := (iLT (a := c_391) (b := v6w447) (by omega) (by omega)).mp c_452
                              obtain ⟨fs454, hM454, hn454, hl454⟩ := hW.open_12 hb_15
                              obtain ⟨v455, hv455, hc455⟩ : ∃ v : Nat, fs454[17]? = some (.int (nI v) : Value) ∧ v ≤ 120 := hl454 17 (by decide)
                              have hx17 : ((gnw447 : Nat) : Int) = ((v455 : Nat) : Int) := (congrFun hV.2.1 17).symm.trans ((fx_of hM454 rfl hv455).trans (nI_toInt (by omega)))
                              have hSD := hx_449
                              obtain ⟨hs1, hs2, hs3, hs4⟩ := hx_449
                              have hNn : 1 ≤ gnw447 ∧ 1 ≤ (gqw447 0).toInt := by rcases hs3 with q | q <;> first | exact q | omega
                              have hN1 := hNn.1
                              have hs45 := hNn.2
                              refine lv_aload_n hx hb dX13_close_238 rfl (lv_at hl 4 rfl) ?_
                              refine pg_getN (D := D) (ci := 12) (v := .int (nI v455)) (C := RX12) (T := TX12) (N := 51) hx hb hg inG12 hown hK hP hb_15.1 hM454 rfl 17 (by decide) (hN.use (Cond.fieldLinkNest RX13 256 RX12 "stretches" "I" RX13) 26 rfl rfl) (fun _ h9 => h9) hv455 dX13_close_239 ?_
                              refine lv_istore (lv' := [(6, .int (nI v455)), (5, .int (-1)), (4, .int (nI c_391)), (3, .int (nI (c_28 + 1))), (2, .ref b13), (0, .ref za), (1, .int k1)]) hx hb dX13_close_242 hl (by decide) rfl (fun ls hl => ?_)
                              refine lv_aload_n hx hb dX13_close_244 rfl (lv_at hl 5 rfl) ?_
                              refine lv_aload_n hx hb dX13_close_245 rfl (lv_at hl 4 rfl) ?_
                              refine lv_iload hx hb dX13_close_246 (lv_at hl 0 rfl) ?_
                              have hPc : va_P D vwCl ([(za, .inr (13, [.int 0, .ref z1, .int (nI z2), .int (nI z3), .int z4, .int z5, .ref z6, .ref z7, .ref z8, .ref z9, .int (nI z10), .ref z11, .ref z12, .ref z13, .ref z14, .ref z15, .int (nI z16), .ref z17, .int z18, .ref z19]))] ++ va_pl L M_450) H_451 := hP
                              have hDc : va_D A ([(za, .inr (13, [.int 0, .ref z1, .int (nI z2), .int (nI z3), .int z4, .int z5, .ref z6, .ref z7, .ref z8, .ref z9, .int (nI z10), .ref z11, .ref z12, .ref z13, .ref z14, .ref z15, .int (nI z16), .ref z17, .int z18, .ref z19]))] ++ va_pl L M_450) := hD
                              have hFc : ∀ q, va_A ([(za, .inr (13, [.int 0, .ref z1, .int (nI z2), .int (nI z3), .int z4, .int z5, .ref z6, .ref z7, .ref z8, .ref z9, .int (nI z10), .ref z11, .ref z12, .ref z13, .ref z14, .ref z15, .int (nI z16), .ref z17, .int z18, .ref z19]))] ++ va_pl L M_450) H_451.size q → A q := pg_free hDc hS hA
                              refine va_callv (va_runV (As := [.ref b13, .int (nI v455)]) (rest := []) ⟨hx, hb, hml, hown, hg⟩ (g_X13_looses l D cy K L M_450 H_451.size za 0 z1 z2 z3 z4 z5 z6 z7 z8 z9 z10 z11 z12 z13 z14 z15 z16 z17 z18 z19 b13 v455  hW i1 b2 b3 i6 i7 i8 i9 b10 i11 i12 i13 i14 i15 b16 i17 i19 hb_15 (by omega) hV.2.2.2 (by omega) (by rw [hV.2.2.1]; exact hs45)) (cwV 2 hg (gV wd_857 wd_858 wd_859 wd_717 wd_860) rfl rfl rfl (by decide +kernel) ⟨(Nat.le_trans (Nat.le_of_ble_eq_true rfl) hRf), (Nat.le_trans (Nat.le_of_ble_eq_true rfl) hRl)⟩) ⟨PG.blind, va_recv hK hP (ci := 13) (q0 := 0) rfl rfl, fun U hU hW => ⟨rfl, PG.at hPc hK hDc hN hU hW⟩⟩ rfl rfl hl.1 rfl (lv_room (Nat.le_of_ble_eq_true rfl)) dX13_close_248 ⟨(Nat.le_trans (Nat.le_of_ble_eq_true rfl) hRc), (Nat.le_trans (Nat.le_of_ble_eq_true rfl) hRs)⟩) hS (fun q _ h => hFc q h) hFc (fun M_458 t H_456 locs ht hvm hw hB hz1 hk1 hS => ?_)
                              have hWb := hW
                              obtain ⟨hW, hF2, hG2, hp_459⟩ := hw
                              obtain ⟨hP1, hD1⟩ := hB
                              rw [ht] at hP1
                              have hP : va_P D vwCl ([(za, .inr (13, [.int 0, .ref z1, .int (nI z2), .int (nI z3), .int z4, .int z5, .ref z6, .ref z7, .ref z8, .ref z9, .int (nI z10), .ref z11, .ref z12, .ref z13, .ref z14, .ref z15, .int (nI z16), .ref z17, .int z18, .ref z19]))] ++ va_pl L M_458) H_456 := hP1
                              have hD : va_D A ([(za, .inr (13, [.int 0, .ref z1, .int (nI z2), .int (nI z3), .int z4, .int z5, .ref z6, .ref z7, .ref z8, .ref z9, .int (nI z10), .ref z11, .ref z12, .ref z13, .ref z14, .ref z15, .int (nI z16), .ref z17, .int z18, .ref z19]))] ++ va_pl L M_458) := hD1.mono hFc
                              have hM_460 : M_458 b13 = .inr (12, fs454) := (hF2.at hb_15 (by decide)).trans hM454
                              have hF : fr K L [12, 14, 15, 32, 42, 45, 46, 79, 80, 81, 83] M M_458 := hF.tr hF2 (by decide)
                              have hG : fG K L [1, 7, 8, 13, 14, 15, 16, 17, 18] M M_458 := hG.tr hWb hG2 (by decide)
                              have hV : VW K L M M_458 b13 (va_up (fx M b13) 17 ((gnw447 : Nat) : Int)) (va_up (va_up (ax M b13) 44 gpw447) 45 gqw447) := hV.cal hWb hW hF2 hG2 (by decide) (by decide) hb_15
                              refine lv_iconst (v := 0) hx hb dX13_close_251 (by decide) ?_
                              refine lv_istore (lv' := [(7, .int 0), (6, .int (nI v455)), (5, .int (-1)), (4, .int (nI c_391)), (3, .int (nI (c_28 + 1))), (2, .ref b13), (0, .ref za), (1, .int k1)]) hx hb dX13_close_252 hl (by decide) rfl (fun ls hl => ?_)
                              have key_461 : ∀ (fu_463 : Nat) (v7w464 : Nat) (zgw464 : Nat) (M_467 : Hp) (H_468 : Heap) (locs : List Loc) (ls : Array Slot), 1001 - v7w464 < fu_463 → v7w464 ≤ v455 → zgw464 ≤ 24 → WOM cy K L M_467 → fr K L [12, 14, 15, 32, 42, 45, 46, 79, 80, 81, 83] M M_467 → fG K L [1, 7, 8, 13, 14, 15, 16, 17, 18] M M_467 → VW K L M M_467 b13 (va_up (fx M b13) 17 ((gnw447 : Nat) : Int)) (va_up (va_up (ax M b13) 44 gpw447) 45 gqw447) → va_P D vwCl ([(za, .inr (13, [.int 0, .ref z1, .int (nI z2), .int (nI z3), .int z4, .int z5, .ref z6, .ref z7, .ref z8, .ref z9, .int (nI z10), .ref z11, .ref z12, .ref z13, .ref z14, .ref z15, .int (nI zgw464), .ref z17, .int z18, .ref z19]))] ++ va_pl L M_467) H_468 → va_D A ([(za, .inr (13, [.int 0, .ref z1, .int (nI z2), .int (nI z3), .int z4, .int z5, .ref z6, .ref z7, .ref z8, .ref z9, .int (nI z10), .ref z11, .ref z12, .ref z13, .ref z14, .ref z15, .int (nI zgw464), .ref z17, .int z18, .ref z19]))] ++ va_pl L M_467) → va_S A s.heap H_468 locs → lv_has ls 8 [(7, .int (nI v7w464)), (6, .int (nI v455)), (5, .int (-1)), (4, .int (nI c_391)), (3, .int (nI (c_28 + 1))), (2, .ref b13), (0, .ref za), (1, .int k1)] → W p l e R s m ([.ref za, .int k1] : List Value).toArray below meth c H_468 locs 0 0 Q (F0 m 254 ls []) := by
                                intro fu_463
                                induction fu_463 with
                                | zero => intro v7w464 zgw464 M_467 H_468 locs ls h; exact absurd h (Nat.not_lt_zero _)
                                | succ fu_463 ih_462 =>
                                  intro v7w464 zgw464 M_467 H_468 locs ls hfu hx_465 hx_466 hW hF hG hV hP hD hS hl
                                  refine lv_iload hx hb dX13_close_254 (lv_at hl 0 rfl) ?_
                                  refine lv_iload hx hb dX13_close_256 (lv_at hl 1 rfl) ?_
                                  refine lv_icmp_ge (tgt := 275) hx hb dX13_close_258 (by decide) (fun c_469 => ?_) (fun c_469 => ?_)
                                  · have hz := rfl (a := 0)
                                    have n_470 : v455 ≤ v7w464 := (iLE (a := v455) (b := v7w464) (by omega) (by omega)).mp c_469
                                    refine lv_iconst (v := 0) hx hb dX13_close_275 (by decide) ?_
                                    refine lv_istore (lv' := [(7, .int 0), (6, .int (nI v455)), (5, .int (-1)), (4, .int (nI c_391)), (3, .int (nI (c_28 + 1))), (2, .ref b13), (0, .ref za), (1, .int k1)]) hx hb dX13_close_276 hl (by decide) rfl (fun ls hl => ?_)
                                    have key_471 : ∀ (fu_473 : Nat) (v7w474 : Nat) (zgw474 : Nat) (gnw474 : Nat) (gpw474 : Nat → Int32) (gqw474 : Nat → Int32) (M_478 : Hp) (H_479 : Heap) (locs : List Loc) (ls : Array Slot), 24 - v7w474 < fu_473 → v7w474 ≤ 20 → zgw474 ≤ 24 → gnw474 ≤ 100 + v7w474 → WOM cy K L M_478 → fr K L [12, 14, 15, 32, 42, 45, 46, 79, 80, 81, 83] M M_478 → fG K L [1, 7, 8, 13, 14, 15, 16, 17, 18] M M_478 → VW K L M M_478 b13 (va_up (fx M b13) 17 ((gnw474 : Nat) : Int)) (va_up (va_up (ax M b13) 44 gpw474) 45 gqw474) → va_P D vwCl ([(za, .inr (13, [.int 0, .ref z1, .int (nI z2), .int (nI z3), .int z4, .int z5, .ref z6, .ref z7, .ref z8, .ref z9, .int (nI z10), .ref z11, .ref z12, .ref z13, .ref z14, .ref z15, .int (nI zgw474), .ref z17, .int z18, .ref z19]))] ++ va_pl L M_478) H_479 → va_D A ([(za, .inr (13, [.int 0, .ref z1, .int (nI z2), .int (nI z3), .int z4, .int z5, .ref z6, .ref z7, .ref z8, .ref z9, .int (nI z10), .ref z11, .ref z12, .ref z13, .ref z14, .ref z15, .int (nI zgw474), .ref z17, .int z18, .ref z19]))] ++ va_pl L M_478) → va_S A s.heap H_479 locs → lv_has ls 8 [(7, .int (nI v7w474)), (6, .int (nI v455)), (5, .int (-1)), (4, .int (nI c_391)), (3, .int (nI (c_28 + 1))), (2, .ref b13), (0, .ref za), (1, .int k1)] → W p l e R s m ([.ref za, .int k1] : List Value).toArray below meth c H_479 locs 0 0 Q (F0 m 278 ls []) := by
                                      intro fu_473
                                      induction fu_473 with
                                      | zero => intro v7w474 zgw474 gnw474 gpw474 gqw474 M_478 H_479 locs ls h; exact absurd h (Nat.not_lt_zero _)
                                      | succ fu_473 ih_472 =>
                                        intro v7w474 zgw474 gnw474 gpw474 gqw474 M_478 H_479 locs ls hfu hx_475 hx_476 hx_477 hW hF hG hV hP hD hS hl
                                        refine lv_iload hx hb dX13_close_278 (lv_at hl 0 rfl) ?_
                                        refine lv_aload_n hx hb dX13_close_280 rfl (lv_at hl 5 rfl) ?_
                                        obtain ⟨fs480, hM480, hn480, hl480⟩ := hW.open_12 hb_15
                                        obtain ⟨v481, hv481, hc481⟩ : ∃ v : Nat, fs480[15]? = some (.int (nI v) : Value) ∧ v ≤ 20 := hl480 15 (by decide)
                                        refine pg_getN (D := D) (ci := 12) (v := .int (nI v481)) (C := RX12) (T := TX12) (N := 51) hx hb hg inG12 hown hK hP hb_15.1 hM480 rfl 15 (by decide) (hN.use (Cond.fieldLinkNest RX13 279 RX12 "mends" "I" RX13) 24 rfl rfl) (fun _ h9 => h9) hv481 dX13_close_281 ?_
                                        refine lv_icmp_ge (tgt := 300) hx hb dX13_close_284 (by decide) (fun c_482 => ?_) (fun c_482 => ?_)
                                        · have hz := rfl (a := 0)
                                          have n_483 : v481 ≤ v7w474 := (iLE (a := v481) (b := v7w474) (by omega) (by omega)).mp c_482
                                          refine lv_aload_n hx hb dX13_close_300 rfl (lv_at hl 5 rfl) ?_
                                          refine lv_iload_n hx hb dX13_close_301 rfl (lv_at hl 4 rfl) ?_
                                          refine lv_iload hx hb dX13_close_302 (lv_at hl 3 rfl) ?_
                                          have hPc : va_P D vwCl ([] ++ va_pl L M_478) H_479 := hP.part (cx := []) [] rfl
                                          have hDc : va_D A ([] ++ va_pl L M_478) := hD.part (cx := []) [] (by decide) rfl
                                          have hFc : ∀ q, va_A ([] ++ va_pl L M_478) H_479.size q → A q := pg_free hDc hS hA
                                          refine va_callv (va_runS (As := [.ref b13, .int (nI (c_28 + 1)), .int (nI c_391)]) (rest := []) ⟨hx, hb, hml, hown, hg⟩ (r_settled2 l D cy K L M_478 H_479.size b13 (nI (c_28 + 1)) (nI c_391)  hW hb_15 hV.2.2.2) (va_cwS 3 hg (gS wd_861 wd_862 wd_717 wd_863) rfl rfl rfl (by decide +kernel) ⟨(Nat.le_trans (Nat.le_of_ble_eq_true rfl) hRf), (Nat.le_trans (Nat.le_of_ble_eq_true rfl) hRl)⟩) ⟨PG.blind, fun U hU hW => ⟨rfl, PG.at hPc hK hDc hN hU hW⟩⟩ rfl rfl hl.1 rfl (lv_room (Nat.le_of_ble_eq_true rfl)) dX13_close_304 ⟨(Nat.le_trans (Nat.le_of_ble_eq_true rfl) hRc), (Nat.le_trans (Nat.le_of_ble_eq_true rfl) hRs)⟩) hS (fun q _ h => hFc q h) hFc (fun M_486 t H_484 locs ht hvm hw hB hz1 hk1 hS => ?_)
                                          have hWb := hW
                                          obtain ⟨hW, hF2, hG2, hVP, hp_487⟩ := hw
                                          obtain ⟨hP1, hD1⟩ := hB
                                          rw [ht] at hP1
                                          obtain ⟨hP, hD⟩ := va_joinP (X := [(za, .inr (13, [.int 0, .ref z1, .int (nI z2), .int (nI z3), .int z4, .int z5, .ref z6, .ref z7, .ref z8, .ref z9, .int (nI z10), .ref z11, .ref z12, .ref z13, .ref z14, .ref z15, .int (nI zgw474), .ref z17, .int z18, .ref z19]))]) (cx := []) (wr := [(za, .inr (13, [.int 0, .ref z1, .int (nI z2), .int (nI z3), .int z4, .int z5, .ref z6, .ref z7, .ref z8, .ref z9, .int (nI z10), .ref z11, .ref z12, .ref z13, .ref z14, .ref z15, .int (nI zgw474), .ref z17, .int z18, .ref z19]))]) (rx := []) (pl := va_pl L M_478) (pl1 := va_pl L M_486) hP hD [] [0] rfl rfl (by decide) (by decide) hk1 hFc hP1 hD1
                                          have hP : va_P D vwCl ([(za, .inr (13, [.int 0, .ref z1, .int (nI z2), .int (nI z3), .int z4, .int z5, .ref z6, .ref z7, .ref z8, .ref z9, .int (nI z10), .ref z11, .ref z12, .ref z13, .ref z14, .ref z15, .int (nI zgw474), .ref z17, .int z18, .ref z19]))] ++ va_pl L M_486) H_484 := hP
                                          have hD : va_D A ([(za, .inr (13, [.int 0, .ref z1, .int (nI z2), .int (nI z3), .int z4, .int z5, .ref z6, .ref z7, .ref z8, .ref z9, .int (nI z10), .ref z11, .ref z12, .ref z13, .ref z14, .ref z15, .int (nI zgw474), .ref z17, .int z18, .ref z19]))] ++ va_pl L M_486) := hD
                                          obtain ⟨fs488, hM488, hn488, hl488⟩ := hW.open_12 hb_15
                                          have hv_489 : fs488[15]? = some (.int (nI v481) : Value) := (hG2 _ hb_15 _ _ hM480 hM488 15 (by decide)).trans hv481
                                          have hF : fr K L [12, 14, 15, 32, 42, 45, 46, 79, 80, 81, 83] M M_486 := hF.tr hF2 (by decide)
                                          have hG : fG K L [1, 7, 8, 13, 14, 15, 16, 17, 18] M M_486 := hG.tr hWb hG2 (by decide)
                                          obtain ⟨n_490, p_491, q_492, r_493, n_494, h8, hle8, htr8, hV2⟩ := hVP
                                          rw [hV.2.1] at h8
                                          rw [hV.2.2.1] at htr8
                                          rw [hV.2.1, hV.2.2.1] at hV2
                                          have hn14 : (0 : Int) ≤ ((n_490 : Nat) : Int) := by omega
                                          have hV : VW K L M M_486 b13 (va_up (va_up (fx M b13) 17 ((gnw474 : Nat) : Int)) 14 ((n_490 : Nat) : Int)) (va_up (va_up (va_up (va_up (va_up (ax M b13) 44 gpw474) 45 gqw474) 38 p_491) 39 q_492) 40 r_493) := hV.tr hV2
                                          have h8s : fx M b13 14 = ((n_494 : Nat) : Int) := h8
                                          refine lv_aload_n hx hb dX13_close_307 rfl (lv_at hl 5 rfl) ?_
                                          refine lv_lconst (v := 0) hx hb dX13_close_308 (by decide) ?_
                                          refine pg_putN (D := D) (ci := 12) (v := .long 0) (ty := .long) (C := RX12) (T := TX12) (N := 51) hx hb hg inG12 tyX12 tyX12_ok nmX12 hown hK hP hD hS hb_15.1 hM488 rfl 7 (by decide) (hN.use (Cond.fieldLinkNest RX13 179 RX12 "loose" "J" RX13) 16 rfl rfl) (fun _ h9 => h9) rfl (by decide +kernel) rfl rfl (by rw [hn488]; decide) dX13_close_309 (fun H_495 locs hP hD hS => ?_)
                                          have hs_498 : (fs488.set 7 (.long 0))[7]? = some (.long 0) := List.getElem?_set_self (by rw [hn488]; decide)
                                          have hk_497 := fld12_set (k := 7) (w := .long 0) hl488 (show fld12 K L 7 (fs488.set 7 (.long 0)) from ⟨0, hs_498⟩)
                                          have hn_499 : (fs488.set 7 (.long 0)).length = 51 := by rw [List.length_set]; exact hn488
                                          have hv_500 : (fs488.set 7 (.long 0))[15]? = some (.int (nI v481)) := by rw [List.getElem?_set_ne (by decide)]; exact hv_489
                                          obtain ⟨M_501, eM_501⟩ : ∃ M1 : Hp, M1 = va_up M_486 b13 (.inr (12, fs488.set 7 (.long 0))) := ⟨_, rfl⟩
                                          have hV : VW K L M M_501 b13 (va_up (va_up (fx M b13) 17 ((gnw474 : Nat) : Int)) 14 ((n_490 : Nat) : Int)) (va_up (va_up (va_up (va_up (va_up (ax M b13) 44 gpw474) 45 gqw474) 38 p_491) 39 q_492) 40 r_493) := by rw [eM_501]; exact hV.put0 hW hb_15 hM488 rfl rfl
                                          have hP : va_P D vwCl ([(za, .inr (13, [.int 0, .ref z1, .int (nI z2), .int (nI z3), .int z4, .int z5, .ref z6, .ref z7, .ref z8, .ref z9, .int (nI z10), .ref z11, .ref z12, .ref z13, .ref z14, .ref z15, .int (nI zgw474), .ref z17, .int z18, .ref z19]))] ++ va_pl L M_501) H_495 := by rw [eM_501]; exact hP
                                          have hD : va_D A ([(za, .inr (13, [.int 0, .ref z1, .int (nI z2), .int (nI z3), .int z4, .int z5, .ref z6, .ref z7, .ref z8, .ref z9, .int (nI z10), .ref z11, .ref z12, .ref z13, .ref z14, .ref z15, .int (nI zgw474), .ref z17, .int z18, .ref z19]))] ++ va_pl L M_501) := by rw [eM_501]; exact hD
                                          have hW : WOM cy K L M_501 := by rw [eM_501]; exact hW.up_12 hb_15 ⟨_, rfl, hn_499, hk_497⟩
                                          have hF : fr K L [12, 14, 15, 32, 42, 45, 46, 79, 80, 81, 83] M M_501 := by rw [eM_501]; exact hF.up hb_15 (by decide)
                                          have hG : fG K L [1, 7, 8, 13, 14, 15, 16, 17, 18] M M_501 := by rw [eM_501]; exact hG.up hM488 (by decide)
                                          have hM_502 : M_501 b13 = .inr (12, fs488.set 7 (.long 0)) := by rw [eM_501]; exact va_up_self _ _ _
                                          refine lv_aload_n hx hb dX13_close_312 rfl (lv_at hl 5 rfl) ?_
                                          refine lv_iconst (v := 0) hx hb dX13_close_313 (by decide) ?_
                                          refine pg_putN (D := D) (ci := 12) (v := .int 0) (ty := .int) (C := RX12) (T := TX12) (N := 51) hx hb hg inG12 tyX12 tyX12_ok nmX12 hown hK hP hD hS hb_15.1 hM_502 rfl 15 (by decide) (hN.use (Cond.fieldLinkNest RX13 279 RX12 "mends" "I" RX13) 24 rfl rfl) (fun _ h9 => h9) rfl (by decide +kernel) rfl rfl (by rw [hn_499]; decide) dX13_close_314 (fun H_503 locs hP hD hS => ?_)
                                          have hs_506 : ((fs488.set 7 (.long 0)).set 15 (.int 0))[15]? = some (.int (nI 0)) := List.getElem?_set_self (by rw [hn_499]; decide)
                                          have hk_505 := fld12_set (k := 15) (w := .int 0) hk_497 (show fld12 K L 15 ((fs488.set 7 (.long 0)).set 15 (.int 0)) from ⟨0, hs_506, by omega⟩)
                                          have hn_507 : ((fs488.set 7 (.long 0)).set 15 (.int 0)).length = 51 := by rw [List.length_set]; exact hn_499
                                          have hv_508 : ((fs488.set 7 (.long 0)).set 15 (.int 0))[7]? = some (.long 0) := by rw [List.getElem?_set_ne (by decide)]; exact hs_498
                                          have hb_509 : 0 ≤ 20 := by omega
                                          obtain ⟨M_510, eM_510⟩ : ∃ M1 : Hp, M1 = va_up M_501 b13 (.inr (12, (fs488.set 7 (.long 0)).set 15 (.int 0))) := ⟨_, rfl⟩
                                          have hx15 : (fx M b13 15) = ((v481 : Nat) : Int) := (congrFun hV.2.1 15).symm.trans ((fx_of hM_502 rfl hv_500).trans (nI_toInt (by omega)))
                                          have hV : VW K L M M_510 b13 (va_up (va_up (va_up (fx M b13) 17 ((gnw474 : Nat) : Int)) 14 ((n_490 : Nat) : Int)) 15 (0 : Int)) (va_up (va_up (va_up (va_up (va_up (ax M b13) 44 gpw474) 45 gqw474) 38 p_491) 39 q_492) 40 r_493) := by rw [eM_510]; exact hV.put hW hb_15 hM_502 hn_499 rfl (by decide) rfl (by decide)
                                          have hP : va_P D vwCl ([(za, .inr (13, [.int 0, .ref z1, .int (nI z2), .int (nI z3), .int z4, .int z5, .ref z6, .ref z7, .ref z8, .ref z9, .int (nI z10), .ref z11, .ref z12, .ref z13, .ref z14, .ref z15, .int (nI zgw474), .ref z17, .int z18, .ref z19]))] ++ va_pl L M_510) H_503 := by rw [eM_510]; exact hP
                                          have hD : va_D A ([(za, .inr (13, [.int 0, .ref z1, .int (nI z2), .int (nI z3), .int z4, .int z5, .ref z6, .ref z7, .ref z8, .ref z9, .int (nI z10), .ref z11, .ref z12, .ref z13, .ref z14, .ref z15, .int (nI zgw474), .ref z17, .int z18, .ref z19]))] ++ va_pl L M_510) := by rw [eM_510]; exact hD
                                          have hW : WOM cy K L M_510 := by rw [eM_510]; exact hW.up_12 hb_15 ⟨_, rfl, hn_507, hk_505⟩
                                          have hF : fr K L [12, 14, 15, 32, 42, 45, 46, 79, 80, 81, 83] M M_510 := by rw [eM_510]; exact hF.up hb_15 (by decide)
                                          have hG : fG K L [1, 7, 8, 13, 14, 15, 16, 17, 18] M M_510 := by rw [eM_510]; exact hG.up hM_502 (by decide)
                                          have hM_511 : M_510 b13 = .inr (12, (fs488.set 7 (.long 0)).set 15 (.int 0)) := by rw [eM_510]; exact va_up_self _ _ _
                                          refine lv_aload_n hx hb dX13_close_317 rfl (lv_at hl 5 rfl) ?_
                                          refine lv_iconst (v := 0) hx hb dX13_close_318 (by decide) ?_
                                          refine pg_putN (D := D) (ci := 12) (v := .int 0) (ty := .int) (C := RX12) (T := TX12) (N := 51) hx hb hg inG12 tyX12 tyX12_ok nmX12 hown hK hP hD hS hb_15.1 hM_511 rfl 16 (by decide) (hN.use (Cond.fieldLinkNest RX13 161 RX12 "undone" "I" RX13) 25 rfl rfl) (fun _ h9 => h9) rfl (by decide +kernel) rfl rfl (by rw [hn_507]; decide) dX13_close_319 (fun H_512 locs hP hD hS => ?_)
                                          have hs_515 : (((fs488.set 7 (.long 0)).set 15 (.int 0)).set 16 (.int 0))[16]? = some (.int (nI 0)) := List.getElem?_set_self (by rw [hn_507]; decide)
                                          have hk_514 := fld12_set (k := 16) (w := .int 0) hk_505 (show fld12 K L 16 (((fs488.set 7 (.long 0)).set 15 (.int 0)).set 16 (.int 0)) from ⟨0, hs_515, by omega⟩)
                                          have hn_516 : (((fs488.set 7 (.long 0)).set 15 (.int 0)).set 16 (.int 0)).length = 51 := by rw [List.length_set]; exact hn_507
                                          have hv_517 : (((fs488.set 7 (.long 0)).set 15 (.int 0)).set 16 (.int 0))[7]? = some (.long 0) := by rw [List.getElem?_set_ne (by decide)]; exact hv_508
                                          have hv_518 : (((fs488.set 7 (.long 0)).set 15 (.int 0)).set 16 (.int 0))[15]? = some (.int (nI 0)) := by rw [List.getElem?_set_ne (by decide)]; exact hs_506
                                          have hb_519 : 0 ≤ 60 := by omega
                                          obtain ⟨M_520, eM_520⟩ : ∃ M1 : Hp, M1 = va_up M_510 b13 (.inr (12, ((fs488.set 7 (.long 0)).set 15 (.int 0)).set 16 (.int 0))) := ⟨_, rfl⟩
                                          have hV : VW K L M M_520 b13 (va_up (va_up (va_up (va_up (fx M b13) 17 ((gnw474 : Nat) : Int)) 14 ((n_490 : Nat) : Int)) 15 (0 : Int)) 16 (0 : Int)) (va_up (va_up (va_up (va_up (va_up (ax M b13) 44 gpw474) 45 gqw474) 38 p_491) 39 q_492) 40 r_493) := by rw [eM_520]; exact hV.put hW hb_15 hM_511 hn_507 rfl (by decide) rfl (by decide)
                                          have hP : va_P D vwCl ([(za, .inr (13, [.int 0, .ref z1, .int (nI z2), .int (nI z3), .int z4, .int z5, .ref z6, .ref z7, .ref z8, .ref z9, .int (nI z10), .ref z11, .ref z12, .ref z13, .ref z14, .ref z15, .int (nI zgw474), .ref z17, .int z18, .ref z19]))] ++ va_pl L M_520) H_512 := by rw [eM_520]; exact hP
                                          have hD : va_D A ([(za, .inr (13, [.int 0, .ref z1, .int (nI z2), .int (nI z3), .int z4, .int z5, .ref z6, .ref z7, .ref z8, .ref z9, .int (nI z10), .ref z11, .ref z12, .ref z13, .ref z14, .ref z15, .int (nI zgw474), .ref z17, .int z18, .ref z19]))] ++ va_pl L M_520) := by rw [eM_520]; exact hD
                                          have hW : WOM cy K L M_520 := by rw [eM_520]; exact hW.up_12 hb_15 ⟨_, rfl, hn_516, hk_514⟩
                                          have hF : fr K L [12, 14, 15, 32, 42, 45, 46, 79, 80, 81, 83] M M_520 := by rw [eM_520]; exact hF.up hb_15 (by decide)
                                          have hG : fG K L [1, 7, 8, 13, 14, 15, 16, 17, 18] M M_520 := by rw [eM_520]; exact hG.up hM_511 (by decide)
                                          have hM_521 : M_520 b13 = .inr (12, ((fs488.set 7 (.long 0)).set 15 (.int 0)).set 16 (.int 0)) := by rw [eM_520]; exact va_up_self _ _ _
                                          refine lv_aload_n hx hb dX13_close_322 rfl (lv_at hl 5 rfl) ?_
                                          refine lv_iload hx hb dX13_close_323 (lv_at hl 3 rfl) ?_
                                          refine pg_putN (D := D) (ci := 12) (v := .int (nI c_391)) (ty := .int) (C := RX12) (T := TX12) (N := 51) hx hb hg inG12 tyX12 tyX12_ok nmX12 hown hK hP hD hS hb_15.1 hM_521 rfl 1 (by decide) (hN.use (Cond.fieldLinkNest RX13 80 RX12 "to" "I" RX13) 10 rfl rfl) (fun _ h9 => h9) rfl (by decide +kernel) rfl rfl (by rw [hn_516]; decide) dX13_close_325 (fun H_522 locs hP hD hS => ?_)
                                          have hs_525 : ((((fs488.set 7 (.long 0)).set 15 (.int 0)).set 16 (.int 0)).set 1 (.int (nI c_391)))[1]? = some (.int (nI c_391)) := List.getElem?_set_self (by rw [hn_516]; decide)
                                          have hk_524 := fld12_set (k := 1) (w := .int (nI c_391)) hk_514 (show fld12 K L 1 ((((fs488.set 7 (.long 0)).set 15 (.int 0)).set 16 (.int 0)).set 1 (.int (nI c_391))) from ⟨(nI c_391), hs_525, Or.inr ⟨c_391, by omega, rfl⟩⟩)
                                          have hn_526 : ((((fs488.set 7 (.long 0)).set 15 (.int 0)).set 16 (.int 0)).set 1 (.int (nI c_391))).length = 51 := by rw [List.length_set]; exact hn_516
                                          have hv_527 : ((((fs488.set 7 (.long 0)).set 15 (.int 0)).set 16 (.int 0)).set 1 (.int (nI c_391)))[7]? = some (.long 0) := by rw [List.getElem?_set_ne (by decide)]; exact hv_517
                                          have hv_528 : ((((fs488.set 7 (.long 0)).set 15 (.int 0)).set 16 (.int 0)).set 1 (.int (nI c_391)))[15]? = some (.int (nI 0)) := by rw [List.getElem?_set_ne (by decide)]; exact hv_518
                                          have hv_529 : ((((fs488.set 7 (.long 0)).set 15 (.int 0)).set 16 (.int 0)).set 1 (.int (nI c_391)))[16]? = some (.int (nI 0)) := by rw [List.getElem?_set_ne (by decide)]; exact hs_515
                                          obtain ⟨M_530, eM_530⟩ : ∃ M1 : Hp, M1 = va_up M_520 b13 (.inr (12, (((fs488.set 7 (.long 0)).set 15 (.int 0)).set 16 (.int 0)).set 1 (.int (nI c_391)))) := ⟨_, rfl⟩
                                          have hV : VW K L M M_530 b13 (va_up (va_up (va_up (va_up (va_up (fx M b13) 17 ((gnw474 : Nat) : Int)) 14 ((n_490 : Nat) : Int)) 15 (0 : Int)) 16 (0 : Int)) 1 ((c_391 : Nat) : Int)) (va_up (va_up (va_up (va_up (va_up (ax M b13) 44 gpw474) 45 gqw474) 38 p_491) 39 q_492) 40 r_493) := by rw [eM_530]; exact hV.put hW hb_15 hM_521 hn_516 rfl (by decide) rfl (nI_toInt (by omega))
                                          have hP : va_P D vwCl ([(za, .inr (13, [.int 0, .ref z1, .int (nI z2), .int (nI z3), .int z4, .int z5, .ref z6, .ref z7, .ref z8, .ref z9, .int (nI z10), .ref z11, .ref z12, .ref z13, .ref z14, .ref z15, .int (nI zgw474), .ref z17, .int z18, .ref z19]))] ++ va_pl L M_530) H_522 := by rw [eM_530]; exact hP
                                          have hD : va_D A ([(za, .inr (13, [.int 0, .ref z1, .int (nI z2), .int (nI z3), .int z4, .int z5, .ref z6, .ref z7, .ref z8, .ref z9, .int (nI z10), .ref z11, .ref z12, .ref z13, .ref z14, .ref z15, .int (nI zgw474), .ref z17, .int z18, .ref z19]))] ++ va_pl L M_530) := by rw [eM_530]; exact hD
                                          have hW : WOM cy K L M_530 := by rw [eM_530]; exact hW.up_12 hb_15 ⟨_, rfl, hn_526, hk_524⟩
                                          have hF : fr K L [12, 14, 15, 32, 42, 45, 46, 79, 80, 81, 83] M M_530 := by rw [eM_530]; exact hF.up hb_15 (by decide)
                                          have hG : fG K L [1, 7, 8, 13, 14, 15, 16, 17, 18] M M_530 := by rw [eM_530]; exact hG.up hM_521 (by decide)
                                          have hM_531 : M_530 b13 = .inr (12, (((fs488.set 7 (.long 0)).set 15 (.int 0)).set 16 (.int 0)).set 1 (.int (nI c_391))) := by rw [eM_530]; exact va_up_self _ _ _
                                          refine lv_aload_n hx hb dX13_close_328 rfl (lv_at hl 5 rfl) ?_
                                          refine lv_dup hx hb dX13_close_329 rfl ?_
                                          obtain ⟨v532, hv532, hc532⟩ : ∃ v : Nat, ((((fs488.set 7 (.long 0)).set 15 (.int 0)).set 16 (.int 0)).set 1 (.int (nI c_391)))[13]? = some (.int (nI v) : Value) ∧ v ≤ 12 := hk_524 13 (by decide)
                                          refine pg_getN (D := D) (ci := 12) (v := .int (nI v532)) (C := RX12) (T := TX12) (N := 51) hx hb hg inG12 hown hK hP hb_15.1 hM_531 rfl 13 (by decide) (hN.use (Cond.fieldLinkNest RX13 244 RX12 "closed" "I" RX13) 22 rfl rfl) (fun _ h9 => h9) hv532 dX13_close_330 ?_
                                          have hx13 : (fx M b13 13) = ((v532 : Nat) : Int) := (congrFun hV.2.1 13).symm.trans ((fx_of hM_531 rfl hv532).trans (nI_toInt (by omega)))
                                          refine lv_iconst (v := 1) hx hb dX13_close_333 (by decide) ?_
                                          refine lv_iadd hx hb dX13_close_334 ?_
                                          refine lv_topi (fun f_533 ef_533 => ?_)
                                          obtain rfl : f_533 = (nI (v532 + 1)) := ef_533.trans (nI_add v532 1)
                                          refine pg_putN (D := D) (ci := 12) (v := .int (nI (v532 + 1))) (ty := .int) (C := RX12) (T := TX12) (N := 51) hx hb hg inG12 tyX12 tyX12_ok nmX12 hown hK hP hD hS hb_15.1 hM_531 rfl 13 (by decide) (hN.use (Cond.fieldLinkNest RX13 244 RX12 "closed" "I" RX13) 22 rfl rfl) (fun _ h9 => h9) rfl (by decide +kernel) rfl rfl (by rw [hn_526]; decide) dX13_close_335 (fun H_534 locs hP hD hS => ?_)
                                          have hs_537 : (((((fs488.set 7 (.long 0)).set 15 (.int 0)).set 16 (.int 0)).set 1 (.int (nI c_391))).set 13 (.int (nI (v532 + 1))))[13]? = some (.int (nI (v532 + 1))) := List.getElem?_set_self (by rw [hn_526]; decide)
                                          have hk_536 := fld12_set (k := 13) (w := .int (nI (v532 + 1))) hk_524 (show fld12 K L 13 (((((fs488.set 7 (.long 0)).set 15 (.int 0)).set 16 (.int 0)).set 1 (.int (nI c_391))).set 13 (.int (nI (v532 + 1)))) from ⟨(v532 + 1), hs_537, by omega⟩)
                                          have hn_538 : (((((fs488.set 7 (.long 0)).set 15 (.int 0)).set 16 (.int 0)).set 1 (.int (nI c_391))).set 13 (.int (nI (v532 + 1)))).length = 51 := by rw [List.length_set]; exact hn_526
                                          have hv_539 : (((((fs488.set 7 (.long 0)).set 15 (.int 0)).set 16 (.int 0)).set 1 (.int (nI c_391))).set 13 (.int (nI (v532 + 1))))[7]? = some (.long 0) := by rw [List.getElem?_set_ne (by decide)]; exact hv_527
                                          have hv_540 : (((((fs488.set 7 (.long 0)).set 15 (.int 0)).set 16 (.int 0)).set 1 (.int (nI c_391))).set 13 (.int (nI (v532 + 1))))[15]? = some (.int (nI 0)) := by rw [List.getElem?_set_ne (by decide)]; exact hv_528
                                          have hv_541 : (((((fs488.set 7 (.long 0)).set 15 (.int 0)).set 16 (.int 0)).set 1 (.int (nI c_391))).set 13 (.int (nI (v532 + 1))))[16]? = some (.int (nI 0)) := by rw [List.getElem?_set_ne (by decide)]; exact hv_529
                                          have hv_542 : (((((fs488.set 7 (.long 0)).set 15 (.int 0)).set 16 (.int 0)).set 1 (.int (nI c_391))).set 13 (.int (nI (v532 + 1))))[1]? = some (.int (nI c_391)) := by rw [List.getElem?_set_ne (by decide)]; exact hs_525
                                          have hb_543 : (v532 + 1) ≤ 12 := by omega
                                          obtain ⟨M_544, eM_544⟩ : ∃ M1 : Hp, M1 = va_up M_530 b13 (.inr (12, ((((fs488.set 7 (.long 0)).set 15 (.int 0)).set 16 (.int 0)).set 1 (.int (nI c_391))).set 13 (.int (nI (v532 + 1))))) := ⟨_, rfl⟩
                                          have hx13 : (fx M b13 13) = ((v532 : Nat) : Int) := (congrFun hV.2.1 13).symm.trans ((fx_of hM_531 rfl hv532).trans (nI_toInt (by omega)))
                                          have hV : VW K L M M_544 b13 (va_up (va_up (va_up (va_up (va_up (va_up (fx M b13) 17 ((gnw474 : Nat) : Int)) 14 ((n_490 : Nat) : Int)) 15 (0 : Int)) 16 (0 : Int)) 1 ((c_391 : Nat) : Int)) 13 (((v532 + 1) : Nat) : Int)) (va_up (va_up (va_up (va_up (va_up (ax M b13) 44 gpw474) 45 gqw474) 38 p_491) 39 q_492) 40 r_493) := by rw [eM_544]; exact hV.put hW hb_15 hM_531 hn_526 rfl (by decide) rfl (nI_toInt (by omega))
                                          have hP : va_P D vwCl ([(za, .inr (13, [.int 0, .ref z1, .int (nI z2), .int (nI z3), .int z4, .int z5, .ref z6, .ref z7, .ref z8, .ref z9, .int (nI z10), .ref z11, .ref z12, .ref z13, .ref z14, .ref z15, .int (nI zgw474), .ref z17, .int z18, .ref z19]))] ++ va_pl L M_544) H_534 := by rw [eM_544]; exact hP
                                          have hD : va_D A ([(za, .inr (13, [.int 0, .ref z1, .int (nI z2), .int (nI z3), .int z4, .int z5, .ref z6, .ref z7, .ref z8, .ref z9, .int (nI z10), .ref z11, .ref z12, .ref z13, .ref z14, .ref z15, .int (nI zgw474), .ref z17, .int z18, .ref z19]))] ++ va_pl L M_544) := by rw [eM_544]; exact hD
                                          have hW : WOM cy K L M_544 := by rw [eM_544]; exact hW.up_12 hb_15 ⟨_, rfl, hn_538, hk_536⟩
                                          have hF : fr K L [12, 14, 15, 32, 42, 45, 46, 79, 80, 81, 83] M M_544 := by rw [eM_544]; exact hF.up hb_15 (by decide)
                                          have hG : fG K L [1, 7, 8, 13, 14, 15, 16, 17, 18] M M_544 := by rw [eM_544]; exact hG.up hM_531 (by decide)
                                          have hM_545 : M_544 b13 = .inr (12, ((((fs488.set 7 (.long 0)).set 15 (.int 0)).set 16 (.int 0)).set 1 (.int (nI c_391))).set 13 (.int (nI (v532 + 1)))) := by rw [eM_544]; exact va_up_self _ _ _
                                          refine lv_aload_n hx hb dX13_close_338 rfl (lv_at hl 5 rfl) ?_
                                          refine lv_iconst (v := 1) hx hb dX13_close_339 (by decide) ?_
                                          refine pg_putN (D := D) (ci := 12) (v := .int 1) (ty := .boolean) (C := RX12) (T := TX12) (N := 51) hx hb hg inG12 tyX12 tyX12_ok nmX12 hown hK hP hD hS hb_15.1 hM_545 rfl 18 (by decide) (hN.use (Cond.fieldLinkNest RX13 288 RX12 "hasClosed" "Z" RX13) 27 rfl rfl) (fun _ h9 => h9) rfl (by decide +kernel) rfl rfl (by rw [hn_538]; decide) dX13_close_340 (fun H_546 locs hP hD hS => ?_)
                                          have hs_549 : ((((((fs488.set 7 (.long 0)).set 15 (.int 0)).set 16 (.int 0)).set 1 (.int (nI c_391))).set 13 (.int (nI (v532 + 1)))).set 18 (.int 1))[18]? = some (.int 1) := List.getElem?_set_self (by rw [hn_538]; decide)
                                          have hk_548 := fld12_set (k := 18) (w := .int 1) hk_536 (show fld12 K L 18 ((((((fs488.set 7 (.long 0)).set 15 (.int 0)).set 16 (.int 0)).set 1 (.int (nI c_391))).set 13 (.int (nI (v532 + 1)))).set 18 (.int 1)) from ⟨1, hs_549, by decide⟩)
                                          have hn_550 : ((((((fs488.set 7 (.long 0)).set 15 (.int 0)).set 16 (.int 0)).set 1 (.int (nI c_391))).set 13 (.int (nI (v532 + 1)))).set 18 (.int 1)).length = 51 := by rw [List.length_set]; exact hn_538
                                          have hv_551 : ((((((fs488.set 7 (.long 0)).set 15 (.int 0)).set 16 (.int 0)).set 1 (.int (nI c_391))).set 13 (.int (nI (v532 + 1)))).set 18 (.int 1))[7]? = some (.long 0) := by rw [List.getElem?_set_ne (by decide)]; exact hv_539
                                          have hv_552 : ((((((fs488.set 7 (.long 0)).set 15 (.int 0)).set 16 (.int 0)).set 1 (.int (nI c_391))).set 13 (.int (nI (v532 + 1)))).set 18 (.int 1))[15]? = some (.int (nI 0)) := by rw [List.getElem?_set_ne (by decide)]; exact hv_540
                                          have hv_553 : ((((((fs488.set 7 (.long 0)).set 15 (.int 0)).set 16 (.int 0)).set 1 (.int (nI c_391))).set 13 (.int (nI (v532 + 1)))).set 18 (.int 1))[16]? = some (.int (nI 0)) := by rw [List.getElem?_set_ne (by decide)]; exact hv_541
                                          have hv_554 : ((((((fs488.set 7 (.long 0)).set 15 (.int 0)).set 16 (.int 0)).set 1 (.int (nI c_391))).set 13 (.int (nI (v532 + 1)))).set 18 (.int 1))[1]? = some (.int (nI c_391)) := by rw [List.getElem?_set_ne (by decide)]; exact hv_542
                                          have hv_555 : ((((((fs488.set 7 (.long 0)).set 15 (.int 0)).set 16 (.int 0)).set 1 (.int (nI c_391))).set 13 (.int (nI (v532 + 1)))).set 18 (.int 1))[13]? = some (.int (nI (v532 + 1))) := by rw [List.getElem?_set_ne (by decide)]; exact hs_537
                                          obtain ⟨M_556, eM_556⟩ : ∃ M1 : Hp, M1 = va_up M_544 b13 (.inr (12, (((((fs488.set 7 (.long 0)).set 15 (.int 0)).set 16 (.int 0)).set 1 (.int (nI c_391))).set 13 (.int (nI (v532 + 1)))).set 18 (.int 1))) := ⟨_, rfl⟩
                                          have hV : VW K L M M_556 b13 (va_up (va_up (va_up (va_up (va_up (va_up (va_up (fx M b13) 17 ((gnw474 : Nat) : Int)) 14 ((n_490 : Nat) : Int)) 15 (0 : Int)) 16 (0 : Int)) 1 ((c_391 : Nat) : Int)) 13 (((v532 + 1) : Nat) : Int)) 18 (1 : Int)) (va_up (va_up (va_up (va_up (va_up (ax M b13) 44 gpw474) 45 gqw474) 38 p_491) 39 q_492) 40 r_493) := by rw [eM_556]; exact hV.put hW hb_15 hM_545 hn_538 rfl (by decide) rfl (by decide)
                                          have hP : va_P D vwCl ([(za, .inr (13, [.int 0, .ref z1, .int (nI z2), .int (nI z3), .int z4, .int z5, .ref z6, .ref z7, .ref z8, .ref z9, .int (nI z10), .ref z11, .ref z12, .ref z13, .ref z14, .ref z15, .int (nI zgw474), .ref z17, .int z18, .ref z19]))] ++ va_pl L M_556) H_546 := by rw [eM_556]; exact hP
                                          have hD : va_D A ([(za, .inr (13, [.int 0, .ref z1, .int (nI z2), .int (nI z3), .int z4, .int z5, .ref z6, .ref z7, .ref z8, .ref z9, .int (nI z10), .ref z11, .ref z12, .ref z13, .ref z14, .ref z15, .int (nI zgw474), .ref z17, .int z18, .ref z19]))] ++ va_pl L M_556) := by rw [eM_556]; exact hD
                                          have hW : WOM cy K L M_556 := by rw [eM_556]; exact hW.up_12 hb_15 ⟨_, rfl, hn_550, hk_548⟩
                                          have hF : fr K L [12, 14, 15, 32, 42, 45, 46, 79, 80, 81, 83] M M_556 := by rw [eM_556]; exact hF.up hb_15 (by decide)
                                          have hG : fG K L [1, 7, 8, 13, 14, 15, 16, 17, 18] M M_556 := by rw [eM_556]; exact hG.up hM_545 (by decide)
                                          have hM_557 : M_556 b13 = .inr (12, (((((fs488.set 7 (.long 0)).set 15 (.int 0)).set 16 (.int 0)).set 1 (.int (nI c_391))).set 13 (.int (nI (v532 + 1)))).set 18 (.int 1)) := by rw [eM_556]; exact va_up_self _ _ _
                                          refine lv_aload_n hx hb dX13_close_343 rfl (lv_at hl 6 rfl) ?_
                                          refine lv_aload_n hx hb dX13_close_344 rfl (lv_at hl 5 rfl) ?_
                                          refine lv_iload hx hb dX13_close_345 (lv_at hl 3 rfl) ?_
                                          have hPc : va_P D vwCl ([(za, .inr (13, [.int 0, .ref z1, .int (nI z2), .int (nI z3), .int z4, .int z5, .ref z6, .ref z7, .ref z8, .ref z9, .int (nI z10), .ref z11, .ref z12, .ref z13, .ref z14, .ref z15, .int (nI zgw474), .ref z17, .int z18, .ref z19]))] ++ va_pl L M_556) H_546 := hP
                                          have hDc : va_D A ([(za, .inr (13, [.int 0, .ref z1, .int (nI z2), .int (nI z3), .int z4, .int z5, .ref z6, .ref z7, .ref z8, .ref z9, .int (nI z10), .ref z11, .ref z12, .ref z13, .ref z14, .ref z15, .int (nI zgw474), .ref z17, .int z18, .ref z19]))] ++ va_pl L M_556) := hD
                                          have hFc : ∀ q, va_A ([(za, .inr (13, [.int 0, .ref z1, .int (nI z2), .int (nI z3), .int z4, .int z5, .ref z6, .ref z7, .ref z8, .ref z9, .int (nI z10), .ref z11, .ref z12, .ref z13, .ref z14, .ref z15, .int (nI zgw474), .ref z17, .int z18, .ref z19]))] ++ va_pl L M_556) H_546.size q → A q := pg_free hDc hS hA
                                          refine va_callv (va_runV (As := [.ref b13, .int (nI c_391)]) (rest := []) ⟨hx, hb, hml, hown, hg⟩ (g_X13_incomes l D cy K L M_556 H_546.size za 0 z1 z2 z3 z4 z5 z6 z7 z8 z9 z10 z11 z12 z13 z14 z15 zgw474 z17 z18 z19 b13 c_391  hW i1 b2 b3 i6 i7 i8 i9 b10 i11 i12 i13 i14 i15 (by omega) i17 i19 hb_15 hc_392 (R5.mv hR5 i6 i7 hF (by decide) (by decide))) (cwV 2 hg (gV wd_864 wd_865 wd_866 wd_717 wd_867) rfl rfl rfl (by decide +kernel) ⟨(Nat.le_trans (Nat.le_of_ble_eq_true rfl) hRf), (Nat.le_trans (Nat.le_of_ble_eq_true rfl) hRl)⟩) ⟨PG.blind, va_recv hK hP (ci := 13) (q0 := 0) rfl rfl, fun U hU hW => ⟨rfl, PG.at hPc hK hDc hN hU hW⟩⟩ rfl rfl hl.1 rfl (lv_room (Nat.le_of_ble_eq_true rfl)) dX13_close_347 ⟨(Nat.le_trans (Nat.le_of_ble_eq_true rfl) hRc), (Nat.le_trans (Nat.le_of_ble_eq_true rfl) hRs)⟩) hS (fun q _ h => hFc q h) hFc (fun M_560 t H_558 locs ht hvm hw hB hz1 hk1 hS => ?_)
                                          have hWb := hW
                                          obtain ⟨hW, hF2, hG2, hp_561⟩ := hw
                                          obtain ⟨hP1, hD1⟩ := hB
                                          rw [ht] at hP1
                                          have hP : va_P D vwCl ([(za, .inr (13, [.int 0, .ref z1, .int (nI z2), .int (nI z3), .int z4, .int z5, .ref z6, .ref z7, .ref z8, .ref z9, .int (nI z10), .ref z11, .ref z12, .ref z13, .ref z14, .ref z15, .int (nI zgw474), .ref z17, .int z18, .ref z19]))] ++ va_pl L M_560) H_558 := hP1
                                          have hD : va_D A ([(za, .inr (13, [.int 0, .ref z1, .int (nI z2), .int (nI z3), .int z4, .int z5, .ref z6, .ref z7, .ref z8, .ref z9, .int (nI z10), .ref z11, .ref z12, .ref z13, .ref z14, .ref z15, .int (nI zgw474), .ref z17, .int z18, .ref z19]))] ++ va_pl L M_560) := hD1.mono hFc
                                          obtain ⟨fs562, hM562, hn562, hl562⟩ := hW.open_12 hb_15
                                          have hv_563 : fs562[15]? = some (.int (nI 0) : Value) := (hG2 _ hb_15 _ _ hM_557 hM562 15 (by decide)).trans hv_552
                                          have hv_564 : fs562[16]? = some (.int (nI 0) : Value) := (hG2 _ hb_15 _ _ hM_557 hM562 16 (by decide)).trans hv_553
                                          have hv_565 : fs562[1]? = some (.int (nI c_391) : Value) := (hG2 _ hb_15 _ _ hM_557 hM562 1 (by decide)).trans hv_554
                                          have hv_566 : fs562[13]? = some (.int (nI (v532 + 1)) : Value) := (hG2 _ hb_15 _ _ hM_557 hM562 13 (by decide)).trans hv_555
                                          have hv_567 : fs562[18]? = some (.int 1 : Value) := (hG2 _ hb_15 _ _ hM_557 hM562 18 (by decide)).trans hs_549
                                          have hF : fr K L [12, 14, 15, 32, 42, 45, 46, 79, 80, 81, 83] M M_560 := hF.tr hF2 (by decide)
                                          have hG : fG K L [1, 7, 8, 13, 14, 15, 16, 17, 18] M M_560 := hG.tr hWb hG2 (by decide)
                                          have hV : VW K L M M_560 b13 (va_up (va_up (va_up (va_up (va_up (va_up (va_up (fx M b13) 17 ((gnw474 : Nat) : Int)) 14 ((n_490 : Nat) : Int)) 15 (0 : Int)) 16 (0 : Int)) 1 ((c_391 : Nat) : Int)) 13 (((v532 + 1) : Nat) : Int)) 18 (1 : Int)) (va_up (va_up (va_up (va_up (va_up (ax M b13) 44 gpw474) 45 gqw474) 38 p_491) 39 q_492) 40 r_493) := hV.cal hWb hW hF2 hG2 (by decide) (by decide) hb_15
                                          refine lv_aload_n hx hb dX13_close_350 rfl (lv_at hl 5 rfl) ?_
                                          refine lv_iload hx hb dX13_close_351 (lv_at hl 3 rfl) ?_
                                          have hPc : va_P D vwCl ([] ++ va_pl L M_560) H_558 := hP.part (cx := []) [] rfl
                                          have hDc : va_D A ([] ++ va_pl L M_560) := hD.part (cx := []) [] (by decide) rfl
                                          have hFc : ∀ q, va_A ([] ++ va_pl L M_560) H_558.size q → A q := pg_free hDc hS hA
                                          refine va_callv (va_runS (As := [.ref b13, .int (nI c_391)]) (rest := []) ⟨hx, hb, hml, hown, hg⟩ (z_ends l D cy K L M_560 H_558.size b13 c_391  hW hb_15 hc_392 hV.2.2.2 (by rw [hV.2.1, hV.2.2.1]; exact hAT.2.2.1)) (va_cwS 2 hg (gS wd_868 wd_869 wd_717 wd_870) rfl rfl rfl (by decide +kernel) ⟨(Nat.le_trans (Nat.le_of_ble_eq_true rfl) hRf), (Nat.le_trans (Nat.le_of_ble_eq_true rfl) hRl)⟩) ⟨PG.blind, fun U hU hW => ⟨rfl, PG.at hPc hK hDc hN hU hW⟩⟩ rfl rfl hl.1 rfl (lv_room (Nat.le_of_ble_eq_true rfl)) dX13_close_353 ⟨(Nat.le_trans (Nat.le_of_ble_eq_true rfl) hRc), (Nat.le_trans (Nat.le_of_ble_eq_true rfl) hRs)⟩) hS (fun q _ h => hFc q h) hFc (fun M_570 t H_568 locs ht hvm hw hB hz1 hk1 hS => ?_)
                                          have hWb := hW
                                          obtain ⟨hW, hF2, hG2, hVP, hp_571⟩ := hw
                                          obtain ⟨hP1, hD1⟩ := hB
                                          rw [ht] at hP1
                                          obtain ⟨hP, hD⟩ := va_joinP (X := [(za, .inr (13, [.int 0, .ref z1, .int (nI z2), .int (nI z3), .int z4, .int z5, .ref z6, .ref z7, .ref z8, .ref z9, .int (nI z10), .ref z11, .ref z12, .ref z13, .ref z14, .ref z15, .int (nI zgw474), .ref z17, .int z18, .ref z19]))]) (cx := []) (wr := [(za, .inr (13, [.int 0, .ref z1, .int (nI z2), .int (nI z3), .int z4, .int z5, .ref z6, .ref z7, .ref z8, .ref z9, .int (nI z10), .ref z11, .ref z12, .ref z13, .ref z14, .ref z15, .int (nI zgw474), .ref z17, .int z18, .ref z19]))]) (rx := []) (pl := va_pl L M_560) (pl1 := va_pl L M_570) hP hD [] [0] rfl rfl (by decide) (by decide) hk1 hFc hP1 hD1
                                          have hP : va_P D vwCl ([(za, .inr (13, [.int 0, .ref z1, .int (nI z2), .int (nI z3), .int z4, .int z5, .ref z6, .ref z7, .ref z8, .ref z9, .int (nI z10), .ref z11, .ref z12, .ref z13, .ref z14, .ref z15, .int (nI zgw474), .ref z17, .int z18, .ref z19]))] ++ va_pl L M_570) H_568 := hP
                                          have hD : va_D A ([(za, .inr (13, [.int 0, .ref z1, .int (nI z2), .int (nI z3), .int z4, .int z5, .ref z6, .ref z7, .ref z8, .ref z9, .int (nI z10), .ref z11, .ref z12, .ref z13, .ref z14, .ref z15, .int (nI zgw474), .ref z17, .int z18, .ref z19]))] ++ va_pl L M_570) := hD
                                          have hM_572 : M_570 b13 = .inr (12, fs562) := (hF2.at hb_15 (by decide)).trans hM562
                                          have hF : fr K L [12, 14, 15, 32, 42, 45, 46, 79, 80, 81, 83] M M_570 := hF.tr hF2 (by decide)
                                          have hG : fG K L [1, 7, 8, 13, 14, 15, 16, 17, 18] M M_570 := hG.tr hWb hG2 (by decide)
                                          obtain ⟨g_573, hg23, hV2⟩ := hVP
                                          rw [hV.2.1, hV.2.2.1] at hg23
                                          rw [hV.2.1, hV.2.2.1] at hV2
                                          have hV : VW K L M M_570 b13 (va_up (va_up (va_up (va_up (va_up (va_up (va_up (fx M b13) 17 ((gnw474 : Nat) : Int)) 14 ((n_490 : Nat) : Int)) 15 (0 : Int)) 16 (0 : Int)) 1 ((c_391 : Nat) : Int)) 13 (((v532 + 1) : Nat) : Int)) 18 (1 : Int)) (va_up (va_up (va_up (va_up (va_up (va_up (ax M b13) 44 gpw474) 45 gqw474) 38 p_491) 39 q_492) 40 r_493) 23 g_573) := hV.tr hV2
                                          refine lv_aload_n hx hb dX13_close_356 rfl (lv_at hl 6 rfl) ?_
                                          refine lv_aload_n hx hb dX13_close_357 rfl (lv_at hl 5 rfl) ?_
                                          refine pg_getN (D := D) (ci := 12) (v := .int (nI (v532 + 1))) (C := RX12) (T := TX12) (N := 51) hx hb hg inG12 hown hK hP hb_15.1 hM_572 rfl 13 (by decide) (hN.use (Cond.fieldLinkNest RX13 244 RX12 "closed" "I" RX13) 22 rfl rfl) (fun _ h9 => h9) hv_566 dX13_close_358 ?_
                                          have hx13 : (((v532 + 1) : Nat) : Int) = (((v532 + 1) : Nat) : Int) := (congrFun hV.2.1 13).symm.trans ((fx_of hM_572 rfl hv_566).trans (nI_toInt (by omega)))
                                          refine lv_iconst (v := 1) hx hb dX13_close_361 (by decide) ?_
                                          refine lv_isub hx hb dX13_close_362 ?_
                                          refine lv_topi (fun f_574 ef_574 => ?_)
                                          obtain rfl : f_574 = (nI ((v532 + 1) - 1)) := ef_574.trans (nI_prd (by omega))
                                          have hPc := hP.sub (ws' := [(za, .inr (13, [.int 0, .ref z1, .int (nI z2), .int (nI z3), .int z4, .int z5, .ref z6, .ref z7, .ref z8, .ref z9, .int (nI z10), .ref z11, .ref z12, .ref z13, .ref z14, .ref z15, .int (nI zgw474), .ref z17, .int z18, .ref z19]))]) [0] rfl
                                          have hDc := hD.sub (ws' := [(za, .inr (13, [.int 0, .ref z1, .int (nI z2), .int (nI z3), .int z4, .int z5, .ref z6, .ref z7, .ref z8, .ref z9, .int (nI z10), .ref z11, .ref z12, .ref z13, .ref z14, .ref z15, .int (nI zgw474), .ref z17, .int z18, .ref z19]))]) [0] (by decide) rfl
                                          have hKc := hK.sub (tys' := []) [] rfl
                                          have hFc := va_free (wc := [(za, .inr (13, [.int 0, .ref z1, .int (nI z2), .int (nI z3), .int z4, .int z5, .ref z6, .ref z7, .ref z8, .ref z9, .int (nI z10), .ref z11, .ref z12, .ref z13, .ref z14, .ref z15, .int (nI zgw474), .ref z17, .int z18, .ref z19]))]) hD hS hA [0] rfl
                                          refine va_calli (va_runV (As := [.int (nI ((v532 + 1) - 1))]) (rest := []) ⟨hx, hb, hml, hown, hg⟩ (m_done l D H_568.size za 0 z1 (nI z2) (nI z3) z4 z5 z6 z7 z8 z9 (nI z10) z11 z12 z13 z14 z15 (nI zgw474) z17 z18 z19 (nI ((v532 + 1) - 1))) (cwV 1 hg (gV wd_730 wd_731 wd_732 wd_717 wd_733) rfl rfl rfl (by decide +kernel) ⟨(Nat.le_trans (Nat.le_of_ble_eq_true rfl) hRf), (Nat.le_trans (Nat.le_of_ble_eq_true rfl) hRl)⟩) ⟨Pr.blind, va_recv hK hP (ci := 13) (q0 := 0) rfl rfl, fun U hU hW => ⟨rfl, Pr.at hPc hKc hDc hN hU hW⟩⟩ rfl rfl hl.1 rfl (lv_room (Nat.le_of_ble_eq_true rfl)) dX13_close_363 ⟨(Nat.le_trans (Nat.le_of_ble_eq_true rfl) hRc), (Nat.le_trans (Nat.le_of_ble_eq_true rfl) hRs)⟩) hS (fun q _ h => hFc q h) hFc (fun r_576 M_577 t H_575 locs ht hvm hw hB hz1 hk1 hS => ?_)
                                          have hp_578 := hw
                                          obtain ⟨hP1, hK1, hD1⟩ := hB
                                          rw [ht] at hP1
                                          obtain ⟨hP, hD⟩ := va_joinQ (X := [(za, .inr (13, [.int 0, .ref z1, .int (nI z2), .int (nI z3), .int z4, .int z5, .ref z6, .ref z7, .ref z8, .ref z9, .int (nI z10), .ref z11, .ref z12, .ref z13, .ref z14, .ref z15, .int (nI zgw474), .ref z17, .int z18, .ref z19]))]) (cx := [(za, .inr (13, [.int 0, .ref z1, .int (nI z2), .int (nI z3), .int z4, .int z5, .ref z6, .ref z7, .ref z8, .ref z9, .int (nI z10), .ref z11, .ref z12, .ref z13, .ref z14, .ref z15, .int (nI zgw474), .ref z17, .int z18, .ref z19]))]) (wr := []) (w1 := [(za, .inr (13, [.int 0, .ref z1, .int (nI z2), .int (nI z3), .int 0, .int (-1), .ref z6, .ref z7, .ref z8, .ref z9, .int (nI z10), .ref z11, .ref z12, .ref z13, .ref z14, .ref z15, .int (nI zgw474), .ref z17, .int z18, .ref z19]))]) (pl := va_pl L M_570) hP hD [0] [] rfl rfl (by decide) (by decide) hk1 hFc hP1 hD1
                                          have hP : va_P D vwCl ([(za, .inr (13, [.int 0, .ref z1, .int (nI z2), .int (nI z3), .int 0, .int (-1), .ref z6, .ref z7, .ref z8, .ref z9, .int (nI z10), .ref z11, .ref z12, .ref z13, .ref z14, .ref z15, .int (nI zgw474), .ref z17, .int z18, .ref z19]))] ++ va_pl L M_570) H_575 := hP
                                          have hD : va_D A ([(za, .inr (13, [.int 0, .ref z1, .int (nI z2), .int (nI z3), .int 0, .int (-1), .ref z6, .ref z7, .ref z8, .ref z9, .int (nI z10), .ref z11, .ref z12, .ref z13, .ref z14, .ref z15, .int (nI zgw474), .ref z17, .int z18, .ref z19]))] ++ va_pl L M_570) := hD
                                          have hq := Eq.symm hp_578
                                          subst hq
                                          have hI_579 : (24 : Int) ≤ ((v6w437 : Nat) : Int) := ileI rfl (nI_toInt (by omega)) c_442
                                          have hI_580 : ((c_391 : Nat) : Int) < ((v6w447 : Nat) : Int) := iltI (nI_toInt (by omega)) (nI_toInt (by omega)) c_452
                                          have hI_581 : ((v455 : Nat) : Int) ≤ ((v7w464 : Nat) : Int) := ileI (nI_toInt (by omega)) (nI_toInt (by omega)) c_469
                                          have hI_582 : ((v481 : Nat) : Int) ≤ ((v7w474 : Nat) : Int) := ileI (nI_toInt (by omega)) (nI_toInt (by omega)) c_482
                                          have hy4 : ∀ d : Nat, SX (k1 : Int32).toNatClampNeg 1 < (d : Int) → (d : Int) ≤ enD (SX (k1 : Int32).toNatClampNeg) (SY (k1 : Int32).toNatClampNeg) → ¬ opD (SY (k1 : Int32).toNatClampNeg) d := fun d h1 h2 => hall d h1 (by rw [hEd] at h2; omega)
                                          have hy5 : ∀ b, b < z2 → ¬ LAG PK PT SX SY (k1 : Int32).toNatClampNeg (enD (SX (k1 : Int32).toNatClampNeg) (SY (k1 : Int32).toNatClampNeg)) b := by rw [hEd]; have h9 := c_414; rw [nI_toInt (by omega)] at h9; exact h9
                                          have hyes : okCl z2 PK PT SX SY k1 := by unfold okCl okH; refine ⟨⟨?_, ?_⟩, ?_, ?_, ?_, ?_⟩ <;> first | omega | assumption
                                          have hA9 : HA (ax M b13 2) (ax M b13 3) := hAT.1
                                          have hB9 : HB (0 : Int) ((n_490 : Nat) : Int) (ax M b13 3) (ax M b13 43) := HB.zero hAT.2.1.nn.1 hn14
                                          have hC9 : HC (fx M b13 10) (ax M b13 22) g_573 := HC.gr hAT.2.2.1 hg9
                                          have hD9 : HD (fx M b13 0) (fx M b13 11) (0 : Int) (ax M b13 34) (ax M b13 41) := HD.clr hAT.2.2.2.1
                                          have hE9 : HE (fx M b13 0) ((c_391 : Nat) : Int) (fx M b13 12) (((v532 + 1) : Nat) : Int) (ax M b13 37) := HE.close hAT.2.2.2.2 hb13 (by omega) (by omega) (by rw [hT37])
                                          have hH9 : HI (va_up (va_up (va_up (va_up (va_up (va_up (va_up (fx M b13) 17 ((gnw474 : Nat) : Int)) 14 ((n_490 : Nat) : Int)) 15 (0 : Int)) 16 (0 : Int)) 1 ((c_391 : Nat) : Int)) 13 (((v532 + 1) : Nat) : Int)) 18 (1 : Int)) (va_up (va_up (va_up (va_up (va_up (va_up (ax M b13) 44 gpw474) 45 gqw474) 38 p_491) 39 q_492) 40 r_493) 23 g_573) := ⟨hA9, hB9, hC9, hD9, hE9⟩
                                          have hGI9 : GI K L z1 z2 M_570 := GI.fin hW0 i1 b2 hGI hact hV (hF.at i1 (by decide)) hH9
                                          have hX1 : (va_up (va_up (va_up (va_up (va_up (va_up (va_up (fx M b13) 17 ((gnw474 : Nat) : Int)) 14 ((n_490 : Nat) : Int)) 15 (0 : Int)) 16 (0 : Int)) 1 ((c_391 : Nat) : Int)) 13 (((v532 + 1) : Nat) : Int)) 18 (1 : Int)) 1 = ((c_391 : Nat) : Int) := rfl
                                          have hX13 : (va_up (va_up (va_up (va_up (va_up (va_up (va_up (fx M b13) 17 ((gnw474 : Nat) : Int)) 14 ((n_490 : Nat) : Int)) 15 (0 : Int)) 16 (0 : Int)) 1 ((c_391 : Nat) : Int)) 13 (((v532 + 1) : Nat) : Int)) 18 (1 : Int)) 13 = SX (k1 : Int32).toNatClampNeg 13 + 1 := by show (((v532 + 1) : Nat) : Int) = _; omega
                                          have hkp : kpF (nI (c_28 + 1)) (nI c_391) = clk (SX (k1 : Int32).toNatClampNeg 1) ((c_391 : Nat) : Int) := by funext z9; unfold kpF clk; rw [show (decide (nI (c_28 + 1) ≤ z9.2.1)) = decide (SX (k1 : Int32).toNatClampNeg 1 + 1 ≤ z9.2.1.toInt) from decide_eq_decide.mpr (by rw [Int32.le_iff_toInt_le, nI_toInt (by omega)]; omega), show (decide (z9.2.1 ≤ nI c_391)) = decide (z9.2.1.toInt ≤ ((c_391 : Nat) : Int)) from decide_eq_decide.mpr (by rw [Int32.le_iff_toInt_le, nI_toInt (by omega)])]
                                          have hCLF : CLF (enD (SX (k1 : Int32).toNatClampNeg) (SY (k1 : Int32).toNatClampNeg)) (SX (k1 : Int32).toNatClampNeg) (SY (k1 : Int32).toNatClampNeg) (va_up (va_up (va_up (va_up (va_up (va_up (va_up (fx M b13) 17 ((gnw474 : Nat) : Int)) 14 ((n_490 : Nat) : Int)) 15 (0 : Int)) 16 (0 : Int)) 1 ((c_391 : Nat) : Int)) 13 (((v532 + 1) : Nat) : Int)) 18 (1 : Int)) (va_up (va_up (va_up (va_up (va_up (va_up (ax M b13) 44 gpw474) 45 gqw474) 38 p_491) 39 q_492) 40 r_493) 23 g_573) := by
                                            rw [hEd]
                                            refine ⟨congrFun hZk.1 0, hX1, congrFun hZk.1 10, congrFun hZk.1 11, congrFun hZk.1 12, hX13, rfl, rfl, ⟨n_490, rfl, ?_⟩, fun j q23 q38 q39 q40 q44 q45 => ?_, fun i hi => ?_⟩
                                            · rw [← hkp, show (SX (k1 : Int32).toNatClampNeg 14).toNat = n_494 by omega]; rw [← hZk.2]; exact htr8
                                            · rw [← hZk.2]; simp only [va_up_ne _ _ q23, va_up_ne _ _ q38, va_up_ne _ _ q39, va_up_ne _ _ q40, va_up_ne _ _ q44, va_up_ne _ _ q45]
                                            · rw [← hZk.2]; exact (hg23 i (by show (i : Int) < fx M b13 10; omega))
                                          rw [hQ]
                                          exact W.iret (v := (nI ((v532 + 1) - 1))) hx hb hr (fun t ht hW9 => ⟨⟨(nI ((v532 + 1) - 1)), M_570, rfl, ⟨hW, hF, hG, ⟨hGI9, (va_up (va_up (va_up (va_up (va_up (va_up (va_up (fx M b13) 17 ((gnw474 : Nat) : Int)) 14 ((n_490 : Nat) : Int)) 15 (0 : Int)) 16 (0 : Int)) 1 ((c_391 : Nat) : Int)) 13 (((v532 + 1) : Nat) : Int)) 18 (1 : Int)), (va_up (va_up (va_up (va_up (va_up (va_up (ax M b13) 44 gpw474) 45 gqw474) 38 p_491) 39 q_492) 40 r_493) 23 g_573), fun _ => hCLF, (by unfold sxCl syCl; rw [if_pos hyes, if_pos hyes]; exact ZSx.fin hW0 i1 b2 hZS hGI.1 hkn hb9 hV (hF.at i1 (by decide)) rfl rfl)⟩, (by unfold anCl; rw [if_pos hyes]; exact congrArg nI (by omega))⟩, ⟨0, (-1), zgw474, (by omega), by rw [ht]; exact hP, hD⟩⟩, hS.F ht⟩) hS.2.2 dX13_close_366
                                        · have hz := rfl (a := 0)
                                          have n_583 : ¬ (v481 ≤ v7w474) := fun q => c_482 ((iLE (a := v481) (b := v7w474) (by omega) (by omega)).mpr q)
                                          obtain ⟨v584, hv584, hc584⟩ : ∃ v : Nat, fs480[17]? = some (.int (nI v) : Value) ∧ v ≤ 120 := hl480 17 (by decide)
                                          have hx17 : ((gnw474 : Nat) : Int) = ((v584 : Nat) : Int) := (congrFun hV.2.1 17).symm.trans ((fx_of hM480 rfl hv584).trans (nI_toInt (by omega)))
                                          have hx15 : (fx M b13 15) = ((v481 : Nat) : Int) := (congrFun hV.2.1 15).symm.trans ((fx_of hM480 rfl hv481).trans (nI_toInt (by omega)))
                                          refine lv_aload_n hx hb dX13_close_287 rfl (lv_at hl 6 rfl) ?_
                                          refine lv_aload_n hx hb dX13_close_288 rfl (lv_at hl 5 rfl) ?_
                                          refine lv_iload hx hb dX13_close_289 (lv_at hl 0 rfl) ?_
                                          have hPc : va_P D vwCl ([(za, .inr (13, [.int 0, .ref z1, .int (nI z2), .int (nI z3), .int z4, .int z5, .ref z6, .ref z7, .ref z8, .ref z9, .int (nI z10), .ref z11, .ref z12, .ref z13, .ref z14, .ref z15, .int (nI zgw474), .ref z17, .int z18, .ref z19]))] ++ va_pl L M_478) H_479 := hP
                                          have hDc : va_D A ([(za, .inr (13, [.int 0, .ref z1, .int (nI z2), .int (nI z3), .int z4, .int z5, .ref z6, .ref z7, .ref z8, .ref z9, .int (nI z10), .ref z11, .ref z12, .ref z13, .ref z14, .ref z15, .int (nI zgw474), .ref z17, .int z18, .ref z19]))] ++ va_pl L M_478) := hD
                                          have hFc : ∀ q, va_A ([(za, .inr (13, [.int 0, .ref z1, .int (nI z2), .int (nI z3), .int z4, .int z5, .ref z6, .ref z7, .ref z8, .ref z9, .int (nI z10), .ref z11, .ref z12, .ref z13, .ref z14, .ref z15, .int (nI zgw474), .ref z17, .int z18, .ref z19]))] ++ va_pl L M_478) H_479.size q → A q := pg_free hDc hS hA
                                          refine va_callv (va_runV (As := [.ref b13, .int (nI v7w474)]) (rest := []) ⟨hx, hb, hml, hown, hg⟩ (g_X13_mended l D cy K L M_478 H_479.size za 0 z1 z2 z3 z4 z5 z6 z7 z8 z9 z10 z11 z12 z13 z14 z15 zgw474 z17 z18 z19 b13 v7w474  hW i1 b2 b3 i6 i7 i8 i9 b10 i11 i12 i13 i14 i15 (by omega) i17 i19 hb_15 (by omega) hV.2.2.2 ⟨_, _, hM480, hv584, by omega⟩ (by rw [hV.2.1]; exact h11) (by rw [hV.2.1, hV.2.2.1]; exact hAT.2.2.2.1) (by rw [hV.2.1]; show ((v7w474 : Nat) : Int) < fx M b13 15; omega)) (cwV 2 hg (gV wd_871 wd_872 wd_873 wd_717 wd_874) rfl rfl rfl (by decide +kernel) ⟨(Nat.le_trans (Nat.le_of_ble_eq_true rfl) hRf), (Nat.le_trans (Nat.le_of_ble_eq_true rfl) hRl)⟩) ⟨PG.blind, va_recv hK hP (ci := 13) (q0 := 0) rfl rfl, fun U hU hW => ⟨rfl, PG.at hPc hK hDc hN hU hW⟩⟩ rfl rfl hl.1 rfl (lv_room (Nat.le_of_ble_eq_true rfl)) dX13_close_291 ⟨(Nat.le_trans (Nat.le_of_ble_eq_true rfl) hRc), (Nat.le_trans (Nat.le_of_ble_eq_true rfl) hRs)⟩) hS (fun q _ h => hFc q h) hFc (fun M_587 t H_585 locs ht hvm hw hB hz1 hk1 hS => ?_)
                                          have hWb := hW
                                          obtain ⟨hW, hF2, hG2, hVP, hp_588⟩ := hw
                                          obtain ⟨w16_589, hg_590, hP1, hD1⟩ := hB
                                          rw [ht] at hP1
                                          have hP : va_P D vwCl ([(za, .inr (13, [.int 0, .ref z1, .int (nI z2), .int (nI z3), .int z4, .int z5, .ref z6, .ref z7, .ref z8, .ref z9, .int (nI z10), .ref z11, .ref z12, .ref z13, .ref z14, .ref z15, .int (nI w16_589), .ref z17, .int z18, .ref z19]))] ++ va_pl L M_587) H_585 := hP1
                                          have hD : va_D A ([(za, .inr (13, [.int 0, .ref z1, .int (nI z2), .int (nI z3), .int z4, .int z5, .ref z6, .ref z7, .ref z8, .ref z9, .int (nI z10), .ref z11, .ref z12, .ref z13, .ref z14, .ref z15, .int (nI w16_589), .ref z17, .int z18, .ref z19]))] ++ va_pl L M_587) := hD1.mono hFc
                                          obtain ⟨fs591, hM591, hn591, hl591⟩ := hW.open_12 hb_15
                                          have hv_592 : fs591[15]? = some (.int (nI v481) : Value) := (hG2 _ hb_15 _ _ hM480 hM591 15 (by decide)).trans hv481
                                          have hF : fr K L [12, 14, 15, 32, 42, 45, 46, 79, 80, 81, 83] M M_587 := hF.tr hF2 (by decide)
                                          have hG : fG K L [1, 7, 8, 13, 14, 15, 16, 17, 18] M M_587 := hG.tr hWb hG2 (by decide)
                                          obtain ⟨n_593, g_594, g_595, hn17, hV2⟩ := hVP
                                          rw [hV.2.1] at hn17
                                          rw [hV.2.1, hV.2.2.1] at hV2
                                          have hn17 : ((gnw474 : Nat) : Int) = (n_593 : Int) := hn17
                                          have hV : VW K L M M_587 b13 (va_up (va_up (fx M b13) 17 ((gnw474 : Nat) : Int)) 17 ((n_593 + 1 : Nat) : Int)) (va_up (va_up (va_up (va_up (ax M b13) 44 gpw474) 45 gqw474) 44 g_594) 45 g_595) := hV.tr hV2
                                          refine lv_iinc (v := (nI (v7w474 + 1))) (lv' := [(7, .int (nI (v7w474 + 1))), (6, .int (nI v455)), (5, .int (-1)), (4, .int (nI c_391)), (3, .int (nI (c_28 + 1))), (2, .ref b13), (0, .ref za), (1, .int k1)]) hx hb dX13_close_294 hl (k := 0) rfl (nI_1 v7w474) (by decide) rfl (fun ls hl => ?_)
                                          refine lv_goto (tgt := 278) hx hb dX13_close_297 (by decide) ?_
                                          exact ih_472 (v7w474 + 1) w16_589 (n_593 + 1) g_594 g_595 M_587 H_585 _ _ (by omega) (by omega) (by omega) (by omega) hW hF hG (by have h := hV; simp only [va_up_up] at h; rw [va_up_4] at h; exact h) hP hD hS (lv_sub hl [0, 1, 2, 3, 4, 5, 6, 7] rfl)
                                    exact key_471 (24 - 0 + 1) 0 zgw464 gnw447 gpw447 gqw447 M_467 H_468 _ _ (by omega) (by omega) (by omega) (by omega) hW hF hG hV hP hD hS (lv_sub hl [0, 1, 2, 3, 4, 5, 6, 7] rfl)
                                  · have hz := rfl (a := 0)
                                    have n_596 : ¬ (v455 ≤ v7w464) := fun q => c_469 ((iLE (a := v455) (b := v7w464) (by omega) (by omega)).mpr q)
                                    refine lv_aload_n hx hb dX13_close_261 rfl (lv_at hl 6 rfl) ?_
                                    refine lv_aload_n hx hb dX13_close_262 rfl (lv_at hl 5 rfl) ?_
                                    refine lv_iload hx hb dX13_close_263 (lv_at hl 0 rfl) ?_
                                    refine lv_iload_n hx hb dX13_close_265 rfl (lv_at hl 4 rfl) ?_
                                    have hPc : va_P D vwCl ([(za, .inr (13, [.int 0, .ref z1, .int (nI z2), .int (nI z3), .int z4, .int z5, .ref z6, .ref z7, .ref z8, .ref z9, .int (nI z10), .ref z11, .ref z12, .ref z13, .ref z14, .ref z15, .int (nI zgw464), .ref z17, .int z18, .ref z19]))] ++ va_pl L M_467) H_468 := hP
                                    have hDc : va_D A ([(za, .inr (13, [.int 0, .ref z1, .int (nI z2), .int (nI z3), .int z4, .int z5, .ref z6, .ref z7, .ref z8, .ref z9, .int (nI z10), .ref z11, .ref z12, .ref z13, .ref z14, .ref z15, .int (nI zgw464), .ref z17, .int z18, .ref z19]))] ++ va_pl L M_467) := hD
                                    have hFc : ∀ q, va_A ([(za, .inr (13, [.int 0, .ref z1, .int (nI z2), .int (nI z3), .int z4, .int z5, .ref z6, .ref z7, .ref z8, .ref z9, .int (nI z10), .ref z11, .ref z12, .ref z13, .ref z14, .ref z15, .int (nI zgw464), .ref z17, .int z18, .ref z19]))] ++ va_pl L M_467) H_468.size q → A q := pg_free hDc hS hA
                                    refine va_callv (va_runV (As := [.ref b13, .int (nI v7w464), .int (nI (c_28 + 1))]) (rest := []) ⟨hx, hb, hml, hown, hg⟩ (g_X13_stretch l D cy K L M_467 H_468.size za 0 z1 z2 z3 z4 z5 z6 z7 z8 z9 z10 z11 z12 z13 z14 z15 zgw464 z17 z18 z19 b13 v7w464 (nI (c_28 + 1))  hW i1 b2 b3 i6 i7 i8 i9 b10 i11 i12 i13 i14 i15 (by omega) i17 i19 hb_15 (by omega) hV.2.2.2 (by rw [hV.2.1]; exact h11) (by rw [hV.2.1, hV.2.2.1]; exact hAT.2.2.2.1.1 h11) (by have hq9 := hs4 v7w464 (by omega); rw [hV.2.1, hV.2.2.1]; show fx M b13 0 ≤ (gpw447 v7w464).toInt; omega) (by have hq9 := hs4 v7w464 (by omega); rw [hV.2.2.1]; show (gpw447 v7w464).toInt + (gqw447 v7w464).toInt ≤ 1000; omega)) (cwV 3 hg (gV wd_875 wd_876 wd_877 wd_717 wd_878) rfl rfl rfl (by decide +kernel) ⟨(Nat.le_trans (Nat.le_of_ble_eq_true rfl) hRf), (Nat.le_trans (Nat.le_of_ble_eq_true rfl) hRl)⟩) ⟨PG.blind, va_recv hK hP (ci := 13) (q0 := 0) rfl rfl, fun U hU hW => ⟨rfl, PG.at hPc hK hDc hN hU hW⟩⟩ rfl rfl hl.1 rfl (lv_room (Nat.le_of_ble_eq_true rfl)) dX13_close_266 ⟨(Nat.le_trans (Nat.le_of_ble_eq_true rfl) hRc), (Nat.le_trans (Nat.le_of_ble_eq_true rfl) hRs)⟩) hS (fun q _ h => hFc q h) hFc (fun M_599 t H_597 locs ht hvm hw hB hz1 hk1 hS => ?_)
                                    have hWb := hW
                                    obtain ⟨hW, hF2, hG2, hp_600⟩ := hw
                                    obtain ⟨w16_601, hg_602, hP1, hD1⟩ := hB
                                    rw [ht] at hP1
                                    have hP : va_P D vwCl ([(za, .inr (13, [.int 0, .ref z1, .int (nI z2), .int (nI z3), .int z4, .int z5, .ref z6, .ref z7, .ref z8, .ref z9, .int (nI z10), .ref z11, .ref z12, .ref z13, .ref z14, .ref z15, .int (nI w16_601), .ref z17, .int z18, .ref z19]))] ++ va_pl L M_599) H_597 := hP1
                                    have hD : va_D A ([(za, .inr (13, [.int 0, .ref z1, .int (nI z2), .int (nI z3), .int z4, .int z5, .ref z6, .ref z7, .ref z8, .ref z9, .int (nI z10), .ref z11, .ref z12, .ref z13, .ref z14, .ref z15, .int (nI w16_601), .ref z17, .int z18, .ref z19]))] ++ va_pl L M_599) := hD1.mono hFc
                                    have hF : fr K L [12, 14, 15, 32, 42, 45, 46, 79, 80, 81, 83] M M_599 := hF.tr hF2 (by decide)
                                    have hG : fG K L [1, 7, 8, 13, 14, 15, 16, 17, 18] M M_599 := hG.tr hWb hG2 (by decide)
                                    have hV : VW K L M M_599 b13 (va_up (fx M b13) 17 ((gnw447 : Nat) : Int)) (va_up (va_up (ax M b13) 44 gpw447) 45 gqw447) := hV.cal hWb hW hF2 hG2 (by decide) (by decide) hb_15
                                    refine lv_iinc (v := (nI (v7w464 + 1))) (lv' := [(7, .int (nI (v7w464 + 1))), (6, .int (nI v455)), (5, .int (-1)), (4, .int (nI c_391)), (3, .int (nI (c_28 + 1))), (2, .ref b13), (0, .ref za), (1, .int k1)]) hx hb dX13_close_269 hl (k := 0) rfl (nI_1 v7w464) (by decide) rfl (fun ls hl => ?_)
                                    refine lv_goto (tgt := 254) hx hb dX13_close_272 (by decide) ?_
                                    exact ih_462 (v7w464 + 1) w16_601 M_599 H_597 _ _ (by omega) (by omega) (by omega) hW hF hG hV hP hD hS (lv_sub hl [0, 1, 2, 3, 4, 5, 6, 7] rfl)
                              exact key_461 (1001 - 0 + 1) 0 z16 M_458 H_456 _ _ (by omega) (by omega) (by omega) hW hF hG hV hP hD hS (lv_sub hl [0, 1, 2, 3, 4, 5, 6, 7] rfl)
                            · have hz := rfl (a := 0)
                              have n_603 : ¬ (c_391 < v6w447) := fun q => c_452 ((iLT (a := c_391) (b := v6w447) (by omega) (by omega)).mpr q)
                              obtain ⟨fs604, hM604, hn604, hl604⟩ := hW.open_12 hb_15
                              obtain ⟨v605, hv605, hc605⟩ : ∃ v : Nat, fs604[17]? = some (.int (nI v) : Value) ∧ v ≤ 120 := hl604 17 (by decide)
                              have hx17 : ((gnw447 : Nat) : Int) = ((v605 : Nat) : Int) := (congrFun hV.2.1 17).symm.trans ((fx_of hM604 rfl hv605).trans (nI_toInt (by omega)))
                              obtain ⟨v606, hv606, hc606⟩ : ∃ v : Nat, fs604[44]? = some (.ref v : Value) ∧ isk K L v 45 120 := hl604 44 (by decide)
                              obtain ⟨f607, hM607, hf607⟩ := hW.open_45 hc606
                              have hy44 : gpw447 = f607 := (congrFun hV.2.2.1 44).symm.trans (ax_of hM604 (by decide) hv606 hM607)
                              obtain ⟨v608, hv608, hc608⟩ : ∃ v : Nat, fs604[45]? = some (.ref v : Value) ∧ isk K L v 46 120 := hl604 45 (by decide)
                              obtain ⟨f609, hM609, hf609⟩ := hW.open_46 hc608
                              have hy45 : gqw447 = f609 := (congrFun hV.2.2.1 45).symm.trans (ax_of hM604 (by decide) hv608 hM609)
                              have hSD := hx_449
                              obtain ⟨hs1, hs2, hs3, hs4⟩ := hx_449
                              have hgn : v605 = gnw447 := by omega
                              refine lv_iload hx hb dX13_close_171 (lv_at hl 0 rfl) ?_
                              refine lv_iload_n hx hb dX13_close_173 rfl (lv_at hl 3 rfl) ?_
                              refine lv_icmp_eq (tgt := 186) hx hb dX13_close_174 (by decide) (fun c_610 => ?_) (fun c_610 => ?_)
                              · have hz := rfl (a := 0)
                                have n_611 : v6w447 = (c_28 + 1) := (iEQ (a := v6w447) (b := (c_28 + 1)) (by omega) (by omega)).mp c_610
                                refine lv_aload_n hx hb dX13_close_186 rfl (lv_at hl 4 rfl) ?_
                                refine pg_getN (D := D) (ci := 12) (v := .ref v606) (C := RX12) (T := TX12) (N := 51) hx hb hg inG12 hown hK hP hb_15.1 hM604 rfl 44 (by decide) (hN.use (Cond.fieldLinkNest RX13 265 RX12 "stretchDay" "[I" RX13) 53 rfl rfl) (fun _ h9 => h9) hv606 dX13_close_187 ?_
                                refine lv_aload_n hx hb dX13_close_190 rfl (lv_at hl 4 rfl) ?_
                                refine pg_getN (D := D) (ci := 12) (v := .int (nI v605)) (C := RX12) (T := TX12) (N := 51) hx hb hg inG12 hown hK hP hb_15.1 hM604 rfl 17 (by decide) (hN.use (Cond.fieldLinkNest RX13 256 RX12 "stretches" "I" RX13) 26 rfl rfl) (fun _ h9 => h9) hv605 dX13_close_191 ?_
                                refine lv_iload hx hb dX13_close_194 (lv_at hl 0 rfl) ?_
                                refine pg_iast hx hb hK hP hD hS hc606.1 0 hM607 rfl (inbN v605 120 (by omega) (by omega)) dX13_close_196 (fun H_612 locs hP hD hS => ?_)
                                obtain ⟨M_613, eM_613⟩ : ∃ M1 : Hp, M1 = va_up M_450 v606 (.inl (cy 14, 120, .inl (upd f607 ((nI v605) : Int32).toNatClampNeg (nI v6w447)))) := ⟨_, rfl⟩
                                have hy44 : gpw447 = f607 := (congrFun hV.2.2.1 44).symm.trans (ax_of hM604 (by decide) hv606 hM607)
                                have hV : VW K L M M_613 b13 (va_up (fx M b13) 17 ((gnw447 : Nat) : Int)) (va_up (va_up (va_up (ax M b13) 44 gpw447) 45 gqw447) 44 (upd gpw447 ((nI v605) : Int32).toNatClampNeg (nI v6w447))) := by rw [eM_613]; exact hV.ast (j := 44) hW hb_15 hM604 (by decide) hv606 hc606 hM607
                                have hP : va_P D vwCl ([(za, .inr (13, [.int 0, .ref z1, .int (nI z2), .int (nI z3), .int z4, .int z5, .ref z6, .ref z7, .ref z8, .ref z9, .int (nI z10), .ref z11, .ref z12, .ref z13, .ref z14, .ref z15, .int (nI z16), .ref z17, .int z18, .ref z19]))] ++ va_pl L M_613) H_612 := by rw [eM_613]; exact hP
                                have hD : va_D A ([(za, .inr (13, [.int 0, .ref z1, .int (nI z2), .int (nI z3), .int z4, .int z5, .ref z6, .ref z7, .ref z8, .ref z9, .int (nI z10), .ref z11, .ref z12, .ref z13, .ref z14, .ref z15, .int (nI z16), .ref z17, .int z18, .ref z19]))] ++ va_pl L M_613) := by rw [eM_613]; exact hD
                                have hW : WOM cy K L M_613 := by rw [eM_613]; exact hW.up_45 hc606 ⟨_, rfl, (updP (P := fun z => ∃ c : Nat, c < 1000 ∧ z = nI c) hf607 ⟨v6w447, by omega, rfl⟩)⟩
                                have hF : fr K L [12, 14, 15, 32, 42, 45, 46, 79, 80, 81, 83] M M_613 := by rw [eM_613]; exact hF.up hc606 (by decide)
                                have hG : fG K L [1, 7, 8, 13, 14, 15, 16, 17, 18] M M_613 := by rw [eM_613]; exact hG.arr hc606 (by decide)
                                have hM_614 : M_613 v606 = .inl (cy 14, 120, .inl (upd f607 ((nI v605) : Int32).toNatClampNeg (nI v6w447))) := by rw [eM_613]; exact va_up_self _ _ _
                                have hM_615 : M_613 b13 = .inr (12, fs604) := by rw [eM_613, va_up_ne _ _ (hb_15.neT hc606 (by decide))]; exact hM604
                                have hM_616 : M_613 v608 = .inl (cy 14, 120, .inl (f609)) := by rw [eM_613, va_up_ne _ _ (hc608.neT hc606 (by decide))]; exact hM609
                                have hf_618 : ∀ j, j < 120 → ∃ c : Nat, c < 1000 ∧ (upd f607 ((nI v605) : Int32).toNatClampNeg (nI v6w447)) j = nI c := (updP (P := fun z => ∃ c : Nat, c < 1000 ∧ z = nI c) hf607 ⟨v6w447, by omega, rfl⟩)
                                obtain ⟨f_617, ef_617⟩ : ∃ f : Nat → Int32, f = upd f607 ((nI v605) : Int32).toNatClampNeg (nI v6w447) := ⟨_, rfl⟩
                                rw [← ef_617] at hM_614 hf_618
                                refine lv_aload_n hx hb dX13_close_197 rfl (lv_at hl 4 rfl) ?_
                                refine pg_getN (D := D) (ci := 12) (v := .ref v608) (C := RX12) (T := TX12) (N := 51) hx hb hg inG12 hown hK hP hb_15.1 hM_615 rfl 45 (by decide) (hN.use (Cond.fieldLinkNest RX13 268 RX12 "stretchDays" "[I" RX13) 54 rfl rfl) (fun _ h9 => h9) hv608 dX13_close_198 ?_
                                refine lv_aload_n hx hb dX13_close_201 rfl (lv_at hl 4 rfl) ?_
                                refine pg_getN (D := D) (ci := 12) (v := .int (nI v605)) (C := RX12) (T := TX12) (N := 51) hx hb hg inG12 hown hK hP hb_15.1 hM_615 rfl 17 (by decide) (hN.use (Cond.fieldLinkNest RX13 256 RX12 "stretches" "I" RX13) 26 rfl rfl) (fun _ h9 => h9) hv605 dX13_close_202 ?_
                                refine lv_iconst (v := 0) hx hb dX13_close_205 (by decide) ?_
                                refine pg_iast hx hb hK hP hD hS hc608.1 0 hM_616 rfl (inbN v605 120 (by omega) (by omega)) dX13_close_206 (fun H_619 locs hP hD hS => ?_)
                                obtain ⟨M_620, eM_620⟩ : ∃ M1 : Hp, M1 = va_up M_613 v608 (.inl (cy 14, 120, .inl (upd f609 ((nI v605) : Int32).toNatClampNeg 0))) := ⟨_, rfl⟩
                                have hy45 : gqw447 = f609 := (congrFun hV.2.2.1 45).symm.trans (ax_of hM_615 (by decide) hv608 hM_616)
                                have hV : VW K L M M_620 b13 (va_up (fx M b13) 17 ((gnw447 : Nat) : Int)) (va_up (va_up (va_up (va_up (ax M b13) 44 gpw447) 45 gqw447) 44 (upd gpw447 ((nI v605) : Int32).toNatClampNeg (nI v6w447))) 45 (upd gqw447 ((nI v605) : Int32).toNatClampNeg 0)) := by rw [eM_620]; exact hV.ast (j := 45) hW hb_15 hM_615 (by decide) hv608 hc608 hM_616
                                have hP : va_P D vwCl ([(za, .inr (13, [.int 0, .ref z1, .int (nI z2), .int (nI z3), .int z4, .int z5, .ref z6, .ref z7, .ref z8, .ref z9, .int (nI z10), .ref z11, .ref z12, .ref z13, .ref z14, .ref z15, .int (nI z16), .ref z17, .int z18, .ref z19]))] ++ va_pl L M_620) H_619 := by rw [eM_620]; exact hP
                                have hD : va_D A ([(za, .inr (13, [.int 0, .ref z1, .int (nI z2), .int (nI z3), .int z4, .int z5, .ref z6, .ref z7, .ref z8, .ref z9, .int (nI z10), .ref z11, .ref z12, .ref z13, .ref z14, .ref z15, .int (nI z16), .ref z17, .int z18, .ref z19]))] ++ va_pl L M_620) := by rw [eM_620]; exact hD
                                have hW : WOM cy K L M_620 := by rw [eM_620]; exact hW.up_46 hc608 ⟨_, rfl, (updP (P := fun z => ∃ c : Nat, c < 1001 ∧ z = nI c) hf609 ⟨0, by omega, rfl⟩)⟩
                                have hF : fr K L [12, 14, 15, 32, 42, 45, 46, 79, 80, 81, 83] M M_620 := by rw [eM_620]; exact hF.up hc608 (by decide)
                                have hG : fG K L [1, 7, 8, 13, 14, 15, 16, 17, 18] M M_620 := by rw [eM_620]; exact hG.arr hc608 (by decide)
                                have hM_621 : M_620 v608 = .inl (cy 14, 120, .inl (upd f609 ((nI v605) : Int32).toNatClampNeg 0)) := by rw [eM_620]; exact va_up_self _ _ _
                                have hM_622 : M_620 v606 = .inl (cy 14, 120, .inl (f_617)) := by rw [eM_620, va_up_ne _ _ (hc606.neT hc608 (by decide))]; exact hM_614
                                have hM_623 : M_620 b13 = .inr (12, fs604) := by rw [eM_620, va_up_ne _ _ (hb_15.neT hc608 (by decide))]; exact hM_615
                                have hf_625 : ∀ j, j < 120 → ∃ c : Nat, c < 1001 ∧ (upd f609 ((nI v605) : Int32).toNatClampNeg 0) j = nI c := (updP (P := fun z => ∃ c : Nat, c < 1001 ∧ z = nI c) hf609 ⟨0, by omega, rfl⟩)
                                obtain ⟨f_624, ef_624⟩ : ∃ f : Nat → Int32, f = upd f609 ((nI v605) : Int32).toNatClampNeg 0 := ⟨_, rfl⟩
                                rw [← ef_624] at hM_621 hf_625
                                refine lv_aload_n hx hb dX13_close_207 rfl (lv_at hl 4 rfl) ?_
                                refine lv_dup hx hb dX13_close_208 rfl ?_
                                refine pg_getN (D := D) (ci := 12) (v := .int (nI v605)) (C := RX12) (T := TX12) (N := 51) hx hb hg inG12 hown hK hP hb_15.1 hM_623 rfl 17 (by decide) (hN.use (Cond.fieldLinkNest RX13 256 RX12 "stretches" "I" RX13) 26 rfl rfl) (fun _ h9 => h9) hv605 dX13_close_209 ?_
                                refine lv_iconst (v := 1) hx hb dX13_close_212 (by decide) ?_
                                refine lv_iadd hx hb dX13_close_213 ?_
                                refine lv_topi (fun f_626 ef_626 => ?_)
                                obtain rfl : f_626 = (nI (v605 + 1)) := ef_626.trans (nI_add v605 1)
                                refine pg_putN (D := D) (ci := 12) (v := .int (nI (v605 + 1))) (ty := .int) (C := RX12) (T := TX12) (N := 51) hx hb hg inG12 tyX12 tyX12_ok nmX12 hown hK hP hD hS hb_15.1 hM_623 rfl 17 (by decide) (hN.use (Cond.fieldLinkNest RX13 256 RX12 "stretches" "I" RX13) 26 rfl rfl) (fun _ h9 => h9) rfl (by decide +kernel) rfl rfl (by rw [hn604]; decide) dX13_close_214 (fun H_627 locs hP hD hS => ?_)
                                have hs_630 : (fs604.set 17 (.int (nI (v605 + 1))))[17]? = some (.int (nI (v605 + 1))) := List.getElem?_set_self (by rw [hn604]; decide)
                                have hk_629 := fld12_set (k := 17) (w := .int (nI (v605 + 1))) hl604 (show fld12 K L 17 (fs604.set 17 (.int (nI (v605 + 1)))) from ⟨(v605 + 1), hs_630, by omega⟩)
                                have hn_631 : (fs604.set 17 (.int (nI (v605 + 1)))).length = 51 := by rw [List.length_set]; exact hn604
                                have hv_632 : (fs604.set 17 (.int (nI (v605 + 1))))[44]? = some (.ref v606) := by rw [List.getElem?_set_ne (by decide)]; exact hv606
                                have hv_633 : (fs604.set 17 (.int (nI (v605 + 1))))[45]? = some (.ref v608) := by rw [List.getElem?_set_ne (by decide)]; exact hv608
                                have hb_634 : (v605 + 1) ≤ 120 := by omega
                                obtain ⟨M_635, eM_635⟩ : ∃ M1 : Hp, M1 = va_up M_620 b13 (.inr (12, fs604.set 17 (.int (nI (v605 + 1))))) := ⟨_, rfl⟩
                                have hx17 : ((gnw447 : Nat) : Int) = ((v605 : Nat) : Int) := (congrFun hV.2.1 17).symm.trans ((fx_of hM_623 rfl hv605).trans (nI_toInt (by omega)))
                                have hV : VW K L M M_635 b13 (va_up (va_up (fx M b13) 17 ((gnw447 : Nat) : Int)) 17 (((v605 + 1) : Nat) : Int)) (va_up (va_up (va_up (va_up (ax M b13) 44 gpw447) 45 gqw447) 44 (upd gpw447 ((nI v605) : Int32).toNatClampNeg (nI v6w447))) 45 (upd gqw447 ((nI v605) : Int32).toNatClampNeg 0)) := by rw [eM_635]; exact hV.put hW hb_15 hM_623 hn604 rfl (by decide) rfl (nI_toInt (by omega))
                                have hP : va_P D vwCl ([(za, .inr (13, [.int 0, .ref z1, .int (nI z2), .int (nI z3), .int z4, .int z5, .ref z6, .ref z7, .ref z8, .ref z9, .int (nI z10), .ref z11, .ref z12, .ref z13, .ref z14, .ref z15, .int (nI z16), .ref z17, .int z18, .ref z19]))] ++ va_pl L M_635) H_627 := by rw [eM_635]; exact hP
                                have hD : va_D A ([(za, .inr (13, [.int 0, .ref z1, .int (nI z2), .int (nI z3), .int z4, .int z5, .ref z6, .ref z7, .ref z8, .ref z9, .int (nI z10), .ref z11, .ref z12, .ref z13, .ref z14, .ref z15, .int (nI z16), .ref z17, .int z18, .ref z19]))] ++ va_pl L M_635) := by rw [eM_635]; exact hD
                                have hW : WOM cy K L M_635 := by rw [eM_635]; exact hW.up_12 hb_15 ⟨_, rfl, hn_631, hk_629⟩
                                have hF : fr K L [12, 14, 15, 32, 42, 45, 46, 79, 80, 81, 83] M M_635 := by rw [eM_635]; exact hF.up hb_15 (by decide)
                                have hG : fG K L [1, 7, 8, 13, 14, 15, 16, 17, 18] M M_635 := by rw [eM_635]; exact hG.up hM_623 (by decide)
                                have hM_636 : M_635 b13 = .inr (12, fs604.set 17 (.int (nI (v605 + 1)))) := by rw [eM_635]; exact va_up_self _ _ _
                                have hM_637 : M_635 v608 = .inl (cy 14, 120, .inl (f_624)) := by rw [eM_635, va_up_ne _ _ (hc608.neT hb_15 (by decide))]; exact hM_621
                                have hM_638 : M_635 v606 = .inl (cy 14, 120, .inl (f_617)) := by rw [eM_635, va_up_ne _ _ (hc606.neT hb_15 (by decide))]; exact hM_622
                                refine lv_aload_n hx hb dX13_close_217 rfl (lv_at hl 4 rfl) ?_
                                refine pg_getN (D := D) (ci := 12) (v := .ref v608) (C := RX12) (T := TX12) (N := 51) hx hb hg inG12 hown hK hP hb_15.1 hM_636 rfl 45 (by decide) (hN.use (Cond.fieldLinkNest RX13 268 RX12 "stretchDays" "[I" RX13) 54 rfl rfl) (fun _ h9 => h9) hv_633 dX13_close_218 ?_
                                refine lv_aload_n hx hb dX13_close_221 rfl (lv_at hl 4 rfl) ?_
                                refine pg_getN (D := D) (ci := 12) (v := .int (nI (v605 + 1))) (C := RX12) (T := TX12) (N := 51) hx hb hg inG12 hown hK hP hb_15.1 hM_636 rfl 17 (by decide) (hN.use (Cond.fieldLinkNest RX13 256 RX12 "stretches" "I" RX13) 26 rfl rfl) (fun _ h9 => h9) hs_630 dX13_close_222 ?_
                                refine lv_iconst (v := 1) hx hb dX13_close_225 (by decide) ?_
                                refine lv_isub hx hb dX13_close_226 ?_
                                refine lv_topi (fun f_639 ef_639 => ?_)
                                obtain rfl : f_639 = (nI ((v605 + 1) - 1)) := ef_639.trans (nI_prd (by omega))
                                refine lv_dup2_11 hx hb dX13_close_227 rfl rfl ?_
                                have hi_640 : vp_in (nI ((v605 + 1) - 1)) 120 := (inbN ((v605 + 1) - 1) 120 (by omega) (by omega))
                                refine pg_iald hx hb hK hP hc608.1 0 hM_637 rfl hi_640 dX13_close_228 ?_
                                have hp_641 := hf_625 _ (vp_lt hi_640)
                                obtain ⟨c_642, hc_643, ec_644⟩ := hp_641
                                rw [ec_644]
                                have hy45 : (upd gqw447 ((nI v605) : Int32).toNatClampNeg 0) = f_624 := (congrFun hV.2.2.1 45).symm.trans (ax_of hM_636 (by decide) hv_633 hM_637)
                                have hec : (upd gqw447 ((nI v605) : Int32).toNatClampNeg 0) ((nI ((v605 + 1) - 1)) : Int32).toNatClampNeg = nI c_642 := by rw [hy45]; exact ec_644
                                have hcc : c_642 = 0 := updz (n := v605) (nI_cl (by omega)) ((nI_cl (by omega)).trans (by omega)) hec (by omega)
                                refine lv_iconst (v := 1) hx hb dX13_close_229 (by decide) ?_
                                refine lv_iadd hx hb dX13_close_230 ?_
                                refine lv_topi (fun f_645 ef_645 => ?_)
                                obtain rfl : f_645 = (nI (c_642 + 1)) := ef_645.trans (nI_add c_642 1)
                                refine pg_iast hx hb hK hP hD hS hc608.1 0 hM_637 rfl (inbN ((v605 + 1) - 1) 120 (by omega) (by omega)) dX13_close_231 (fun H_646 locs hP hD hS => ?_)
                                obtain ⟨M_647, eM_647⟩ : ∃ M1 : Hp, M1 = va_up M_635 v608 (.inl (cy 14, 120, .inl (upd f_624 ((nI ((v605 + 1) - 1)) : Int32).toNatClampNeg (nI (c_642 + 1))))) := ⟨_, rfl⟩
                                have hy45 : (upd gqw447 ((nI v605) : Int32).toNatClampNeg 0) = f_624 := (congrFun hV.2.2.1 45).symm.trans (ax_of hM_636 (by decide) hv_633 hM_637)
                                have hV : VW K L M M_647 b13 (va_up (va_up (fx M b13) 17 ((gnw447 : Nat) : Int)) 17 (((v605 + 1) : Nat) : Int)) (va_up (va_up (va_up (va_up (va_up (ax M b13) 44 gpw447) 45 gqw447) 44 (upd gpw447 ((nI v605) : Int32).toNatClampNeg (nI v6w447))) 45 (upd gqw447 ((nI v605) : Int32).toNatClampNeg 0)) 45 (upd (upd gqw447 ((nI v605) : Int32).toNatClampNeg 0) ((nI ((v605 + 1) - 1)) : Int32).toNatClampNeg (nI (c_642 + 1)))) := by rw [eM_647]; exact hV.ast (j := 45) hW hb_15 hM_636 (by decide) hv_633 hc608 hM_637
                                have hP : va_P D vwCl ([(za, .inr (13, [.int 0, .ref z1, .int (nI z2), .int (nI z3), .int z4, .int z5, .ref z6, .ref z7, .ref z8, .ref z9, .int (nI z10), .ref z11, .ref z12, .ref z13, .ref z14, .ref z15, .int (nI z16), .ref z17, .int z18, .ref z19]))] ++ va_pl L M_647) H_646 := by rw [eM_647]; exact hP
                                have hD : va_D A ([(za, .inr (13, [.int 0, .ref z1, .int (nI z2), .int (nI z3), .int z4, .int z5, .ref z6, .ref z7, .ref z8, .ref z9, .int (nI z10), .ref z11, .ref z12, .ref z13, .ref z14, .ref z15, .int (nI z16), .ref z17, .int z18, .ref z19]))] ++ va_pl L M_647) := by rw [eM_647]; exact hD
                                have hW : WOM cy K L M_647 := by rw [eM_647]; exact hW.up_46 hc608 ⟨_, rfl, (updP (P := fun z => ∃ c : Nat, c < 1001 ∧ z = nI c) hf_625 ⟨(c_642 + 1), by omega, rfl⟩)⟩
                                have hF : fr K L [12, 14, 15, 32, 42, 45, 46, 79, 80, 81, 83] M M_647 := by rw [eM_647]; exact hF.up hc608 (by decide)
                                have hG : fG K L [1, 7, 8, 13, 14, 15, 16, 17, 18] M M_647 := by rw [eM_647]; exact hG.arr hc608 (by decide)
                                have hM_648 : M_647 v608 = .inl (cy 14, 120, .inl (upd f_624 ((nI ((v605 + 1) - 1)) : Int32).toNatClampNeg (nI (c_642 + 1)))) := by rw [eM_647]; exact va_up_self _ _ _
                                have hM_649 : M_647 b13 = .inr (12, fs604.set 17 (.int (nI (v605 + 1)))) := by rw [eM_647, va_up_ne _ _ (hb_15.neT hc608 (by decide))]; exact hM_636
                                have hM_650 : M_647 v606 = .inl (cy 14, 120, .inl (f_617)) := by rw [eM_647, va_up_ne _ _ (hc606.neT hc608 (by decide))]; exact hM_638
                                have hf_652 : ∀ j, j < 120 → ∃ c : Nat, c < 1001 ∧ (upd f_624 ((nI ((v605 + 1) - 1)) : Int32).toNatClampNeg (nI (c_642 + 1))) j = nI c := (updP (P := fun z => ∃ c : Nat, c < 1001 ∧ z = nI c) hf_625 ⟨(c_642 + 1), by omega, rfl⟩)
                                obtain ⟨f_651, ef_651⟩ : ∃ f : Nat → Int32, f = upd f_624 ((nI ((v605 + 1) - 1)) : Int32).toNatClampNeg (nI (c_642 + 1)) := ⟨_, rfl⟩
                                rw [← ef_651] at hM_648 hf_652
                                refine lv_iinc (v := (nI (v6w447 + 1))) (lv' := [(6, .int (nI (v6w447 + 1))), (5, .int (-1)), (4, .int (nI c_391)), (3, .int (nI (c_28 + 1))), (2, .ref b13), (0, .ref za), (1, .int k1)]) hx hb dX13_close_232 hl (k := 0) rfl (nI_1 v6w447) (by decide) rfl (fun ls hl => ?_)
                                refine lv_goto (tgt := 164) hx hb dX13_close_235 (by decide) ?_
                                exact ih_445 (v6w447 + 1) (v605 + 1) (upd gpw447 ((nI v605) : Int32).toNatClampNeg (nI v6w447)) (upd (upd gqw447 ((nI v605) : Int32).toNatClampNeg 0) ((nI ((v605 + 1) - 1)) : Int32).toNatClampNeg (nI (c_642 + 1))) M_647 H_646 _ _ (by omega) (by omega) (by have h := SD.new hSD (by omega) (show (nI v605).toNatClampNeg = gnw447 from (nI_cl (by omega)).trans (by omega)) (show (nI ((v605 + 1) - 1)).toNatClampNeg = gnw447 from (nI_cl (by omega)).trans (by omega)) hcc; rw [← hgn] at h; exact h) hW hF hG (by have h := hV; simp only [va_up_up] at h; rw [va_up_4] at h; exact h) hP hD hS (lv_sub hl [0, 1, 2, 3, 4, 5, 6] rfl)
                              · have hz := rfl (a := 0)
                                have n_653 : ¬ (v6w447 = (c_28 + 1)) := fun q => c_610 ((iEQ (a := v6w447) (b := (c_28 + 1)) (by omega) (by omega)).mpr q)
                                refine lv_aload_n hx hb dX13_close_177 rfl (lv_at hl 4 rfl) ?_
                                refine lv_iload hx hb dX13_close_178 (lv_at hl 0 rfl) ?_
                                have hPc : va_P D vwCl ([] ++ va_pl L M_450) H_451 := hP.part (cx := []) [] rfl
                                have hDc : va_D A ([] ++ va_pl L M_450) := hD.part (cx := []) [] (by decide) rfl
                                have hFc : ∀ q, va_A ([] ++ va_pl L M_450) H_451.size q → A q := pg_free hDc hS hA
                                refine va_calli (va_runS (As := [.ref b13, .int (nI v6w447)]) (rest := []) ⟨hx, hb, hml, hown, hg⟩ (r_X13_isParted l D cy K L M_450 H_451.size b13 (nI v6w447)  hW hb_15) (va_cwS 2 hg (gS wd_879 wd_880 wd_717 wd_881) rfl rfl rfl (by decide +kernel) ⟨(Nat.le_trans (Nat.le_of_ble_eq_true rfl) hRf), (Nat.le_trans (Nat.le_of_ble_eq_true rfl) hRl)⟩) ⟨PG.blind, fun U hU hW => ⟨rfl, PG.at hPc hK hDc hN hU hW⟩⟩ rfl rfl hl.1 rfl (lv_room (Nat.le_of_ble_eq_true rfl)) dX13_close_180 ⟨(Nat.le_trans (Nat.le_of_ble_eq_true rfl) hRc), (Nat.le_trans (Nat.le_of_ble_eq_true rfl) hRs)⟩) hS (fun q _ h => hFc q h) hFc (fun r_655 M_656 t H_654 locs ht hvm hw hB hz1 hk1 hS => ?_)
                                have hp_657 := hw
                                obtain ⟨hP1, hD1⟩ := hB
                                rw [ht] at hP1
                                obtain ⟨hP, hD⟩ := va_joinP (X := [(za, .inr (13, [.int 0, .ref z1, .int (nI z2), .int (nI z3), .int z4, .int z5, .ref z6, .ref z7, .ref z8, .ref z9, .int (nI z10), .ref z11, .ref z12, .ref z13, .ref z14, .ref z15, .int (nI z16), .ref z17, .int z18, .ref z19]))]) (cx := []) (wr := [(za, .inr (13, [.int 0, .ref z1, .int (nI z2), .int (nI z3), .int z4, .int z5, .ref z6, .ref z7, .ref z8, .ref z9, .int (nI z10), .ref z11, .ref z12, .ref z13, .ref z14, .ref z15, .int (nI z16), .ref z17, .int z18, .ref z19]))]) (rx := []) (pl := va_pl L M_450) (pl1 := va_pl L M_450) hP hD [] [0] rfl rfl (by decide) (by decide) hk1 hFc hP1 hD1
                                have hP : va_P D vwCl ([(za, .inr (13, [.int 0, .ref z1, .int (nI z2), .int (nI z3), .int z4, .int z5, .ref z6, .ref z7, .ref z8, .ref z9, .int (nI z10), .ref z11, .ref z12, .ref z13, .ref z14, .ref z15, .int (nI z16), .ref z17, .int z18, .ref z19]))] ++ va_pl L M_450) H_654 := hP
                                have hD : va_D A ([(za, .inr (13, [.int 0, .ref z1, .int (nI z2), .int (nI z3), .int z4, .int z5, .ref z6, .ref z7, .ref z8, .ref z9, .int (nI z10), .ref z11, .ref z12, .ref z13, .ref z14, .ref z15, .int (nI z16), .ref z17, .int z18, .ref z19]))] ++ va_pl L M_450) := hD
                                rcases hp_657 with rfl | rfl
                                · have hz := rfl (a := 0)
                                  refine lv_if_eq (tgt := 217) hx hb dX13_close_183 (by decide) (fun c_658 => absurd c_658 (by decide)) (fun _ => ?_)
                                  refine lv_aload_n hx hb dX13_close_186 rfl (lv_at hl 4 rfl) ?_
                                  refine pg_getN (D := D) (ci := 12) (v := .ref v606) (C := RX12) (T := TX12) (N := 51) hx hb hg inG12 hown hK hP hb_15.1 hM604 rfl 44 (by decide) (hN.use (Cond.fieldLinkNest RX13 265 RX12 "stretchDay" "[I" RX13) 53 rfl rfl) (fun _ h9 => h9) hv606 dX13_close_187 ?_
                                  refine lv_aload_n hx hb dX13_close_190 rfl (lv_at hl 4 rfl) ?_
                                  refine pg_getN (D := D) (ci := 12) (v := .int (nI v605)) (C := RX12) (T := TX12) (N := 51) hx hb hg inG12 hown hK hP hb_15.1 hM604 rfl 17 (by decide) (hN.use (Cond.fieldLinkNest RX13 256 RX12 "stretches" "I" RX13) 26 rfl rfl) (fun _ h9 => h9) hv605 dX13_close_191 ?_
                                  refine lv_iload hx hb dX13_close_194 (lv_at hl 0 rfl) ?_
                                  refine pg_iast hx hb hK hP hD hS hc606.1 0 hM607 rfl (inbN v605 120 (by omega) (by omega)) dX13_close_196 (fun H_659 locs hP hD hS => ?_)
                                  obtain ⟨M_660, eM_660⟩ : ∃ M1 : Hp, M1 = va_up M_450 v606 (.inl (cy 14, 120, .inl (upd f607 ((nI v605) : Int32).toNatClampNeg (nI v6w447)))) := ⟨_, rfl⟩
                                  have hy44 : gpw447 = f607 := (congrFun hV.2.2.1 44).symm.trans (ax_of hM604 (by decide) hv606 hM607)
                                  have hV : VW K L M M_660 b13 (va_up (fx M b13) 17 ((gnw447 : Nat) : Int)) (va_up (va_up (va_up (ax M b13) 44 gpw447) 45 gqw447) 44 (upd gpw447 ((nI v605) : Int32).toNatClampNeg (nI v6w447))) := by rw [eM_660]; exact hV.ast (j := 44) hW hb_15 hM604 (by decide) hv606 hc606 hM607
                                  have hP : va_P D vwCl ([(za, .inr (13, [.int 0, .ref z1, .int (nI z2), .int (nI z3), .int z4, .int z5, .ref z6, .ref z7, .ref z8, .ref z9, .int (nI z10), .ref z11, .ref z12, .ref z13, .ref z14, .ref z15, .int (nI z16), .ref z17, .int z18, .ref z19]))] ++ va_pl L M_660) H_659 := by rw [eM_660]; exact hP
                                  have hD : va_D A ([(za, .inr (13, [.int 0, .ref z1, .int (nI z2), .int (nI z3), .int z4, .int z5, .ref z6, .ref z7, .ref z8, .ref z9, .int (nI z10), .ref z11, .ref z12, .ref z13, .ref z14, .ref z15, .int (nI z16), .ref z17, .int z18, .ref z19]))] ++ va_pl L M_660) := by rw [eM_660]; exact hD
                                  have hW : WOM cy K L M_660 := by rw [eM_660]; exact hW.up_45 hc606 ⟨_, rfl, (updP (P := fun z => ∃ c : Nat, c < 1000 ∧ z = nI c) hf607 ⟨v6w447, by omega, rfl⟩)⟩
                                  have hF : fr K L [12, 14, 15, 32, 42, 45, 46, 79, 80, 81, 83] M M_660 := by rw [eM_660]; exact hF.up hc606 (by decide)
                                  have hG : fG K L [1, 7, 8, 13, 14, 15, 16, 17, 18] M M_660 := by rw [eM_660]; exact hG.arr hc606 (by decide)
                                  have hM_661 : M_660 v606 = .inl (cy 14, 120, .inl (upd f607 ((nI v605) : Int32).toNatClampNeg (nI v6w447))) := by rw [eM_660]; exact va_up_self _ _ _
                                  have hM_662 : M_660 b13 = .inr (12, fs604) := by rw [eM_660, va_up_ne _ _ (hb_15.neT hc606 (by decide))]; exact hM604
                                  have hM_663 : M_660 v608 = .inl (cy 14, 120, .inl (f609)) := by rw [eM_660, va_up_ne _ _ (hc608.neT hc606 (by decide))]; exact hM609
                                  have hf_665 : ∀ j, j < 120 → ∃ c : Nat, c < 1000 ∧ (upd f607 ((nI v605) : Int32).toNatClampNeg (nI v6w447)) j = nI c := (updP (P := fun z => ∃ c : Nat, c < 1000 ∧ z = nI c) hf607 ⟨v6w447, by omega, rfl⟩)
                                  obtain ⟨f_664, ef_664⟩ : ∃ f : Nat → Int32, f = upd f607 ((nI v605) : Int32).toNatClampNeg (nI v6w447) := ⟨_, rfl⟩
                                  rw [← ef_664] at hM_661 hf_665
                                  refine lv_aload_n hx hb dX13_close_197 rfl (lv_at hl 4 rfl) ?_
                                  refine pg_getN (D := D) (ci := 12) (v := .ref v608) (C := RX12) (T := TX12) (N := 51) hx hb hg inG12 hown hK hP hb_15.1 hM_662 rfl 45 (by decide) (hN.use (Cond.fieldLinkNest RX13 268 RX12 "stretchDays" "[I" RX13) 54 rfl rfl) (fun _ h9 => h9) hv608 dX13_close_198 ?_
                                  refine lv_aload_n hx hb dX13_close_201 rfl (lv_at hl 4 rfl) ?_
                                  refine pg_getN (D := D) (ci := 12) (v := .int (nI v605)) (C := RX12) (T := TX12) (N := 51) hx hb hg inG12 hown hK hP hb_15.1 hM_662 rfl 17 (by decide) (hN.use (Cond.fieldLinkNest RX13 256 RX12 "stretches" "I" RX13) 26 rfl rfl) (fun _ h9 => h9) hv605 dX13_close_202 ?_
                                  refine lv_iconst (v := 0) hx hb dX13_close_205 (by decide) ?_
                                  refine pg_iast hx hb hK hP hD hS hc608.1 0 hM_663 rfl (inbN v605 120 (by omega) (by omega)) dX13_close_206 (fun H_666 locs hP hD hS => ?_)
                                  obtain ⟨M_667, eM_667⟩ : ∃ M1 : Hp, M1 = va_up M_660 v608 (.inl (cy 14, 120, .inl (upd f609 ((nI v605) : Int32).toNatClampNeg 0))) := ⟨_, rfl⟩
                                  have hy45 : gqw447 = f609 := (congrFun hV.2.2.1 45).symm.trans (ax_of hM_662 (by decide) hv608 hM_663)
                                  have hV : VW K L M M_667 b13 (va_up (fx M b13) 17 ((gnw447 : Nat) : Int)) (va_up (va_up (va_up (va_up (ax M b13) 44 gpw447) 45 gqw447) 44 (upd gpw447 ((nI v605) : Int32).toNatClampNeg (nI v6w447))) 45 (upd gqw447 ((nI v605) : Int32).toNatClampNeg 0)) := by rw [eM_667]; exact hV.ast (j := 45) hW hb_15 hM_662 (by decide) hv608 hc608 hM_663
                                  have hP : va_P D vwCl ([(za, .inr (13, [.int 0, .ref z1, .int (nI z2), .int (nI z3), .int z4, .int z5, .ref z6, .ref z7, .ref z8, .ref z9, .int (nI z10), .ref z11, .ref z12, .ref z13, .ref z14, .ref z15, .int (nI z16), .ref z17, .int z18, .ref z19]))] ++ va_pl L M_667) H_666 := by rw [eM_667]; exact hP
                                  have hD : va_D A ([(za, .inr (13, [.int 0, .ref z1, .int (nI z2), .int (nI z3), .int z4, .int z5, .ref z6, .ref z7, .ref z8, .ref z9, .int (nI z10), .ref z11, .ref z12, .ref z13, .ref z14, .ref z15, .int (nI z16), .ref z17, .int z18, .ref z19]))] ++ va_pl L M_667) := by rw [eM_667]; exact hD
                                  have hW : WOM cy K L M_667 := by rw [eM_667]; exact hW.up_46 hc608 ⟨_, rfl, (updP (P := fun z => ∃ c : Nat, c < 1001 ∧ z = nI c) hf609 ⟨0, by omega, rfl⟩)⟩
                                  have hF : fr K L [12, 14, 15, 32, 42, 45, 46, 79, 80, 81, 83] M M_667 := by rw [eM_667]; exact hF.up hc608 (by decide)
                                  have hG : fG K L [1, 7, 8, 13, 14, 15, 16, 17, 18] M M_667 := by rw [eM_667]; exact hG.arr hc608 (by decide)
                                  have hM_668 : M_667 v608 = .inl (cy 14, 120, .inl (upd f609 ((nI v605) : Int32).toNatClampNeg 0)) := by rw [eM_667]; exact va_up_self _ _ _
                                  have hM_669 : M_667 v606 = .inl (cy 14, 120, .inl (f_664)) := by rw [eM_667, va_up_ne _ _ (hc606.neT hc608 (by decide))]; exact hM_661
                                  have hM_670 : M_667 b13 = .inr (12, fs604) := by rw [eM_667, va_up_ne _ _ (hb_15.neT hc608 (by decide))]; exact hM_662
                                  have hf_672 : ∀ j, j < 120 → ∃ c : Nat, c < 1001 ∧ (upd f609 ((nI v605) : Int32).toNatClampNeg 0) j = nI c := (updP (P := fun z => ∃ c : Nat, c < 1001 ∧ z = nI c) hf609 ⟨0, by omega, rfl⟩)
                                  obtain ⟨f_671, ef_671⟩ : ∃ f : Nat → Int32, f = upd f609 ((nI v605) : Int32).toNatClampNeg 0 := ⟨_, rfl⟩
                                  rw [← ef_671] at hM_668 hf_672
                                  refine lv_aload_n hx hb dX13_close_207 rfl (lv_at hl 4 rfl) ?_
                                  refine lv_dup hx hb dX13_close_208 rfl ?_
                                  refine pg_getN (D := D) (ci := 12) (v := .int (nI v605)) (C := RX12) (T := TX12) (N := 51) hx hb hg inG12 hown hK hP hb_15.1 hM_670 rfl 17 (by decide) (hN.use (Cond.fieldLinkNest RX13 256 RX12 "stretches" "I" RX13) 26 rfl rfl) (fun _ h9 => h9) hv605 dX13_close_209 ?_
                                  refine lv_iconst (v := 1) hx hb dX13_close_212 (by decide) ?_
                                  refine lv_iadd hx hb dX13_close_213 ?_
                                  refine lv_topi (fun f_673 ef_673 => ?_)
                                  obtain rfl : f_673 = (nI (v605 + 1)) := ef_673.trans (nI_add v605 1)
                                  refine pg_putN (D := D) (ci := 12) (v := .int (nI (v605 + 1))) (ty := .int) (C := RX12) (T := TX12) (N := 51) hx hb hg inG12 tyX12 tyX12_ok nmX12 hown hK hP hD hS hb_15.1 hM_670 rfl 17 (by decide) (hN.use (Cond.fieldLinkNest RX13 256 RX12 "stretches" "I" RX13) 26 rfl rfl) (fun _ h9 => h9) rfl (by decide +kernel) rfl rfl (by rw [hn604]; decide) dX13_close_214 (fun H_674 locs hP hD hS => ?_)
                                  have hs_677 : (fs604.set 17 (.int (nI (v605 + 1))))[17]? = some (.int (nI (v605 + 1))) := List.getElem?_set_self (by rw [hn604]; decide)
                                  have hk_676 := fld12_set (k := 17) (w := .int (nI (v605 + 1))) hl604 (show fld12 K L 17 (fs604.set 17 (.int (nI (v605 + 1)))) from ⟨(v605 + 1), hs_677, by omega⟩)
                                  have hn_678 : (fs604.set 17 (.int (nI (v605 + 1)))).length = 51 := by rw [List.length_set]; exact hn604
                                  have hv_679 : (fs604.set 17 (.int (nI (v605 + 1))))[44]? = some (.ref v606) := by rw [List.getElem?_set_ne (by decide)]; exact hv606
                                  have hv_680 : (fs604.set 17 (.int (nI (v605 + 1))))[45]? = some (.ref v608) := by rw [List.getElem?_set_ne (by decide)]; exact hv608
                                  have hb_681 : (v605 + 1) ≤ 120 := by omega
                                  obtain ⟨M_682, eM_682⟩ : ∃ M1 : Hp, M1 = va_up M_667 b13 (.inr (12, fs604.set 17 (.int (nI (v605 + 1))))) := ⟨_, rfl⟩
                                  have hx17 : ((gnw447 : Nat) : Int) = ((v605 : Nat) : Int) := (congrFun hV.2.1 17).symm.trans ((fx_of hM_670 rfl hv605).trans (nI_toInt (by omega)))
                                  have hV : VW K L M M_682 b13 (va_up (va_up (fx M b13) 17 ((gnw447 : Nat) : Int)) 17 (((v605 + 1) : Nat) : Int)) (va_up (va_up (va_up (va_up (ax M b13) 44 gpw447) 45 gqw447) 44 (upd gpw447 ((nI v605) : Int32).toNatClampNeg (nI v6w447))) 45 (upd gqw447 ((nI v605) : Int32).toNatClampNeg 0)) := by rw [eM_682]; exact hV.put hW hb_15 hM_670 hn604 rfl (by decide) rfl (nI_toInt (by omega))
                                  have hP : va_P D vwCl ([(za, .inr (13, [.int 0, .ref z1, .int (nI z2), .int (nI z3), .int z4, .int z5, .ref z6, .ref z7, .ref z8, .ref z9, .int (nI z10), .ref z11, .ref z12, .ref z13, .ref z14, .ref z15, .int (nI z16), .ref z17, .int z18, .ref z19]))] ++ va_pl L M_682) H_674 := by rw [eM_682]; exact hP
                                  have hD : va_D A ([(za, .inr (13, [.int 0, .ref z1, .int (nI z2), .int (nI z3), .int z4, .int z5, .ref z6, .ref z7, .ref z8, .ref z9, .int (nI z10), .ref z11, .ref z12, .ref z13, .ref z14, .ref z15, .int (nI z16), .ref z17, .int z18, .ref z19]))] ++ va_pl L M_682) := by rw [eM_682]; exact hD
                                  have hW : WOM cy K L M_682 := by rw [eM_682]; exact hW.up_12 hb_15 ⟨_, rfl, hn_678, hk_676⟩
                                  have hF : fr K L [12, 14, 15, 32, 42, 45, 46, 79, 80, 81, 83] M M_682 := by rw [eM_682]; exact hF.up hb_15 (by decide)
                                  have hG : fG K L [1, 7, 8, 13, 14, 15, 16, 17, 18] M M_682 := by rw [eM_682]; exact hG.up hM_670 (by decide)
                                  have hM_683 : M_682 b13 = .inr (12, fs604.set 17 (.int (nI (v605 + 1)))) := by rw [eM_682]; exact va_up_self _ _ _
                                  have hM_684 : M_682 v608 = .inl (cy 14, 120, .inl (f_671)) := by rw [eM_682, va_up_ne _ _ (hc608.neT hb_15 (by decide))]; exact hM_668
                                  have hM_685 : M_682 v606 = .inl (cy 14, 120, .inl (f_664)) := by rw [eM_682, va_up_ne _ _ (hc606.neT hb_15 (by decide))]; exact hM_669
                                  refine lv_aload_n hx hb dX13_close_217 rfl (lv_at hl 4 rfl) ?_
                                  refine pg_getN (D := D) (ci := 12) (v := .ref v608) (C := RX12) (T := TX12) (N := 51) hx hb hg inG12 hown hK hP hb_15.1 hM_683 rfl 45 (by decide) (hN.use (Cond.fieldLinkNest RX13 268 RX12 "stretchDays" "[I" RX13) 54 rfl rfl) (fun _ h9 => h9) hv_680 dX13_close_218 ?_
                                  refine lv_aload_n hx hb dX13_close_221 rfl (lv_at hl 4 rfl) ?_
                                  refine pg_getN (D := D) (ci := 12) (v := .int (nI (v605 + 1))) (C := RX12) (T := TX12) (N := 51) hx hb hg inG12 hown hK hP hb_15.1 hM_683 rfl 17 (by decide) (hN.use (Cond.fieldLinkNest RX13 256 RX12 "stretches" "I" RX13) 26 rfl rfl) (fun _ h9 => h9) hs_677 dX13_close_222 ?_
                                  refine lv_iconst (v := 1) hx hb dX13_close_225 (by decide) ?_
                                  refine lv_isub hx hb dX13_close_226 ?_
                                  refine lv_topi (fun f_686 ef_686 => ?_)
                                  obtain rfl : f_686 = (nI ((v605 + 1) - 1)) := ef_686.trans (nI_prd (by omega))
                                  refine lv_dup2_11 hx hb dX13_close_227 rfl rfl ?_
                                  have hi_687 : vp_in (nI ((v605 + 1) - 1)) 120 := (inbN ((v605 + 1) - 1) 120 (by omega) (by omega))
                                  refine pg_iald hx hb hK hP hc608.1 0 hM_684 rfl hi_687 dX13_close_228 ?_
                                  have hp_688 := hf_672 _ (vp_lt hi_687)
                                  obtain ⟨c_689, hc_690, ec_691⟩ := hp_688
                                  rw [ec_691]
                                  have hy45 : (upd gqw447 ((nI v605) : Int32).toNatClampNeg 0) = f_671 := (congrFun hV.2.2.1 45).symm.trans (ax_of hM_683 (by decide) hv_680 hM_684)
                                  have hec : (upd gqw447 ((nI v605) : Int32).toNatClampNeg 0) ((nI ((v605 + 1) - 1)) : Int32).toNatClampNeg = nI c_689 := by rw [hy45]; exact ec_691
                                  have hcc : c_689 = 0 := updz (n := v605) (nI_cl (by omega)) ((nI_cl (by omega)).trans (by omega)) hec (by omega)
                                  refine lv_iconst (v := 1) hx hb dX13_close_229 (by decide) ?_
                                  refine lv_iadd hx hb dX13_close_230 ?_
                                  refine lv_topi (fun f_692 ef_692 => ?_)
                                  obtain rfl : f_692 = (nI (c_689 + 1)) := ef_692.trans (nI_add c_689 1)
                                  refine pg_iast hx hb hK hP hD hS hc608.1 0 hM_684 rfl (inbN ((v605 + 1) - 1) 120 (by omega) (by omega)) dX13_close_231 (fun H_693 locs hP hD hS => ?_)
                                  obtain ⟨M_694, eM_694⟩ : ∃ M1 : Hp, M1 = va_up M_682 v608 (.inl (cy 14, 120, .inl (upd f_671 ((nI ((v605 + 1) - 1)) : Int32).toNatClampNeg (nI (c_689 + 1))))) := ⟨_, rfl⟩
                                  have hy45 : (upd gqw447 ((nI v605) : Int32).toNatClampNeg 0) = f_671 := (congrFun hV.2.2.1 45).symm.trans (ax_of hM_683 (by decide) hv_680 hM_684)
                                  have hV : VW K L M M_694 b13 (va_up (va_up (fx M b13) 17 ((gnw447 : Nat) : Int)) 17 (((v605 + 1) : Nat) : Int)) (va_up (va_up (va_up (va_up (va_up (ax M b13) 44 gpw447) 45 gqw447) 44 (upd gpw447 ((nI v605) : Int32).toNatClampNeg (nI v6w447))) 45 (upd gqw447 ((nI v605) : Int32).toNatClampNeg 0)) 45 (upd (upd gqw447 ((nI v605) : Int32).toNatClampNeg 0) ((nI ((v605 + 1) - 1)) : Int32).toNatClampNeg (nI (c_689 + 1)))) := by rw [eM_694]; exact hV.ast (j := 45) hW hb_15 hM_683 (by decide) hv_680 hc608 hM_684
                                  have hP : va_P D vwCl ([(za, .inr (13, [.int 0, .ref z1, .int (nI z2), .int (nI z3), .int z4, .int z5, .ref z6, .ref z7, .ref z8, .ref z9, .int (nI z10), .ref z11, .ref z12, .ref z13, .ref z14, .ref z15, .int (nI z16), .ref z17, .int z18, .ref z19]))] ++ va_pl L M_694) H_693 := by rw [eM_694]; exact hP
                                  have hD : va_D A ([(za, .inr (13, [.int 0, .ref z1, .int (nI z2), .int (nI z3), .int z4, .int z5, .ref z6, .ref z7, .ref z8, .ref z9, .int (nI z10), .ref z11, .ref z12, .ref z13, .ref z14, .ref z15, .int (nI z16), .ref z17, .int z18, .ref z19]))] ++ va_pl L M_694) := by rw [eM_694]; exact hD
                                  have hW : WOM cy K L M_694 := by rw [eM_694]; exact hW.up_46 hc608 ⟨_, rfl, (updP (P := fun z => ∃ c : Nat, c < 1001 ∧ z = nI c) hf_672 ⟨(c_689 + 1), by omega, rfl⟩)⟩
                                  have hF : fr K L [12, 14, 15, 32, 42, 45, 46, 79, 80, 81, 83] M M_694 := by rw [eM_694]; exact hF.up hc608 (by decide)
                                  have hG : fG K L [1, 7, 8, 13, 14, 15, 16, 17, 18] M M_694 := by rw [eM_694]; exact hG.arr hc608 (by decide)
                                  have hM_695 : M_694 v608 = .inl (cy 14, 120, .inl (upd f_671 ((nI ((v605 + 1) - 1)) : Int32).toNatClampNeg (nI (c_689 + 1)))) := by rw [eM_694]; exact va_up_self _ _ _
                                  have hM_696 : M_694 b13 = .inr (12, fs604.set 17 (.int (nI (v605 + 1)))) := by rw [eM_694, va_up_ne _ _ (hb_15.neT hc608 (by decide))]; exact hM_683
                                  have hM_697 : M_694 v606 = .inl (cy 14, 120, .inl (f_664)) := by rw [eM_694, va_up_ne _ _ (hc606.neT hc608 (by decide))]; exact hM_685
                                  have hf_699 : ∀ j, j < 120 → ∃ c : Nat, c < 1001 ∧ (upd f_671 ((nI ((v605 + 1) - 1)) : Int32).toNatClampNeg (nI (c_689 + 1))) j = nI c := (updP (P := fun z => ∃ c : Nat, c < 1001 ∧ z = nI c) hf_672 ⟨(c_689 + 1), by omega, rfl⟩)
                                  obtain ⟨f_698, ef_698⟩ : ∃ f : Nat → Int32, f = upd f_671 ((nI ((v605 + 1) - 1)) : Int32).toNatClampNeg (nI (c_689 + 1)) := ⟨_, rfl⟩
                                  rw [← ef_698] at hM_695 hf_699
                                  refine lv_iinc (v := (nI (v6w447 + 1))) (lv' := [(6, .int (nI (v6w447 + 1))), (5, .int (-1)), (4, .int (nI c_391)), (3, .int (nI (c_28 + 1))), (2, .ref b13), (0, .ref za), (1, .int k1)]) hx hb dX13_close_232 hl (k := 0) rfl (nI_1 v6w447) (by decide) rfl (fun ls hl => ?_)
                                  refine lv_goto (tgt := 164) hx hb dX13_close_235 (by decide) ?_
                                  exact ih_445 (v6w447 + 1) (v605 + 1) (upd gpw447 ((nI v605) : Int32).toNatClampNeg (nI v6w447)) (upd (upd gqw447 ((nI v605) : Int32).toNatClampNeg 0) ((nI ((v605 + 1) - 1)) : Int32).toNatClampNeg (nI (c_689 + 1))) M_694 H_693 _ _ (by omega) (by omega) (by have h := SD.new hSD (by omega) (show (nI v605).toNatClampNeg = gnw447 from (nI_cl (by omega)).trans (by omega)) (show (nI ((v605 + 1) - 1)).toNatClampNeg = gnw447 from (nI_cl (by omega)).trans (by omega)) hcc; rw [← hgn] at h; exact h) hW hF hG (by have h := hV; simp only [va_up_up] at h; rw [va_up_4] at h; exact h) hP hD hS (lv_sub hl [0, 1, 2, 3, 4, 5, 6] rfl)
                                · have hz := rfl (a := 0)
                                  refine lv_if_eq (tgt := 217) hx hb dX13_close_183 (by decide) (fun _ => ?_) (fun c_700 => absurd c_700 (by decide))
                                  refine lv_aload_n hx hb dX13_close_217 rfl (lv_at hl 4 rfl) ?_
                                  refine pg_getN (D := D) (ci := 12) (v := .ref v608) (C := RX12) (T := TX12) (N := 51) hx hb hg inG12 hown hK hP hb_15.1 hM604 rfl 45 (by decide) (hN.use (Cond.fieldLinkNest RX13 268 RX12 "stretchDays" "[I" RX13) 54 rfl rfl) (fun _ h9 => h9) hv608 dX13_close_218 ?_
                                  refine lv_aload_n hx hb dX13_close_221 rfl (lv_at hl 4 rfl) ?_
                                  refine pg_getN (D := D) (ci := 12) (v := .int (nI v605)) (C := RX12) (T := TX12) (N := 51) hx hb hg inG12 hown hK hP hb_15.1 hM604 rfl 17 (by decide) (hN.use (Cond.fieldLinkNest RX13 256 RX12 "stretches" "I" RX13) 26 rfl rfl) (fun _ h9 => h9) hv605 dX13_close_222 ?_
                                  refine lv_iconst (v := 1) hx hb dX13_close_225 (by decide) ?_
                                  refine lv_isub hx hb dX13_close_226 ?_
                                  refine lv_topi (fun f_701 ef_701 => ?_)
                                  obtain rfl : f_701 = (nI (v605 - 1)) := ef_701.trans (nI_prd (by omega))
                                  refine lv_dup2_11 hx hb dX13_close_227 rfl rfl ?_
                                  have hi_702 : vp_in (nI (v605 - 1)) 120 := (inbN (v605 - 1) 120 (by omega) (by omega))
                                  refine pg_iald hx hb hK hP hc608.1 0 hM609 rfl hi_702 dX13_close_228 ?_
                                  have hp_703 := hf609 _ (vp_lt hi_702)
                                  obtain ⟨c_704, hc_705, ec_706⟩ := hp_703
                                  rw [ec_706]
                                  have hy45 : gqw447 = f609 := (congrFun hV.2.2.1 45).symm.trans (ax_of hM604 (by decide) hv608 hM609)
                                  have hec : gqw447 ((nI (v605 - 1)) : Int32).toNatClampNeg = nI c_704 := by rw [hy45]; exact ec_706
                                  have hcc : c_704 ≤ v6w447 := SD.c hSD (by omega) ((nI_cl (by omega)).trans (by omega)) hec (by omega)
                                  refine lv_iconst (v := 1) hx hb dX13_close_229 (by decide) ?_
                                  refine lv_iadd hx hb dX13_close_230 ?_
                                  refine lv_topi (fun f_707 ef_707 => ?_)
                                  obtain rfl : f_707 = (nI (c_704 + 1)) := ef_707.trans (nI_add c_704 1)
                                  refine pg_iast hx hb hK hP hD hS hc608.1 0 hM609 rfl (inbN (v605 - 1) 120 (by omega) (by omega)) dX13_close_231 (fun H_708 locs hP hD hS => ?_)
                                  obtain ⟨M_709, eM_709⟩ : ∃ M1 : Hp, M1 = va_up M_450 v608 (.inl (cy 14, 120, .inl (upd f609 ((nI (v605 - 1)) : Int32).toNatClampNeg (nI (c_704 + 1))))) := ⟨_, rfl⟩
                                  have hy45 : gqw447 = f609 := (congrFun hV.2.2.1 45).symm.trans (ax_of hM604 (by decide) hv608 hM609)
                                  have hV : VW K L M M_709 b13 (va_up (fx M b13) 17 ((gnw447 : Nat) : Int)) (va_up (va_up (va_up (ax M b13) 44 gpw447) 45 gqw447) 45 (upd gqw447 ((nI (v605 - 1)) : Int32).toNatClampNeg (nI (c_704 + 1)))) := by rw [eM_709]; exact hV.ast (j := 45) hW hb_15 hM604 (by decide) hv608 hc608 hM609
                                  have hP : va_P D vwCl ([(za, .inr (13, [.int 0, .ref z1, .int (nI z2), .int (nI z3), .int z4, .int z5, .ref z6, .ref z7, .ref z8, .ref z9, .int (nI z10), .ref z11, .ref z12, .ref z13, .ref z14, .ref z15, .int (nI z16), .ref z17, .int z18, .ref z19]))] ++ va_pl L M_709) H_708 := by rw [eM_709]; exact hP
                                  have hD : va_D A ([(za, .inr (13, [.int 0, .ref z1, .int (nI z2), .int (nI z3), .int z4, .int z5, .ref z6, .ref z7, .ref z8, .ref z9, .int (nI z10), .ref z11, .ref z12, .ref z13, .ref z14, .ref z15, .int (nI z16), .ref z17, .int z18, .ref z19]))] ++ va_pl L M_709) := by rw [eM_709]; exact hD
                                  have hW : WOM cy K L M_709 := by rw [eM_709]; exact hW.up_46 hc608 ⟨_, rfl, (updP (P := fun z => ∃ c : Nat, c < 1001 ∧ z = nI c) hf609 ⟨(c_704 + 1), by omega, rfl⟩)⟩
                                  have hF : fr K L [12, 14, 15, 32, 42, 45, 46, 79, 80, 81, 83] M M_709 := by rw [eM_709]; exact hF.up hc608 (by decide)
                                  have hG : fG K L [1, 7, 8, 13, 14, 15, 16, 17, 18] M M_709 := by rw [eM_709]; exact hG.arr hc608 (by decide)
                                  have hM_710 : M_709 v608 = .inl (cy 14, 120, .inl (upd f609 ((nI (v605 - 1)) : Int32).toNatClampNeg (nI (c_704 + 1)))) := by rw [eM_709]; exact va_up_self _ _ _
                                  have hM_711 : M_709 b13 = .inr (12, fs604) := by rw [eM_709, va_up_ne _ _ (hb_15.neT hc608 (by decide))]; exact hM604
                                  have hM_712 : M_709 v606 = .inl (cy 14, 120, .inl (f607)) := by rw [eM_709, va_up_ne _ _ (hc606.neT hc608 (by decide))]; exact hM607
                                  have hf_714 : ∀ j, j < 120 → ∃ c : Nat, c < 1001 ∧ (upd f609 ((nI (v605 - 1)) : Int32).toNatClampNeg (nI (c_704 + 1))) j = nI c := (updP (P := fun z => ∃ c : Nat, c < 1001 ∧ z = nI c) hf609 ⟨(c_704 + 1), by omega, rfl⟩)
                                  obtain ⟨f_713, ef_713⟩ : ∃ f : Nat → Int32, f = upd f609 ((nI (v605 - 1)) : Int32).toNatClampNeg (nI (c_704 + 1)) := ⟨_, rfl⟩
                                  rw [← ef_713] at hM_710 hf_714
                                  refine lv_iinc (v := (nI (v6w447 + 1))) (lv' := [(6, .int (nI (v6w447 + 1))), (5, .int (-1)), (4, .int (nI c_391)), (3, .int (nI (c_28 + 1))), (2, .ref b13), (0, .ref za), (1, .int k1)]) hx hb dX13_close_232 hl (k := 0) rfl (nI_1 v6w447) (by decide) rfl (fun ls hl => ?_)
                                  refine lv_goto (tgt := 164) hx hb dX13_close_235 (by decide) ?_
                                  exact ih_445 (v6w447 + 1) gnw447 gpw447 (upd gqw447 ((nI (v605 - 1)) : Int32).toNatClampNeg (nI (c_704 + 1))) M_709 H_708 _ _ (by omega) (by omega) (SD.old hSD (by omega) ((nI_cl (by omega)).trans (by omega)) hec (by omega)) hW hF hG (by have h := hV; simp only [va_up_up] at h; exact h) hP hD hS (lv_sub hl [0, 1, 2, 3, 4, 5, 6] rfl)
                        exact key_444 (1001 - (c_28 + 1) + 1) (c_28 + 1) 0 (ax M b13 44) (ax M b13 45) M_439 H_440 _ _ (by omega) (by omega) (SD.rf _ _ _) hW hF hG (by rw [va_up_id, va_up_id]; exact hV) hP hD hS (lv_sub hl [0, 1, 2, 3, 4, 5, 6] rfl)
                      · have hz := rfl (a := 0)
                        have n_715 : ¬ (24 ≤ v6w437) := fun q => c_442 ((iLE (a := 24) (b := v6w437) (by omega) (by omega)).mpr q)
                        refine lv_aload_n hx hb dX13_close_147 rfl (lv_at hl 4 rfl) ?_
                        obtain ⟨v716, hv716, hc716⟩ : ∃ v : Nat, (fs16.set 17 (.int 0))[33]? = some (.ref v : Value) ∧ isk K L v 15 24 := hk_422 33 (by decide)
                        refine pg_getN (D := D) (ci := 12) (v := .ref v716) (C := RX12) (T := TX12) (N := 51) hx hb hg inG12 hown hK hP hb_15.1 hM_441 rfl 33 (by decide) (hN.use (Cond.fieldLinkNest RX13 259 RX12 "dues" "[J" RX13) 42 rfl rfl) (fun _ h9 => h9) hv716 dX13_close_148 ?_
                        refine lv_iload hx hb dX13_close_151 (lv_at hl 0 rfl) ?_
                        refine lv_lconst (v := 0) hx hb dX13_close_153 (by decide) ?_
                        obtain ⟨f717, hM717⟩ := hW.open_15 hc716
                        refine pg_last hx hb hK hP hD hS hc716.1 1 hM717 rfl (inbN v6w437 24 (by omega) (by omega)) dX13_close_154 (fun H_718 locs hP hD hS => ?_)
                        obtain ⟨M_719, eM_719⟩ : ∃ M1 : Hp, M1 = va_up M_439 v716 (.inl (cy 15, 24, .inr (.inl (vp_updL f717 ((nI v6w437) : Int32).toNatClampNeg 0)))) := ⟨_, rfl⟩
                        have hV : VW K L M M_719 b13 (va_up (fx M b13) 17 (0 : Int)) (ax M b13) := by rw [eM_719]; exact hV.oth hW hb_15 hc716 (by decide)
                        have hP : va_P D vwCl ([(za, .inr (13, [.int 0, .ref z1, .int (nI z2), .int (nI z3), .int z4, .int z5, .ref z6, .ref z7, .ref z8, .ref z9, .int (nI z10), .ref z11, .ref z12, .ref z13, .ref z14, .ref z15, .int (nI z16), .ref z17, .int z18, .ref z19]))] ++ va_pl L M_719) H_718 := by rw [eM_719]; exact hP
                        have hD : va_D A ([(za, .inr (13, [.int 0, .ref z1, .int (nI z2), .int (nI z3), .int z4, .int z5, .ref z6, .ref z7, .ref z8, .ref z9, .int (nI z10), .ref z11, .ref z12, .ref z13, .ref z14, .ref z15, .int (nI z16), .ref z17, .int z18, .ref z19]))] ++ va_pl L M_719) := by rw [eM_719]; exact hD
                        have hW : WOM cy K L M_719 := by rw [eM_719]; exact hW.up_15 hc716 ⟨_, rfl⟩
                        have hF : fr K L [12, 14, 15, 32, 42, 45, 46, 79, 80, 81, 83] M M_719 := by rw [eM_719]; exact hF.up hc716 (by decide)
                        have hG : fG K L [1, 7, 8, 13, 14, 15, 16, 17, 18] M M_719 := by rw [eM_719]; exact hG.arr hc716 (by decide)
                        have hM_720 : M_719 v716 = .inl (cy 15, 24, .inr (.inl (vp_updL f717 ((nI v6w437) : Int32).toNatClampNeg 0))) := by rw [eM_719]; exact va_up_self _ _ _
                        have hM_721 : M_719 b13 = .inr (12, fs16.set 17 (.int 0)) := by rw [eM_719, va_up_ne _ _ (hb_15.neT hc716 (by decide))]; exact hM_441
                        obtain ⟨f_722, ef_722⟩ : ∃ f : Nat → Int64, f = vp_updL f717 ((nI v6w437) : Int32).toNatClampNeg 0 := ⟨_, rfl⟩
                        rw [← ef_722] at hM_720
                        refine lv_iinc (v := (nI (v6w437 + 1))) (lv' := [(6, .int (nI (v6w437 + 1))), (5, .int (-1)), (4, .int (nI c_391)), (3, .int (nI (c_28 + 1))), (2, .ref b13), (0, .ref za), (1, .int k1)]) hx hb dX13_close_155 hl (k := 0) rfl (nI_1 v6w437) (by decide) rfl (fun ls hl => ?_)
                        refine lv_goto (tgt := 140) hx hb dX13_close_158 (by decide) ?_
                        exact ih_435 (v6w437 + 1) M_719 H_718 _ _ (by omega) hM_721 (by omega) hW hF hG hV hP hD hS (lv_sub hl [0, 1, 2, 3, 4, 5, 6] rfl)
                  exact key_434 (24 - 0 + 1) 0 M_432 H_420 _ _ (by omega) hM_433 (by omega) hW hF hG hV hP hD hS (lv_sub hl [0, 1, 2, 3, 4, 5, 6] rfl)
                · have hz := rfl (a := 0)
                  refine lv_istore (lv' := [(5, .int (nI j_415)), (4, .int (nI c_391)), (3, .int (nI (c_28 + 1))), (2, .ref b13), (0, .ref za), (1, .int k1)]) hx hb dX13_close_115 hl (by decide) rfl (fun ls hl => ?_)
                  refine lv_iload hx hb dX13_close_117 (lv_at hl 0 rfl) ?_
                  refine lv_iconst (v := (-1)) hx hb dX13_close_119 (by decide) ?_
                  refine lv_icmp_eq (tgt := 132) hx hb dX13_close_120 (by decide) (fun c_723 => absurd c_723 (nI_ne_m1 (by omega))) (fun _ => ?_)
                  refine lv_aload_n hx hb dX13_close_123 rfl (lv_at hl 4 rfl) ?_
                  refine lv_bipush (v := 7) hx hb dX13_close_124 (by decide) ?_
                  refine lv_iload hx hb dX13_close_126 (lv_at hl 0 rfl) ?_
                  have hPc := hP.sub (ws' := [(za, .inr (13, [.int 0, .ref z1, .int (nI z2), .int (nI z3), .int z4, .int z5, .ref z6, .ref z7, .ref z8, .ref z9, .int (nI z10), .ref z11, .ref z12, .ref z13, .ref z14, .ref z15, .int (nI z16), .ref z17, .int z18, .ref z19]))]) [0] rfl
                  have hDc := hD.sub (ws' := [(za, .inr (13, [.int 0, .ref z1, .int (nI z2), .int (nI z3), .int z4, .int z5, .ref z6, .ref z7, .ref z8, .ref z9, .int (nI z10), .ref z11, .ref z12, .ref z13, .ref z14, .ref z15, .int (nI z16), .ref z17, .int z18, .ref z19]))]) [0] (by decide) rfl
                  have hKc := hK.sub (tys' := []) [] rfl
                  have hFc := va_free (wc := [(za, .inr (13, [.int 0, .ref z1, .int (nI z2), .int (nI z3), .int z4, .int z5, .ref z6, .ref z7, .ref z8, .ref z9, .int (nI z10), .ref z11, .ref z12, .ref z13, .ref z14, .ref z15, .int (nI z16), .ref z17, .int z18, .ref z19]))]) hD hS hA [0] rfl
                  refine va_calli (va_runV (As := [.int 7, .int (nI j_415)]) (rest := []) ⟨hx, hb, hml, hown, hg⟩ (m_refusedAt l D H_410.size za 0 z1 (nI z2) (nI z3) z4 z5 z6 z7 z8 z9 (nI z10) z11 z12 z13 z14 z15 (nI z16) z17 z18 z19 7 (nI j_415)) (cwV 2 hg (gV wd_882 wd_883 wd_884 wd_717 wd_885) rfl rfl rfl (by decide +kernel) ⟨(Nat.le_trans (Nat.le_of_ble_eq_true rfl) hRf), (Nat.le_trans (Nat.le_of_ble_eq_true rfl) hRl)⟩) ⟨Pr.blind, va_recv hK hP (ci := 13) (q0 := 0) rfl rfl, fun U hU hW => ⟨rfl, Pr.at hPc hKc hDc hN hU hW⟩⟩ rfl rfl hl.1 rfl (lv_room (Nat.le_of_ble_eq_true rfl)) dX13_close_128 ⟨(Nat.le_trans (Nat.le_of_ble_eq_true rfl) hRc), (Nat.le_trans (Nat.le_of_ble_eq_true rfl) hRs)⟩) hS (fun q _ h => hFc q h) hFc (fun r_725 M_726 t H_724 locs ht hvm hw hB hz1 hk1 hS => ?_)
                  have hp_727 := hw
                  obtain ⟨hP1, hK1, hD1⟩ := hB
                  rw [ht] at hP1
                  obtain ⟨hP, hD⟩ := va_joinQ (X := [(za, .inr (13, [.int 0, .ref z1, .int (nI z2), .int (nI z3), .int z4, .int z5, .ref z6, .ref z7, .ref z8, .ref z9, .int (nI z10), .ref z11, .ref z12, .ref z13, .ref z14, .ref z15, .int (nI z16), .ref z17, .int z18, .ref z19]))]) (cx := [(za, .inr (13, [.int 0, .ref z1, .int (nI z2), .int (nI z3), .int z4, .int z5, .ref z6, .ref z7, .ref z8, .ref z9, .int (nI z10), .ref z11, .ref z12, .ref z13, .ref z14, .ref z15, .int (nI z16), .ref z17, .int z18, .ref z19]))]) (wr := []) (w1 := [(za, .inr (13, [.int 0, .ref z1, .int (nI z2), .int (nI z3), .int 7, .int (nI j_415), .ref z6, .ref z7, .ref z8, .ref z9, .int (nI z10), .ref z11, .ref z12, .ref z13, .ref z14, .ref z15, .int (nI z16), .ref z17, .int z18, .ref z19]))]) (pl := va_pl L M_400) hP hD [0] [] rfl rfl (by decide) (by decide) hk1 hFc hP1 hD1
                  have hP : va_P D vwCl ([(za, .inr (13, [.int 0, .ref z1, .int (nI z2), .int (nI z3), .int 7, .int (nI j_415), .ref z6, .ref z7, .ref z8, .ref z9, .int (nI z10), .ref z11, .ref z12, .ref z13, .ref z14, .ref z15, .int (nI z16), .ref z17, .int z18, .ref z19]))] ++ va_pl L M_400) H_724 := hP
                  have hD : va_D A ([(za, .inr (13, [.int 0, .ref z1, .int (nI z2), .int (nI z3), .int 7, .int (nI j_415), .ref z6, .ref z7, .ref z8, .ref z9, .int (nI z10), .ref z11, .ref z12, .ref z13, .ref z14, .ref z15, .int (nI z16), .ref z17, .int z18, .ref z19]))] ++ va_pl L M_400) := hD
                  have hq := Eq.symm hp_727
                  subst hq
                  have hlg7 : ¬ ∀ b, b < z2 → ¬ LAG PK PT SX SY (k1 : Int32).toNatClampNeg (enD (SX (k1 : Int32).toNatClampNeg) (SY (k1 : Int32).toNatClampNeg)) b := fun w9 => w9 _ c_417 (by rw [hEd]; have h9 := c_418; rw [nI_toInt (by omega)] at h9; exact h9)
                  have hno : ¬ okCl z2 PK PT SX SY k1 := fun q9 => by unfold okCl okH at q9; first | omega | (obtain ⟨⟨_, _⟩, _, _, _, _⟩ := q9; first | omega | contradiction)
                  have hA9 : HA (ax M b13 2) (ax M b13 3) := hAT.1
                  have hB9 : HB (fx M b13 16) (fx M b13 14) (ax M b13 3) (ax M b13 43) := hAT.2.1
                  have hC9 : HC (fx M b13 10) (ax M b13 22) (ax M b13 23) := hAT.2.2.1
                  have hD9 : HD (fx M b13 0) (fx M b13 11) (fx M b13 15) (ax M b13 34) (ax M b13 41) := hAT.2.2.2.1
                  have hE9 : HE (fx M b13 0) (fx M b13 1) (fx M b13 12) (fx M b13 13) (ax M b13 37) := hAT.2.2.2.2
                  have hH9 : HI (fx M b13) (ax M b13) := ⟨hA9, hB9, hC9, hD9, hE9⟩
                  have hGI9 : GI K L z1 z2 M_400 := GI.fin hW0 i1 b2 hGI hact hV (hF.at i1 (by decide)) hH9
                  rw [hQ]
                  exact W.iret (v := (-1)) hx hb hr (fun t ht hW9 => ⟨⟨(-1), M_400, rfl, ⟨hW, hF, hG, ⟨hGI9, fun _ => 0, fun _ _ => 0, fun w9 => absurd w9 hno, (by unfold sxCl syCl; rw [if_neg hno, if_neg hno]; have hQ9 := ZSx.fin hW0 i1 b2 hZS hGI.1 hkn hb9 hV (hF.at i1 (by decide)) hZk.1 hZk.2; rw [va_upJ, va_upJ] at hQ9; exact hQ9)⟩, (by unfold anCl; rw [if_neg hno])⟩, ⟨7, (nI j_415), z16, (by omega), by rw [ht]; exact hP, hD⟩⟩, hS.F ht⟩) hS.2.2 dX13_close_131
              · have hz := rfl (a := 0)
                have n_728 : ¬ (c_391 < v5w397) := fun q => c_403 ((iLT (a := c_391) (b := v5w397) (by omega) (by omega)).mpr q)
                refine lv_aload_n hx hb dX13_close_85 rfl (lv_at hl 3 rfl) ?_
                refine lv_iload hx hb dX13_close_86 (lv_at hl 0 rfl) ?_
                have hPc : va_P D vwCl ([] ++ va_pl L M_400) H_401 := hP.part (cx := []) [] rfl
                have hDc : va_D A ([] ++ va_pl L M_400) := hD.part (cx := []) [] (by decide) rfl
                have hFc : ∀ q, va_A ([] ++ va_pl L M_400) H_401.size q → A q := pg_free hDc hS hA
                refine va_calli (va_runV (As := [.int (nI v5w397)]) (rest := []) ⟨hx, hb, hml, hown, hg⟩ (f_isOpen l D cy K L M_400 H_401.size b13 v5w397  hW hb_15 (by omega)) (cwV 1 hg (gV wd_752 wd_753 wd_754 wd_737 wd_755) rfl rfl rfl (by decide +kernel) ⟨(Nat.le_trans (Nat.le_of_ble_eq_true rfl) hRf), (Nat.le_trans (Nat.le_of_ble_eq_true rfl) hRl)⟩) ⟨PG.blind, pg_recv hK hP hb_15.1 hM_402 rfl, fun U hU hW => ⟨rfl, PG.at hPc hK hDc hN hU hW⟩⟩ rfl rfl hl.1 rfl (lv_room (Nat.le_of_ble_eq_true rfl)) dX13_close_88 ⟨(Nat.le_trans (Nat.le_of_ble_eq_true rfl) hRc), (Nat.le_trans (Nat.le_of_ble_eq_true rfl) hRs)⟩) hS (fun q _ h => hFc q h) hFc (fun r_730 M_731 t H_729 locs ht hvm hw hB hz1 hk1 hS => ?_)
                have hp_732 := hw
                obtain ⟨hP1, hD1⟩ := hB
                rw [ht] at hP1
                obtain ⟨hP, hD⟩ := va_joinP (X := [(za, .inr (13, [.int 0, .ref z1, .int (nI z2), .int (nI z3), .int z4, .int z5, .ref z6, .ref z7, .ref z8, .ref z9, .int (nI z10), .ref z11, .ref z12, .ref z13, .ref z14, .ref z15, .int (nI z16), .ref z17, .int z18, .ref z19]))]) (cx := []) (wr := [(za, .inr (13, [.int 0, .ref z1, .int (nI z2), .int (nI z3), .int z4, .int z5, .ref z6, .ref z7, .ref z8, .ref z9, .int (nI z10), .ref z11, .ref z12, .ref z13, .ref z14, .ref z15, .int (nI z16), .ref z17, .int z18, .ref z19]))]) (rx := []) (pl := va_pl L M_400) (pl1 := va_pl L M_400) hP hD [] [0] rfl rfl (by decide) (by decide) hk1 hFc hP1 hD1
                have hP : va_P D vwCl ([(za, .inr (13, [.int 0, .ref z1, .int (nI z2), .int (nI z3), .int z4, .int z5, .ref z6, .ref z7, .ref z8, .ref z9, .int (nI z10), .ref z11, .ref z12, .ref z13, .ref z14, .ref z15, .int (nI z16), .ref z17, .int z18, .ref z19]))] ++ va_pl L M_400) H_729 := hP
                have hD : va_D A ([(za, .inr (13, [.int 0, .ref z1, .int (nI z2), .int (nI z3), .int z4, .int z5, .ref z6, .ref z7, .ref z8, .ref z9, .int (nI z10), .ref z11, .ref z12, .ref z13, .ref z14, .ref z15, .int (nI z16), .ref z17, .int z18, .ref z19]))] ++ va_pl L M_400) := hD
                rcases hp_732 with ⟨rfl, c_733⟩ | ⟨rfl, c_734⟩
                · have hz := rfl (a := 0)
                  have hop9 : opD (SY (k1 : Int32).toNatClampNeg) v5w397 := by have h9 := c_733; rw [hV.2.2.1, hZk.2] at h9; exact h9
                  refine lv_if_eq (tgt := 102) hx hb dX13_close_91 (by decide) (fun c_735 => absurd c_735 (by decide)) (fun _ => ?_)
                  refine lv_aload_n hx hb dX13_close_94 rfl (lv_at hl 4 rfl) ?_
                  refine lv_iconst (v := 5) hx hb dX13_close_95 (by decide) ?_
                  refine lv_iload hx hb dX13_close_96 (lv_at hl 0 rfl) ?_
                  have hPc := hP.sub (ws' := [(za, .inr (13, [.int 0, .ref z1, .int (nI z2), .int (nI z3), .int z4, .int z5, .ref z6, .ref z7, .ref z8, .ref z9, .int (nI z10), .ref z11, .ref z12, .ref z13, .ref z14, .ref z15, .int (nI z16), .ref z17, .int z18, .ref z19]))]) [0] rfl
                  have hDc := hD.sub (ws' := [(za, .inr (13, [.int 0, .ref z1, .int (nI z2), .int (nI z3), .int z4, .int z5, .ref z6, .ref z7, .ref z8, .ref z9, .int (nI z10), .ref z11, .ref z12, .ref z13, .ref z14, .ref z15, .int (nI z16), .ref z17, .int z18, .ref z19]))]) [0] (by decide) rfl
                  have hKc := hK.sub (tys' := []) [] rfl
                  have hFc := va_free (wc := [(za, .inr (13, [.int 0, .ref z1, .int (nI z2), .int (nI z3), .int z4, .int z5, .ref z6, .ref z7, .ref z8, .ref z9, .int (nI z10), .ref z11, .ref z12, .ref z13, .ref z14, .ref z15, .int (nI z16), .ref z17, .int z18, .ref z19]))]) hD hS hA [0] rfl
                  refine va_calli (va_runV (As := [.int 5, .int (nI v5w397)]) (rest := []) ⟨hx, hb, hml, hown, hg⟩ (m_refusedAt l D H_729.size za 0 z1 (nI z2) (nI z3) z4 z5 z6 z7 z8 z9 (nI z10) z11 z12 z13 z14 z15 (nI z16) z17 z18 z19 5 (nI v5w397)) (cwV 2 hg (gV wd_882 wd_883 wd_884 wd_717 wd_885) rfl rfl rfl (by decide +kernel) ⟨(Nat.le_trans (Nat.le_of_ble_eq_true rfl) hRf), (Nat.le_trans (Nat.le_of_ble_eq_true rfl) hRl)⟩) ⟨Pr.blind, va_recv hK hP (ci := 13) (q0 := 0) rfl rfl, fun U hU hW => ⟨rfl, Pr.at hPc hKc hDc hN hU hW⟩⟩ rfl rfl hl.1 rfl (lv_room (Nat.le_of_ble_eq_true rfl)) dX13_close_98 ⟨(Nat.le_trans (Nat.le_of_ble_eq_true rfl) hRc), (Nat.le_trans (Nat.le_of_ble_eq_true rfl) hRs)⟩) hS (fun q _ h => hFc q h) hFc (fun r_737 M_738 t H_736 locs ht hvm hw hB hz1 hk1 hS => ?_)
                  have hp_739 := hw
                  obtain ⟨hP1, hK1, hD1⟩ := hB
                  rw [ht] at hP1
                  obtain ⟨hP, hD⟩ := va_joinQ (X := [(za, .inr (13, [.int 0, .ref z1, .int (nI z2), .int (nI z3), .int z4, .int z5, .ref z6, .ref z7, .ref z8, .ref z9, .int (nI z10), .ref z11, .ref z12, .ref z13, .ref z14, .ref z15, .int (nI z16), .ref z17, .int z18, .ref z19]))]) (cx := [(za, .inr (13, [.int 0, .ref z1, .int (nI z2), .int (nI z3), .int z4, .int z5, .ref z6, .ref z7, .ref z8, .ref z9, .int (nI z10), .ref z11, .ref z12, .ref z13, .ref z14, .ref z15, .int (nI z16), .ref z17, .int z18, .ref z19]))]) (wr := []) (w1 := [(za, .inr (13, [.int 0, .ref z1, .int (nI z2), .int (nI z3), .int 5, .int (nI v5w397), .ref z6, .ref z7, .ref z8, .ref z9, .int (nI z10), .ref z11, .ref z12, .ref z13, .ref z14, .ref z15, .int (nI z16), .ref z17, .int z18, .ref z19]))]) (pl := va_pl L M_400) hP hD [0] [] rfl rfl (by decide) (by decide) hk1 hFc hP1 hD1
                  have hP : va_P D vwCl ([(za, .inr (13, [.int 0, .ref z1, .int (nI z2), .int (nI z3), .int 5, .int (nI v5w397), .ref z6, .ref z7, .ref z8, .ref z9, .int (nI z10), .ref z11, .ref z12, .ref z13, .ref z14, .ref z15, .int (nI z16), .ref z17, .int z18, .ref z19]))] ++ va_pl L M_400) H_736 := hP
                  have hD : va_D A ([(za, .inr (13, [.int 0, .ref z1, .int (nI z2), .int (nI z3), .int 5, .int (nI v5w397), .ref z6, .ref z7, .ref z8, .ref z9, .int (nI z10), .ref z11, .ref z12, .ref z13, .ref z14, .ref z15, .int (nI z16), .ref z17, .int z18, .ref z19]))] ++ va_pl L M_400) := hD
                  have hq := Eq.symm hp_739
                  subst hq
                  have hI_740 : (0 : Int) ≤ (k1 : Int32).toInt := inltI rfl rfl c_7
                  have hI_741 : (k1 : Int32).toInt < ((z2 : Nat) : Int) := inleI (nI_toInt (by omega)) rfl c_8
                  have hI_742 : ((v21 : Nat) : Int) ≠ ((v20 : Nat) : Int) := ineI (nI_toInt (by omega)) (nI_toInt (by omega)) c_24
                  have hI_743 : ((v19 : Nat) : Int) ≠ (0 : Int) := ineI (nI_toInt (by omega)) rfl c_26
                  have hI_744 : ((v5w397 : Nat) : Int) ≤ ((c_391 : Nat) : Int) := inltI (nI_toInt (by omega)) (nI_toInt (by omega)) c_403
                  have hop5 : ¬ (∀ d : Nat, SX (k1 : Int32).toNatClampNeg 1 < (d : Int) → (d : Int) ≤ enD (SX (k1 : Int32).toNatClampNeg) (SY (k1 : Int32).toNatClampNeg) → ¬ opD (SY (k1 : Int32).toNatClampNeg) d) := fun w9 => w9 v5w397 (by omega) (by rw [hEd]; omega) hop9
                  have hno : ¬ okCl z2 PK PT SX SY k1 := fun q9 => by unfold okCl okH at q9; first | omega | (obtain ⟨⟨_, _⟩, _, _, _, _⟩ := q9; first | omega | contradiction)
                  have hA9 : HA (ax M b13 2) (ax M b13 3) := hAT.1
                  have hB9 : HB (fx M b13 16) (fx M b13 14) (ax M b13 3) (ax M b13 43) := hAT.2.1
                  have hC9 : HC (fx M b13 10) (ax M b13 22) (ax M b13 23) := hAT.2.2.1
                  have hD9 : HD (fx M b13 0) (fx M b13 11) (fx M b13 15) (ax M b13 34) (ax M b13 41) := hAT.2.2.2.1
                  have hE9 : HE (fx M b13 0) (fx M b13 1) (fx M b13 12) (fx M b13 13) (ax M b13 37) := hAT.2.2.2.2
                  have hH9 : HI (fx M b13) (ax M b13) := ⟨hA9, hB9, hC9, hD9, hE9⟩
                  have hGI9 : GI K L z1 z2 M_400 := GI.fin hW0 i1 b2 hGI hact hV (hF.at i1 (by decide)) hH9
                  rw [hQ]
                  exact W.iret (v := (-1)) hx hb hr (fun t ht hW9 => ⟨⟨(-1), M_400, rfl, ⟨hW, hF, hG, ⟨hGI9, fun _ => 0, fun _ _ => 0, fun w9 => absurd w9 hno, (by unfold sxCl syCl; rw [if_neg hno, if_neg hno]; have hQ9 := ZSx.fin hW0 i1 b2 hZS hGI.1 hkn hb9 hV (hF.at i1 (by decide)) hZk.1 hZk.2; rw [va_upJ, va_upJ] at hQ9; exact hQ9)⟩, (by unfold anCl; rw [if_neg hno])⟩, ⟨5, (nI v5w397), z16, (by omega), by rw [ht]; exact hP, hD⟩⟩, hS.F ht⟩) hS.2.2 dX13_close_101
                · have hz := rfl (a := 0)
                  have hno9 : ¬ opD (SY (k1 : Int32).toNatClampNeg) v5w397 := by have h9 := c_734; rw [hV.2.2.1, hZk.2] at h9; exact h9
                  refine lv_if_eq (tgt := 102) hx hb dX13_close_91 (by decide) (fun _ => ?_) (fun c_745 => absurd c_745 (by decide))
                  refine lv_iinc (v := (nI (v5w397 + 1))) (lv' := [(5, .int (nI (v5w397 + 1))), (4, .int (nI c_391)), (3, .int (nI (c_28 + 1))), (2, .ref b13), (0, .ref za), (1, .int k1)]) hx hb dX13_close_102 hl (k := 0) rfl (nI_1 v5w397) (by decide) rfl (fun ls hl => ?_)
                  refine lv_goto (tgt := 78) hx hb dX13_close_105 (by decide) ?_
                  exact ih_395 (v5w397 + 1) M_400 H_729 _ _ (by omega) hM_402 (by omega) (fun d h1 h2 => by by_cases z9 : d = v5w397; swap; exact hx_399 d h1 (by omega); rw [z9]; exact hno9) hW hF hG hV hP hD hS (lv_sub hl [0, 1, 2, 3, 4, 5] rfl)
          exact key_394 (1001 - (c_28 + 1) + 1) (c_28 + 1) M H_2 _ _ (by omega) hM16 (by omega) (fun d h1 h2 => by omega) hW hF hG hV hP hD hS (lv_sub hl [0, 1, 2, 3, 4, 5] rfl)
      · have hz := rfl (a := 0)
        have n_746 : v19 = 0 := (iEQ (a := v19) (b := 0) (by omega) (by omega)).mp c_26
        refine lv_aload_n hx hb dX13_close_51 rfl (lv_at hl 1 rfl) ?_
        refine lv_iconst (v := 1) hx hb dX13_close_52 (by decide) ?_
        have hPc := hP.sub (ws' := [(za, .inr (13, [.int 0, .ref z1, .int (nI z2), .int (nI z3), .int z4, .int z5, .ref z6, .ref z7, .ref z8, .ref z9, .int (nI z10), .ref z11, .ref z12, .ref z13, .ref z14, .ref z15, .int (nI z16), .ref z17, .int z18, .ref z19]))]) [0] rfl
        have hDc := hD.sub (ws' := [(za, .inr (13, [.int 0, .ref z1, .int (nI z2), .int (nI z3), .int z4, .int z5, .ref z6, .ref z7, .ref z8, .ref z9, .int (nI z10), .ref z11, .ref z12, .ref z13, .ref z14, .ref z15, .int (nI z16), .ref z17, .int z18, .ref z19]))]) [0] (by decide) rfl
        have hKc := hK.sub (tys' := []) [] rfl
        have hFc := va_free (wc := [(za, .inr (13, [.int 0, .ref z1, .int (nI z2), .int (nI z3), .int z4, .int z5, .ref z6, .ref z7, .ref z8, .ref z9, .int (nI z10), .ref z11, .ref z12, .ref z13, .ref z14, .ref z15, .int (nI z16), .ref z17, .int z18, .ref z19]))]) hD hS hA [0] rfl
        refine va_calli (va_runV (As := [.int 1]) (rest := []) ⟨hx, hb, hml, hown, hg⟩ (m_refused l D H_2.size za 0 z1 (nI z2) (nI z3) z4 z5 z6 z7 z8 z9 (nI z10) z11 z12 z13 z14 z15 (nI z16) z17 z18 z19 1) (cwV 1 hg (gV wd_725 wd_726 wd_727 wd_717 wd_728) rfl rfl rfl (by decide +kernel) ⟨(Nat.le_trans (Nat.le_of_ble_eq_true rfl) hRf), (Nat.le_trans (Nat.le_of_ble_eq_true rfl) hRl)⟩) ⟨Pr.blind, va_recv hK hP (ci := 13) (q0 := 0) rfl rfl, fun U hU hW => ⟨rfl, Pr.at hPc hKc hDc hN hU hW⟩⟩ rfl rfl hl.1 rfl (lv_room (Nat.le_of_ble_eq_true rfl)) dX13_close_53 ⟨(Nat.le_trans (Nat.le_of_ble_eq_true rfl) hRc), (Nat.le_trans (Nat.le_of_ble_eq_true rfl) hRs)⟩) hS (fun q _ h => hFc q h) hFc (fun r_748 M_749 t H_747 locs ht hvm hw hB hz1 hk1 hS => ?_)
        have hp_750 := hw
        obtain ⟨hP1, hK1, hD1⟩ := hB
        rw [ht] at hP1
        obtain ⟨hP, hD⟩ := va_joinQ (X := [(za, .inr (13, [.int 0, .ref z1, .int (nI z2), .int (nI z3), .int z4, .int z5, .ref z6, .ref z7, .ref z8, .ref z9, .int (nI z10), .ref z11, .ref z12, .ref z13, .ref z14, .ref z15, .int (nI z16), .ref z17, .int z18, .ref z19]))]) (cx := [(za, .inr (13, [.int 0, .ref z1, .int (nI z2), .int (nI z3), .int z4, .int z5, .ref z6, .ref z7, .ref z8, .ref z9, .int (nI z10), .ref z11, .ref z12, .ref z13, .ref z14, .ref z15, .int (nI z16), .ref z17, .int z18, .ref z19]))]) (wr := []) (w1 := [(za, .inr (13, [.int 0, .ref z1, .int (nI z2), .int (nI z3), .int 1, .int (-1), .ref z6, .ref z7, .ref z8, .ref z9, .int (nI z10), .ref z11, .ref z12, .ref z13, .ref z14, .ref z15, .int (nI z16), .ref z17, .int z18, .ref z19]))]) (pl := va_pl L M) hP hD [0] [] rfl rfl (by decide) (by decide) hk1 hFc hP1 hD1
        have hP : va_P D vwCl ([(za, .inr (13, [.int 0, .ref z1, .int (nI z2), .int (nI z3), .int 1, .int (-1), .ref z6, .ref z7, .ref z8, .ref z9, .int (nI z10), .ref z11, .ref z12, .ref z13, .ref z14, .ref z15, .int (nI z16), .ref z17, .int z18, .ref z19]))] ++ va_pl L M) H_747 := hP
        have hD : va_D A ([(za, .inr (13, [.int 0, .ref z1, .int (nI z2), .int (nI z3), .int 1, .int (-1), .ref z6, .ref z7, .ref z8, .ref z9, .int (nI z10), .ref z11, .ref z12, .ref z13, .ref z14, .ref z15, .int (nI z16), .ref z17, .int z18, .ref z19]))] ++ va_pl L M) := hD
        have hq := Eq.symm hp_750
        subst hq
        have hI_751 : (0 : Int) ≤ (k1 : Int32).toInt := inltI rfl rfl c_7
        have hI_752 : (k1 : Int32).toInt < ((z2 : Nat) : Int) := inleI (nI_toInt (by omega)) rfl c_8
        have hI_753 : ((v21 : Nat) : Int) ≠ ((v20 : Nat) : Int) := ineI (nI_toInt (by omega)) (nI_toInt (by omega)) c_24
        have hI_754 : ((v19 : Nat) : Int) = (0 : Int) := ieqI (nI_toInt (by omega)) rfl c_26
        have hno : ¬ okCl z2 PK PT SX SY k1 := fun q9 => by unfold okCl okH at q9; first | omega | (obtain ⟨⟨_, _⟩, _, _, _, _⟩ := q9; first | omega | contradiction)
        rw [hQ]
        exact W.iret (v := (-1)) hx hb hr (fun t ht hW9 => ⟨⟨(-1), M, rfl, ⟨hW, hF, hG, ⟨hGI, fun _ => 0, fun _ _ => 0, fun w9 => absurd w9 hno, (by unfold sxCl syCl; rw [if_neg hno, if_neg hno]; exact hZS)⟩, (by unfold anCl; rw [if_neg hno])⟩, ⟨1, (-1), z16, (by omega), by rw [ht]; exact hP, hD⟩⟩, hS.F ht⟩) hS.2.2 dX13_close_56
    · have hz := rfl (a := 0)
      have n_755 : v21 = v20 := (iEQ (a := v21) (b := v20) (by omega) (by omega)).mp c_24
      refine lv_aload_n hx hb dX13_close_37 rfl (lv_at hl 1 rfl) ?_
      refine lv_bipush (v := 6) hx hb dX13_close_38 (by decide) ?_
      have hPc := hP.sub (ws' := [(za, .inr (13, [.int 0, .ref z1, .int (nI z2), .int (nI z3), .int z4, .int z5, .ref z6, .ref z7, .ref z8, .ref z9, .int (nI z10), .ref z11, .ref z12, .ref z13, .ref z14, .ref z15, .int (nI z16), .ref z17, .int z18, .ref z19]))]) [0] rfl
      have hDc := hD.sub (ws' := [(za, .inr (13, [.int 0, .ref z1, .int (nI z2), .int (nI z3), .int z4, .int z5, .ref z6, .ref z7, .ref z8, .ref z9, .int (nI z10), .ref z11, .ref z12, .ref z13, .ref z14, .ref z15, .int (nI z16), .ref z17, .int z18, .ref z19]))]) [0] (by decide) rfl
      have hKc := hK.sub (tys' := []) [] rfl
      have hFc := va_free (wc := [(za, .inr (13, [.int 0, .ref z1, .int (nI z2), .int (nI z3), .int z4, .int z5, .ref z6, .ref z7, .ref z8, .ref z9, .int (nI z10), .ref z11, .ref z12, .ref z13, .ref z14, .ref z15, .int (nI z16), .ref z17, .int z18, .ref z19]))]) hD hS hA [0] rfl
      refine va_calli (va_runV (As := [.int 6]) (rest := []) ⟨hx, hb, hml, hown, hg⟩ (m_refused l D H_2.size za 0 z1 (nI z2) (nI z3) z4 z5 z6 z7 z8 z9 (nI z10) z11 z12 z13 z14 z15 (nI z16) z17 z18 z19 6) (cwV 1 hg (gV wd_725 wd_726 wd_727 wd_717 wd_728) rfl rfl rfl (by decide +kernel) ⟨(Nat.le_trans (Nat.le_of_ble_eq_true rfl) hRf), (Nat.le_trans (Nat.le_of_ble_eq_true rfl) hRl)⟩) ⟨Pr.blind, va_recv hK hP (ci := 13) (q0 := 0) rfl rfl, fun U hU hW => ⟨rfl, Pr.at hPc hKc hDc hN hU hW⟩⟩ rfl rfl hl.1 rfl (lv_room (Nat.le_of_ble_eq_true rfl)) dX13_close_40 ⟨(Nat.le_trans (Nat.le_of_ble_eq_true rfl) hRc), (Nat.le_trans (Nat.le_of_ble_eq_true rfl) hRs)⟩) hS (fun q _ h => hFc q h) hFc (fun r_757 M_758 t H_756 locs ht hvm hw hB hz1 hk1 hS => ?_)
      have hp_759 := hw
      obtain ⟨hP1, hK1, hD1⟩ := hB
      rw [ht] at hP1
      obtain ⟨hP, hD⟩ := va_joinQ (X := [(za, .inr (13, [.int 0, .ref z1, .int (nI z2), .int (nI z3), .int z4, .int z5, .ref z6, .ref z7, .ref z8, .ref z9, .int (nI z10), .ref z11, .ref z12, .ref z13, .ref z14, .ref z15, .int (nI z16), .ref z17, .int z18, .ref z19]))]) (cx := [(za, .inr (13, [.int 0, .ref z1, .int (nI z2), .int (nI z3), .int z4, .int z5, .ref z6, .ref z7, .ref z8, .ref z9, .int (nI z10), .ref z11, .ref z12, .ref z13, .ref z14, .ref z15, .int (nI z16), .ref z17, .int z18, .ref z19]))]) (wr := []) (w1 := [(za, .inr (13, [.int 0, .ref z1, .int (nI z2), .int (nI z3), .int 6, .int (-1), .ref z6, .ref z7, .ref z8, .ref z9, .int (nI z10), .ref z11, .ref z12, .ref z13, .ref z14, .ref z15, .int (nI z16), .ref z17, .int z18, .ref z19]))]) (pl := va_pl L M) hP hD [0] [] rfl rfl (by decide) (by decide) hk1 hFc hP1 hD1
      have hP : va_P D vwCl ([(za, .inr (13, [.int 0, .ref z1, .int (nI z2), .int (nI z3), .int 6, .int (-1), .ref z6, .ref z7, .ref z8, .ref z9, .int (nI z10), .ref z11, .ref z12, .ref z13, .ref z14, .ref z15, .int (nI z16), .ref z17, .int z18, .ref z19]))] ++ va_pl L M) H_756 := hP
      have hD : va_D A ([(za, .inr (13, [.int 0, .ref z1, .int (nI z2), .int (nI z3), .int 6, .int (-1), .ref z6, .ref z7, .ref z8, .ref z9, .int (nI z10), .ref z11, .ref z12, .ref z13, .ref z14, .ref z15, .int (nI z16), .ref z17, .int z18, .ref z19]))] ++ va_pl L M) := hD
      have hq := Eq.symm hp_759
      subst hq
      have hI_760 : (0 : Int) ≤ (k1 : Int32).toInt := inltI rfl rfl c_7
      have hI_761 : (k1 : Int32).toInt < ((z2 : Nat) : Int) := inleI (nI_toInt (by omega)) rfl c_8
      have hI_762 : ((v21 : Nat) : Int) = ((v20 : Nat) : Int) := ieqI (nI_toInt (by omega)) (nI_toInt (by omega)) c_24
      have hno : ¬ okCl z2 PK PT SX SY k1 := fun q9 => by unfold okCl okH at q9; first | omega | (obtain ⟨⟨_, _⟩, _, _, _, _⟩ := q9; first | omega | contradiction)
      rw [hQ]
      exact W.iret (v := (-1)) hx hb hr (fun t ht hW9 => ⟨⟨(-1), M, rfl, ⟨hW, hF, hG, ⟨hGI, fun _ => 0, fun _ _ => 0, fun w9 => absurd w9 hno, (by unfold sxCl syCl; rw [if_neg hno, if_neg hno]; exact hZS)⟩, (by unfold anCl; rw [if_neg hno])⟩, ⟨6, (-1), z16, (by omega), by rw [ht]; exact hP, hD⟩⟩, hS.F ht⟩) hS.2.2 dX13_close_43
  · have hz := rfl (a := 0)
    refine lv_if_ne (tgt := 19) hx hb dX13_close_10 (by decide) (fun c_763 => absurd c_763 (by decide)) (fun _ => ?_)
    refine lv_aload_n hx hb dX13_close_13 rfl (lv_at hl 0 rfl) ?_
    refine lv_iconst (v := 1) hx hb dX13_close_14 (by decide) ?_
    have hPc := hP.sub (ws' := [(za, .inr (13, [.int 0, .ref z1, .int (nI z2), .int (nI z3), .int z4, .int z5, .ref z6, .ref z7, .ref z8, .ref z9, .int (nI z10), .ref z11, .ref z12, .ref z13, .ref z14, .ref z15, .int (nI z16), .ref z17, .int z18, .ref z19]))]) [0] rfl
    have hDc := hD.sub (ws' := [(za, .inr (13, [.int 0, .ref z1, .int (nI z2), .int (nI z3), .int z4, .int z5, .ref z6, .ref z7, .ref z8, .ref z9, .int (nI z10), .ref z11, .ref z12, .ref z13, .ref z14, .ref z15, .int (nI z16), .ref z17, .int z18, .ref z19]))]) [0] (by decide) rfl
    have hKc := hK.sub (tys' := []) [] rfl
    have hFc := va_free (wc := [(za, .inr (13, [.int 0, .ref z1, .int (nI z2), .int (nI z3), .int z4, .int z5, .ref z6, .ref z7, .ref z8, .ref z9, .int (nI z10), .ref z11, .ref z12, .ref z13, .ref z14, .ref z15, .int (nI z16), .ref z17, .int z18, .ref z19]))]) hD hS hA [0] rfl
    refine va_calli (va_runV (As := [.int 1]) (rest := []) ⟨hx, hb, hml, hown, hg⟩ (m_refused l D H_2.size za 0 z1 (nI z2) (nI z3) z4 z5 z6 z7 z8 z9 (nI z10) z11 z12 z13 z14 z15 (nI z16) z17 z18 z19 1) (cwV 1 hg (gV wd_725 wd_726 wd_727 wd_717 wd_728) rfl rfl rfl (by decide +kernel) ⟨(Nat.le_trans (Nat.le_of_ble_eq_true rfl) hRf), (Nat.le_trans (Nat.le_of_ble_eq_true rfl) hRl)⟩) ⟨Pr.blind, va_recv hK hP (ci := 13) (q0 := 0) rfl rfl, fun U hU hW => ⟨rfl, Pr.at hPc hKc hDc hN hU hW⟩⟩ rfl rfl hl.1 rfl (lv_room (Nat.le_of_ble_eq_true rfl)) dX13_close_15 ⟨(Nat.le_trans (Nat.le_of_ble_eq_true rfl) hRc), (Nat.le_trans (Nat.le_of_ble_eq_true rfl) hRs)⟩) hS (fun q _ h => hFc q h) hFc (fun r_765 M_766 t H_764 locs ht hvm hw hB hz1 hk1 hS => ?_)
    have hp_767 := hw
    obtain ⟨hP1, hK1, hD1⟩ := hB
    rw [ht] at hP1
    obtain ⟨hP, hD⟩ := va_joinQ (X := [(za, .inr (13, [.int 0, .ref z1, .int (nI z2), .int (nI z3), .int z4, .int z5, .ref z6, .ref z7, .ref z8, .ref z9, .int (nI z10), .ref z11, .ref z12, .ref z13, .ref z14, .ref z15, .int (nI z16), .ref z17, .int z18, .ref z19]))]) (cx := [(za, .inr (13, [.int 0, .ref z1, .int (nI z2), .int (nI z3), .int z4, .int z5, .ref z6, .ref z7, .ref z8, .ref z9, .int (nI z10), .ref z11, .ref z12, .ref z13, .ref z14, .ref z15, .int (nI z16), .ref z17, .int z18, .ref z19]))]) (wr := []) (w1 := [(za, .inr (13, [.int 0, .ref z1, .int (nI z2), .int (nI z3), .int 1, .int (-1), .ref z6, .ref z7, .ref z8, .ref z9, .int (nI z10), .ref z11, .ref z12, .ref z13, .ref z14, .ref z15, .int (nI z16), .ref z17, .int z18, .ref z19]))]) (pl := va_pl L M) hP hD [0] [] rfl rfl (by decide) (by decide) hk1 hFc hP1 hD1
    have hP : va_P D vwCl ([(za, .inr (13, [.int 0, .ref z1, .int (nI z2), .int (nI z3), .int 1, .int (-1), .ref z6, .ref z7, .ref z8, .ref z9, .int (nI z10), .ref z11, .ref z12, .ref z13, .ref z14, .ref z15, .int (nI z16), .ref z17, .int z18, .ref z19]))] ++ va_pl L M) H_764 := hP
    have hD : va_D A ([(za, .inr (13, [.int 0, .ref z1, .int (nI z2), .int (nI z3), .int 1, .int (-1), .ref z6, .ref z7, .ref z8, .ref z9, .int (nI z10), .ref z11, .ref z12, .ref z13, .ref z14, .ref z15, .int (nI z16), .ref z17, .int z18, .ref z19]))] ++ va_pl L M) := hD
    have hq := Eq.symm hp_767
    subst hq
    have hno : ¬ okCl z2 PK PT SX SY k1 := fun q9 => by unfold okCl okH at q9; first | omega | (obtain ⟨⟨_, _⟩, _, _, _, _⟩ := q9; first | omega | contradiction)
    rw [hQ]
    exact W.iret (v := (-1)) hx hb hr (fun t ht hW9 => ⟨⟨(-1), M, rfl, ⟨hW, hF, hG, ⟨hGI, fun _ => 0, fun _ _ => 0, fun w9 => absurd w9 hno, (by unfold sxCl syCl; rw [if_neg hno, if_neg hno]; exact hZS)⟩, (by unfold anCl; rw [if_neg hno])⟩, ⟨1, (-1), z16, (by omega), by rw [ht]; exact hP, hD⟩⟩, hS.F ht⟩) hS.2.2 dX13_close_18
