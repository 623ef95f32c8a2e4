set_option maxHeartbeats 4000000 in
set_option maxRecDepth 100000 in
theorem z_end (l : Launch) (D : va_G) (cy : Nat → ClassId) (K : Kp) (L : List Nat) (M : Hp) (sz : Nat) (za : Nat) (z0 : Int32) (z1 : Nat) (z2 : Nat) (z3 : Nat) (z4 : Int32) (z5 : Int32) (z6 : Nat) (z7 : Nat) (z8 : Nat) (z9 : Nat) (z10 : Nat) (z11 : Nat) (z12 : Nat) (z13 : Nat) (z14 : Nat) (z15 : Nat) (z16 : Nat) (z17 : Nat) (z18 : Int32) (z19 : Nat) (k1 : Int32) (k2 : Int32) (SX : Nat → Nat → Int) (SY : Nat → Nat → Nat → Int32) (hW : WOM cy K L M) (i1 : isk K L z1 23 8) (b2 : z2 ≤ 8) (b3 : z3 ≤ 40) (i6 : isk K L z6 47 40) (i7 : isk K L z7 48 40) (i8 : isk K L z8 49 8) (i9 : isk K L z9 50 8) (b10 : z10 ≤ 8) (i11 : isk K L z11 32 24) (i12 : isk K L z12 14 24) (i13 : isk K L z13 97 24) (i14 : isk K L z14 98 24) (i15 : isk K L z15 99 24) (b16 : z16 ≤ 24) (i17 : isk K L z17 14 24) (i19 : isk K L z19 15 25) (hGI : GI K L z1 z2 M) (hZS : ZSx z1 z2 SX SY M) : Met l yX13_end (wsM yX13_end cX13_end 5 (some .int)) ({ frames := 1, cells := 0, slots := 0, locals := 21 }) (va_Pc [.ref za, .int k1, .int k2] (PG D cy [(za, (b13_0 z0 z1 (nI z2) (nI z3) z4 z5 z6 z7 z8 z9 (nI z10) z11 z12 z13 z14 z15 (nI z16) z17 z18 z19))] L M sz)) (va_Qi (fun (r : Int32) (M9 : Hp) => WOM cy K L M9 ∧ fr K L [12, 38] M M9 ∧ fG K L [12] M M9 ∧ (GI K L z1 z2 M9 ∧ ZSx z1 z2 (sxEd z2 SX SY k1 k2) (syEd z2 SX SY k1 k2) M9) ∧ ((r = anEd z2 SX SY k1 k2))) (fun M9 t => ∃ (w4 : Int32), PQ D [(za, (b13_0 0 z1 (nI z2) (nI z3) w4 (-1) z6 z7 z8 z9 (nI z10) z11 z12 z13 z14 z15 (nI z16) z17 z18 z19))] L M9 (va_A ([(za, (b13_0 z0 z1 (nI z2) (nI z3) z4 z5 z6 z7 z8 z9 (nI z10) z11 z12 z13 z14 z15 (nI z16) z17 z18 z19))] ++ va_pl L M) sz) t) (va_A ([(za, (b13_0 z0 z1 (nI z2) (nI z3) z4 z5 z6 z7 z8 z9 (nI z10) z11 z12 z13 z14 z15 (nI z16) z17 z18 z19))] ++ va_pl L M) sz)) 0 0 (va_A ([(za, (b13_0 z0 z1 (nI z2) (nI z3) z4 z5 z6 z7 z8 z9 (nI z10) z11 z12 z13 z14 z15 (nI z16) z17 z18 z19))] ++ va_pl L M) sz) := by
  refine Met.ofW (cc := cX13_end) (maxL := 5) (ret := (some .int)) (by decide) rfl ?_
  intro p e s m args below meth c s₁ B hml hv
  obtain ⟨rfl, hsz, hP, hK, hD0, hN⟩ := hv
  have hx := B.exec
  have hb := B.bytes
  have hr := B.returns
  have hts := atoms_spec (ws := (wsM yX13_end cX13_end 5 (some .int))) B.pre
  have hg : ∀ w ∈ lw_good, w.before _ s = true := fun w h => hts w (List.mem_cons_of_mem _ h)
  have hown : s.vm.findClass RX13 = some m.cls := findClass_of_methodNamed B.named
  have hlocks := B.notSynchronized
  subst hsz
  have hD := hD0.self (sz := s.heap.size)
  generalize hAe : va_A ([(za, (b13_0 z0 z1 (nI z2) (nI z3) z4 z5 z6 z7 z8 z9 (nI z10) z11 z12 z13 z14 z15 (nI z16) z17 z18 z19))] ++ va_pl L M) s.heap.size = A at hD ⊢
  have hA : ∀ q : Nat, s.heap.size ≤ q → A q := fun q h => by rw [← hAe]; exact Or.inr h
  have hS : va_S A s.heap s.heap [] := va_S.rf
  have hl := lv_entry ([.ref za, .int k1, .int k2]) (n := 5) (Nat.le_of_ble_eq_true rfl)
  rw [lg_entry_eq]
  generalize (lg_sl ([.ref za, .int k1, .int k2]) ++ List.replicate (5 - (lg_sl ([.ref za, .int k1, .int k2])).length) Slot.unset).toArray = ls at hl ⊢
  refine W.nameQ (fun Q hQ => ?_)
  refine W.nameR (fun R hR => ?_)
  have hRf : 1 ≤ R.frames := by rw [hR]; exact Nat.le_of_ble_eq_true rfl
  have hRl : 21 ≤ R.locals := by rw [hR]; exact Nat.le_of_ble_eq_true rfl
  have hRc : 0 ≤ R.cells := by rw [hR]; exact Nat.le_of_ble_eq_true rfl
  have hRs : 0 ≤ R.slots := by rw [hR]; exact Nat.le_of_ble_eq_true rfl
  have hF : fr K L [12, 38] M M := fr.rf
  have hG : fG K L [12] M M := fG.rf
  have hl : lv_has ls 5 [(0, .ref za), (1, .int k1), (2, .int k2)] := hl
  have hW0 := hW
  refine lv_aload_n hx hb dX13_end_0 rfl (lv_at hl 0 rfl) ?_
  refine lv_iconst (v := 0) hx hb dX13_end_1 (by decide) ?_
  refine va_put (D := D) (ci := 13) (v := .int 0) (ty := .int) (C := RX13) (T := TX13) (N := 20) hx hb hg inG13 tyX13 tyX13_ok nmX13 hown hK hP hD hS 0 rfl rfl 0 (by decide) (hg _ wd_720) (fun _ h9 => h9) rfl (by decide +kernel) rfl rfl (Nat.le_of_ble_eq_true rfl) dX13_end_2 (fun H_1 locs hP hD hS => ?_)
  have hP : va_P D vwCl ([(za, (b13_0 0 z1 (nI z2) (nI z3) z4 z5 z6 z7 z8 z9 (nI z10) z11 z12 z13 z14 z15 (nI z16) z17 z18 z19))] ++ va_pl L M) H_1 := hP
  have hD : va_D A ([(za, (b13_0 0 z1 (nI z2) (nI z3) z4 z5 z6 z7 z8 z9 (nI z10) z11 z12 z13 z14 z15 (nI z16) z17 z18 z19))] ++ va_pl L M) := hD
  refine lv_aload_n hx hb dX13_end_5 rfl (lv_at hl 0 rfl) ?_
  refine lv_iload_n hx hb dX13_end_6 rfl (lv_at hl 1 rfl) ?_
  have hPc : va_P D vwCl ([(za, (b13_0 0 z1 (nI z2) (nI z3) z4 z5 z6 z7 z8 z9 (nI z10) z11 z12 z13 z14 z15 (nI z16) z17 z18 z19))] ++ va_pl L M) H_1 := hP
  have hDc : va_D A ([(za, (b13_0 0 z1 (nI z2) (nI z3) z4 z5 z6 z7 z8 z9 (nI z10) z11 z12 z13 z14 z15 (nI z16) z17 z18 z19))] ++ va_pl L M) := hD
  have hFc : ∀ q, va_A ([(za, (b13_0 0 z1 (nI z2) (nI z3) z4 z5 z6 z7 z8 z9 (nI z10) z11 z12 z13 z14 z15 (nI z16) z17 z18 z19))] ++ va_pl L M) H_1.size q → A q := pg_free hDc hS hA
  refine va_calli (va_runV (As := [.int k1]) (rest := []) ⟨hx, hb, hml, hown, hg⟩ (f_isHouse l D cy K L M H_1.size za 0 z1 z2 z3 z4 z5 z6 z7 z8 z9 z10 z11 z12 z13 z14 z15 z16 z17 z18 z19 k1  hW i1 b2 b3 i6 i7 i8 i9 b10 i11 i12 i13 i14 i15 b16 i17 i19) (cwV 1 hg (gV wd_714 wd_715 wd_716 wd_717 wd_718) rfl rfl rfl (by decide +kernel) ⟨(Nat.le_trans (Nat.le_of_ble_eq_true rfl) hRf), (Nat.le_trans (Nat.le_of_ble_eq_true rfl) hRl)⟩) ⟨PG.blind, va_recv hK hP (ci := 13) (q0 := 0) rfl rfl, fun U hU hW => ⟨rfl, PG.at hPc hK hDc hN hU hW⟩⟩ rfl rfl hl.1 rfl (lv_room (Nat.le_of_ble_eq_true rfl)) dX13_end_7 ⟨(Nat.le_trans (Nat.le_of_ble_eq_true rfl) hRc), (Nat.le_trans (Nat.le_of_ble_eq_true rfl) hRs)⟩) hS (fun q _ h => hFc q h) hFc (fun r_3 M_4 t H_2 locs ht hvm hw hB hz1 hk1 hS => ?_)
  have hp_5 := hw
  obtain ⟨hP1, hD1⟩ := hB
  rw [ht] at hP1
  have hP : va_P D vwCl ([(za, (b13_0 0 z1 (nI z2) (nI z3) z4 z5 z6 z7 z8 z9 (nI z10) z11 z12 z13 z14 z15 (nI z16) z17 z18 z19))] ++ va_pl L M) H_2 := hP1
  have hD : va_D A ([(za, (b13_0 0 z1 (nI z2) (nI z3) z4 z5 z6 z7 z8 z9 (nI z10) z11 z12 z13 z14 z15 (nI z16) z17 z18 z19))] ++ va_pl L M) := hD1.mono hFc
  rcases hp_5 with ⟨rfl, c_6, c_7, c_8⟩ | ⟨rfl, c_9⟩
  · have hz := rfl (a := 0)
    refine lv_if_ne (tgt := 19) hx hb dX13_end_10 (by decide) (fun _ => ?_) (fun c_10 => absurd c_10 (by decide))
    refine lv_aload_n hx hb dX13_end_19 rfl (lv_at hl 0 rfl) ?_
    refine va_get (D := D) (ci := 13) (v := .ref z1) (C := RX13) (T := TX13) (N := 20) hx hb hg inG13 hown hK hP 0 rfl rfl 1 (by decide) (hg _ wd_739) (fun _ h9 => h9) rfl dX13_end_20 ?_
    refine lv_iload_n hx hb dX13_end_23 rfl (lv_at hl 1 rfl) ?_
    obtain ⟨f11, hM11, hf11⟩ := hW.open_23 i1
    have hi_12 : vp_in k1 8 := (inbW (a := z2) (by omega) (inb k1 z2 (by omega) c_7 c_8))
    refine pg_aldq hx hb hK hP i1.1 9 hM11 rfl hi_12 dX13_end_24 ?_
    obtain ⟨b13, eb_14, hb_15⟩ := hf11 _ (vp_lt hi_12)
    rw [eb_14]
    have hact : ACT z1 z2 b13 M := ⟨(k1 : Int32).toNatClampNeg, vp_lt (inb k1 z2 (by omega) c_7 c_8), by rw [show RFc (M z1) = f11 from by rw [hM11]; rfl]; exact eb_14⟩
    have hAT := GI.at hGI hact
    have hV : VW K L M M b13 (fx M b13) (ax M b13) := VW.rf b13 hGI.2.2.2
    have hb9 : RFc (M z1) (k1 : Int32).toNatClampNeg = some b13 := by rw [show RFc (M z1) = f11 from by rw [hM11]; rfl]; exact eb_14
    have hkn : (k1 : Int32).toNatClampNeg < z2 := vp_lt (inb k1 z2 (by omega) c_7 c_8)
    have hZk := hZS _ b13 hkn hb9
    have hz0 : fx M b13 0 = SX (k1 : Int32).toNatClampNeg 0 := congrFun hZk.1 0
    have hz1 : fx M b13 1 = SX (k1 : Int32).toNatClampNeg 1 := congrFun hZk.1 1
    have hz10 : fx M b13 10 = SX (k1 : Int32).toNatClampNeg 10 := congrFun hZk.1 10
    have hz11 : fx M b13 11 = SX (k1 : Int32).toNatClampNeg 11 := congrFun hZk.1 11
    have hz12 : fx M b13 12 = SX (k1 : Int32).toNatClampNeg 12 := congrFun hZk.1 12
    have hz13 : fx M b13 13 = SX (k1 : Int32).toNatClampNeg 13 := congrFun hZk.1 13
    have hz14 : fx M b13 14 = SX (k1 : Int32).toNatClampNeg 14 := congrFun hZk.1 14
    have hz15 : fx M b13 15 = SX (k1 : Int32).toNatClampNeg 15 := congrFun hZk.1 15
    have hz16 : fx M b13 16 = SX (k1 : Int32).toNatClampNeg 16 := congrFun hZk.1 16
    refine lv_astore_n (lv' := [(3, .ref b13), (0, .ref za), (1, .int k1), (2, .int k2)]) hx hb dX13_end_25 rfl hl (by decide) rfl (fun ls hl => ?_)
    obtain ⟨fs16, hM16, hn16, hl16⟩ := hW.open_12 hb_15
    obtain ⟨v17, hv17, hc17⟩ : ∃ v : Nat, fs16[0]? = some (.int (nI v) : Value) ∧ v ≤ 999 := hl16 0 (by decide)
    have hx0 : (fx M b13 0) = ((v17 : Nat) : Int) := (congrFun hV.2.1 0).symm.trans ((fx_of hM16 rfl hv17).trans (nI_toInt (by omega)))
    obtain ⟨v18, hv18, hc18⟩ : ∃ v : Nat, fs16[12]? = some (.int (nI v) : Value) ∧ v ≤ 12 := hl16 12 (by decide)
    have hx12 : (fx M b13 12) = ((v18 : Nat) : Int) := (congrFun hV.2.1 12).symm.trans ((fx_of hM16 rfl hv18).trans (nI_toInt (by omega)))
    obtain ⟨v19, hv19, hc19⟩ : ∃ v : Nat, fs16[13]? = some (.int (nI v) : Value) ∧ v ≤ 12 := hl16 13 (by decide)
    have hx13 : (fx M b13 13) = ((v19 : Nat) : Int) := (congrFun hV.2.1 13).symm.trans ((fx_of hM16 rfl hv19).trans (nI_toInt (by omega)))
    obtain ⟨v20, hv20, hc20⟩ : ∃ v : Nat, fs16[37]? = some (.ref v : Value) ∧ isk K L v 38 12 := hl16 37 (by decide)
    obtain ⟨f21, hM21, hf21⟩ := hW.open_38 hc20
    have hy37 : (ax M b13 37) = f21 := (congrFun hV.2.2.1 37).symm.trans (ax_of hM16 (by decide) hv20 hM21)
    refine lv_aload_n hx hb dX13_end_26 rfl (lv_at hl 0 rfl) ?_
    refine pg_getN (D := D) (ci := 12) (v := .int (nI v18)) (C := RX12) (T := TX12) (N := 51) hx hb hg inG12 hown hK hP hb_15.1 hM16 rfl 12 (by decide) (hN.use (Cond.fieldLinkNest RX13 233 RX12 "years" "I" RX13) 21 rfl rfl) (fun _ h9 => h9) hv18 dX13_end_27 ?_
    refine lv_if_ne (tgt := 40) hx hb dX13_end_30 (by decide) (fun c_22 => ?_) (fun c_22 => ?_)
    · have hz := rfl (a := 0)
      have n_23 : ¬ (v18 = 0) := fun q => c_22 ((iEQ (a := v18) (b := 0) (by omega) (by omega)).mpr q)
      refine lv_aload_n hx hb dX13_end_40 rfl (lv_at hl 0 rfl) ?_
      refine pg_getN (D := D) (ci := 12) (v := .ref v20) (C := RX12) (T := TX12) (N := 51) hx hb hg inG12 hown hK hP hb_15.1 hM16 rfl 37 (by decide) (hN.use (Cond.fieldLinkNest RX13 236 RX12 "end" "[I" RX13) 46 rfl rfl) (fun _ h9 => h9) hv20 dX13_end_41 ?_
      refine lv_aload_n hx hb dX13_end_44 rfl (lv_at hl 0 rfl) ?_
      refine pg_getN (D := D) (ci := 12) (v := .int (nI v18)) (C := RX12) (T := TX12) (N := 51) hx hb hg inG12 hown hK hP hb_15.1 hM16 rfl 12 (by decide) (hN.use (Cond.fieldLinkNest RX13 233 RX12 "years" "I" RX13) 21 rfl rfl) (fun _ h9 => h9) hv18 dX13_end_45 ?_
      refine lv_iconst (v := 1) hx hb dX13_end_48 (by decide) ?_
      refine lv_isub hx hb dX13_end_49 ?_
      refine lv_topi (fun f_24 ef_24 => ?_)
      obtain rfl : f_24 = (nI (v18 - 1)) := ef_24.trans (nI_prd (by omega))
      have hi_25 : vp_in (nI (v18 - 1)) 12 := (inbN (v18 - 1) 12 (by omega) (by omega))
      refine pg_iald hx hb hK hP hc20.1 0 hM21 rfl hi_25 dX13_end_50 ?_
      have hp_26 := hf21 _ (vp_lt hi_25)
      obtain ⟨c_27, hc_28, ec_29⟩ := hp_26
      rw [ec_29]
      have hpv : pv (fx M b13 0) (ax M b13 37) v18 = ((c_27 : Nat) : Int) := by
        have h := ec_29
        rw [nI_cl (by omega)] at h
        rw [pv_s (by omega), hy37, h, nI_toInt (by omega)]
      refine lv_iconst (v := 1) hx hb dX13_end_51 (by decide) ?_
      refine lv_iadd hx hb dX13_end_52 ?_
      refine lv_topi (fun f_30 ef_30 => ?_)
      obtain rfl : f_30 = (nI (c_27 + 1)) := ef_30.trans (nI_add c_27 1)
      refine lv_istore (lv' := [(4, .int (nI (c_27 + 1))), (3, .ref b13), (0, .ref za), (1, .int k1), (2, .int k2)]) hx hb dX13_end_53 hl (by decide) rfl (fun ls hl => ?_)
      have hfe : (SY (k1 : Int32).toNatClampNeg 37 (SX (k1 : Int32).toNatClampNeg 12 - 1).toNat).toInt = ((c_27 : Nat) : Int) := by
        have h := ec_29
        rw [nI_cl (by omega)] at h
        rw [← hZk.2, show (SX (k1 : Int32).toNatClampNeg 12 - 1).toNat = v18 - 1 by omega, hy37, h, nI_toInt (by omega)]
      have hfr : (((c_27 + 1) : Nat) : Int) = frS (SX (k1 : Int32).toNatClampNeg) (SY (k1 : Int32).toNatClampNeg) := by unfold frS; rw [if_neg (by omega), hfe]; omega
      refine lv_iload_n hx hb dX13_end_55 rfl (lv_at hl 4 rfl) ?_
      refine lv_if_lt (tgt := 81) hx hb dX13_end_56 (by decide) (fun c_31 => ?_) (fun c_31 => ?_)
      · have hz := rfl (a := 0)
        refine lv_aload_n hx hb dX13_end_81 rfl (lv_at hl 2 rfl) ?_
        refine lv_iconst (v := 3) hx hb dX13_end_82 (by decide) ?_
        have hPc := hP.sub (ws' := [(za, (b13_0 0 z1 (nI z2) (nI z3) z4 z5 z6 z7 z8 z9 (nI z10) z11 z12 z13 z14 z15 (nI z16) z17 z18 z19))]) [0] rfl
        have hDc := hD.sub (ws' := [(za, (b13_0 0 z1 (nI z2) (nI z3) z4 z5 z6 z7 z8 z9 (nI z10) z11 z12 z13 z14 z15 (nI z16) z17 z18 z19))]) [0] (by decide) rfl
        have hKc := hK.sub (tys' := []) [] rfl
        have hFc := va_free (wc := [(za, (b13_0 0 z1 (nI z2) (nI z3) z4 z5 z6 z7 z8 z9 (nI z10) z11 z12 z13 z14 z15 (nI z16) z17 z18 z19))]) hD hS hA [0] rfl
        refine va_calli (va_runV (As := [.int 3]) (rest := []) ⟨hx, hb, hml, hown, hg⟩ (m_refused l D H_2.size za 0 z1 (nI z2) (nI z3) z4 z5 z6 z7 z8 z9 (nI z10) z11 z12 z13 z14 z15 (nI z16) z17 z18 z19 3) (cwV 1 hg (gV wd_725 wd_726 wd_727 wd_717 wd_728) rfl rfl rfl (by decide +kernel) ⟨(Nat.le_trans (Nat.le_of_ble_eq_true rfl) hRf), (Nat.le_trans (Nat.le_of_ble_eq_true rfl) hRl)⟩) ⟨Pr.blind, va_recv hK hP (ci := 13) (q0 := 0) rfl rfl, fun U hU hW => ⟨rfl, Pr.at hPc hKc hDc hN hU hW⟩⟩ rfl rfl hl.1 rfl (lv_room (Nat.le_of_ble_eq_true rfl)) dX13_end_83 ⟨(Nat.le_trans (Nat.le_of_ble_eq_true rfl) hRc), (Nat.le_trans (Nat.le_of_ble_eq_true rfl) hRs)⟩) hS (fun q _ h => hFc q h) hFc (fun r_33 M_34 t H_32 locs ht hvm hw hB hz1 hk1 hS => ?_)
        have hp_35 := hw
        obtain ⟨hP1, hK1, hD1⟩ := hB
        rw [ht] at hP1
        obtain ⟨hP, hD⟩ := va_joinQ (X := [(za, (b13_0 0 z1 (nI z2) (nI z3) z4 z5 z6 z7 z8 z9 (nI z10) z11 z12 z13 z14 z15 (nI z16) z17 z18 z19))]) (cx := [(za, (b13_0 0 z1 (nI z2) (nI z3) z4 z5 z6 z7 z8 z9 (nI z10) z11 z12 z13 z14 z15 (nI z16) z17 z18 z19))]) (wr := []) (w1 := [(za, (b13_0 0 z1 (nI z2) (nI z3) 3 (-1) z6 z7 z8 z9 (nI z10) z11 z12 z13 z14 z15 (nI z16) z17 z18 z19))]) (pl := va_pl L M) hP hD [0] [] rfl rfl (by decide) (by decide) hk1 hFc hP1 hD1
        have hP : va_P D vwCl ([(za, (b13_0 0 z1 (nI z2) (nI z3) 3 (-1) z6 z7 z8 z9 (nI z10) z11 z12 z13 z14 z15 (nI z16) z17 z18 z19))] ++ va_pl L M) H_32 := hP
        have hD : va_D A ([(za, (b13_0 0 z1 (nI z2) (nI z3) 3 (-1) z6 z7 z8 z9 (nI z10) z11 z12 z13 z14 z15 (nI z16) z17 z18 z19))] ++ va_pl L M) := hD
        have hq := Eq.symm hp_35
        subst hq
        have hI_36 : (0 : Int) ≤ (k1 : Int32).toInt := inltI rfl rfl c_7
        have hI_37 : (k1 : Int32).toInt < ((z2 : Nat) : Int) := inleI (nI_toInt (by omega)) rfl c_8
        have hI_38 : ((v18 : Nat) : Int) ≠ (0 : Int) := ineI (nI_toInt (by omega)) rfl c_22
        have hI_39 : (k2 : Int32).toInt < (0 : Int) := iltI rfl rfl c_31
        have hno : ¬ okEd z2 SX SY k1 k2 := fun q9 => by unfold okEd okH at q9; first | omega | (obtain ⟨⟨_, _⟩, _, _, _, _, _⟩ := q9; first | omega | contradiction)
        rw [hQ]
        exact W.iret (v := (-1)) hx hb hr (fun t ht hW9 => ⟨⟨(-1), M, rfl, ⟨hW, hF, hG, ⟨hGI, (by unfold sxEd syEd; rw [if_neg hno, if_neg hno]; exact hZS)⟩, (by unfold anEd; rw [if_neg hno])⟩, ⟨3, by rw [ht]; exact hP, hD⟩⟩, hS.F ht⟩) hS.2.2 dX13_end_86
      · have hz := rfl (a := 0)
        refine lv_iload_n hx hb dX13_end_59 rfl (lv_at hl 4 rfl) ?_
        refine lv_sipush (v := 1000) hx hb dX13_end_60 (by decide) ?_
        refine lv_icmp_ge (tgt := 81) hx hb dX13_end_63 (by decide) (fun c_40 => ?_) (fun c_40 => ?_)
        · have hz := rfl (a := 0)
          refine lv_aload_n hx hb dX13_end_81 rfl (lv_at hl 2 rfl) ?_
          refine lv_iconst (v := 3) hx hb dX13_end_82 (by decide) ?_
          have hPc := hP.sub (ws' := [(za, (b13_0 0 z1 (nI z2) (nI z3) z4 z5 z6 z7 z8 z9 (nI z10) z11 z12 z13 z14 z15 (nI z16) z17 z18 z19))]) [0] rfl
          have hDc := hD.sub (ws' := [(za, (b13_0 0 z1 (nI z2) (nI z3) z4 z5 z6 z7 z8 z9 (nI z10) z11 z12 z13 z14 z15 (nI z16) z17 z18 z19))]) [0] (by decide) rfl
          have hKc := hK.sub (tys' := []) [] rfl
          have hFc := va_free (wc := [(za, (b13_0 0 z1 (nI z2) (nI z3) z4 z5 z6 z7 z8 z9 (nI z10) z11 z12 z13 z14 z15 (nI z16) z17 z18 z19))]) hD hS hA [0] rfl
          refine va_calli (va_runV (As := [.int 3]) (rest := []) ⟨hx, hb, hml, hown, hg⟩ (m_refused l D H_2.size za 0 z1 (nI z2) (nI z3) z4 z5 z6 z7 z8 z9 (nI z10) z11 z12 z13 z14 z15 (nI z16) z17 z18 z19 3) (cwV 1 hg (gV wd_725 wd_726 wd_727 wd_717 wd_728) rfl rfl rfl (by decide +kernel) ⟨(Nat.le_trans (Nat.le_of_ble_eq_true rfl) hRf), (Nat.le_trans (Nat.le_of_ble_eq_true rfl) hRl)⟩) ⟨Pr.blind, va_recv hK hP (ci := 13) (q0 := 0) rfl rfl, fun U hU hW => ⟨rfl, Pr.at hPc hKc hDc hN hU hW⟩⟩ rfl rfl hl.1 rfl (lv_room (Nat.le_of_ble_eq_true rfl)) dX13_end_83 ⟨(Nat.le_trans (Nat.le_of_ble_eq_true rfl) hRc), (Nat.le_trans (Nat.le_of_ble_eq_true rfl) hRs)⟩) hS (fun q _ h => hFc q h) hFc (fun r_42 M_43 t H_41 locs ht hvm hw hB hz1 hk1 hS => ?_)
          have hp_44 := hw
          obtain ⟨hP1, hK1, hD1⟩ := hB
          rw [ht] at hP1
          obtain ⟨hP, hD⟩ := va_joinQ (X := [(za, (b13_0 0 z1 (nI z2) (nI z3) z4 z5 z6 z7 z8 z9 (nI z10) z11 z12 z13 z14 z15 (nI z16) z17 z18 z19))]) (cx := [(za, (b13_0 0 z1 (nI z2) (nI z3) z4 z5 z6 z7 z8 z9 (nI z10) z11 z12 z13 z14 z15 (nI z16) z17 z18 z19))]) (wr := []) (w1 := [(za, (b13_0 0 z1 (nI z2) (nI z3) 3 (-1) z6 z7 z8 z9 (nI z10) z11 z12 z13 z14 z15 (nI z16) z17 z18 z19))]) (pl := va_pl L M) hP hD [0] [] rfl rfl (by decide) (by decide) hk1 hFc hP1 hD1
          have hP : va_P D vwCl ([(za, (b13_0 0 z1 (nI z2) (nI z3) 3 (-1) z6 z7 z8 z9 (nI z10) z11 z12 z13 z14 z15 (nI z16) z17 z18 z19))] ++ va_pl L M) H_41 := hP
          have hD : va_D A ([(za, (b13_0 0 z1 (nI z2) (nI z3) 3 (-1) z6 z7 z8 z9 (nI z10) z11 z12 z13 z14 z15 (nI z16) z17 z18 z19))] ++ va_pl L M) := hD
          have hq := Eq.symm hp_44
          subst hq
          have hI_45 : (0 : Int) ≤ (k1 : Int32).toInt := inltI rfl rfl c_7
          have hI_46 : (k1 : Int32).toInt < ((z2 : Nat) : Int) := inleI (nI_toInt (by omega)) rfl c_8
          have hI_47 : ((v18 : Nat) : Int) ≠ (0 : Int) := ineI (nI_toInt (by omega)) rfl c_22
          have hI_48 : (0 : Int) ≤ (k2 : Int32).toInt := inltI rfl rfl c_31
          have hI_49 : (1000 : Int) ≤ (k2 : Int32).toInt := ileI rfl rfl c_40
          have hno : ¬ okEd z2 SX SY k1 k2 := fun q9 => by unfold okEd okH at q9; first | omega | (obtain ⟨⟨_, _⟩, _, _, _, _, _⟩ := q9; first | omega | contradiction)
          rw [hQ]
          exact W.iret (v := (-1)) hx hb hr (fun t ht hW9 => ⟨⟨(-1), M, rfl, ⟨hW, hF, hG, ⟨hGI, (by unfold sxEd syEd; rw [if_neg hno, if_neg hno]; exact hZS)⟩, (by unfold anEd; rw [if_neg hno])⟩, ⟨3, by rw [ht]; exact hP, hD⟩⟩, hS.F ht⟩) hS.2.2 dX13_end_86
        · have hz := rfl (a := 0)
          refine lv_iload_n hx hb dX13_end_66 rfl (lv_at hl 4 rfl) ?_
          refine lv_iload hx hb dX13_end_67 (lv_at hl 0 rfl) ?_
          refine lv_icmp_lt (tgt := 81) hx hb dX13_end_69 (by decide) (fun c_50 => ?_) (fun c_50 => ?_)
          · have hz := rfl (a := 0)
            refine lv_aload_n hx hb dX13_end_81 rfl (lv_at hl 2 rfl) ?_
            refine lv_iconst (v := 3) hx hb dX13_end_82 (by decide) ?_
            have hPc := hP.sub (ws' := [(za, (b13_0 0 z1 (nI z2) (nI z3) z4 z5 z6 z7 z8 z9 (nI z10) z11 z12 z13 z14 z15 (nI z16) z17 z18 z19))]) [0] rfl
            have hDc := hD.sub (ws' := [(za, (b13_0 0 z1 (nI z2) (nI z3) z4 z5 z6 z7 z8 z9 (nI z10) z11 z12 z13 z14 z15 (nI z16) z17 z18 z19))]) [0] (by decide) rfl
            have hKc := hK.sub (tys' := []) [] rfl
            have hFc := va_free (wc := [(za, (b13_0 0 z1 (nI z2) (nI z3) z4 z5 z6 z7 z8 z9 (nI z10) z11 z12 z13 z14 z15 (nI z16) z17 z18 z19))]) hD hS hA [0] rfl
            refine va_calli (va_runV (As := [.int 3]) (rest := []) ⟨hx, hb, hml, hown, hg⟩ (m_refused l D H_2.size za 0 z1 (nI z2) (nI z3) z4 z5 z6 z7 z8 z9 (nI z10) z11 z12 z13 z14 z15 (nI z16) z17 z18 z19 3) (cwV 1 hg (gV wd_725 wd_726 wd_727 wd_717 wd_728) rfl rfl rfl (by decide +kernel) ⟨(Nat.le_trans (Nat.le_of_ble_eq_true rfl) hRf), (Nat.le_trans (Nat.le_of_ble_eq_true rfl) hRl)⟩) ⟨Pr.blind, va_recv hK hP (ci := 13) (q0 := 0) rfl rfl, fun U hU hW => ⟨rfl, Pr.at hPc hKc hDc hN hU hW⟩⟩ rfl rfl hl.1 rfl (lv_room (Nat.le_of_ble_eq_true rfl)) dX13_end_83 ⟨(Nat.le_trans (Nat.le_of_ble_eq_true rfl) hRc), (Nat.le_trans (Nat.le_of_ble_eq_true rfl) hRs)⟩) hS (fun q _ h => hFc q h) hFc (fun r_52 M_53 t H_51 locs ht hvm hw hB hz1 hk1 hS => ?_)
            have hp_54 := hw
            obtain ⟨hP1, hK1, hD1⟩ := hB
            rw [ht] at hP1
            obtain ⟨hP, hD⟩ := va_joinQ (X := [(za, (b13_0 0 z1 (nI z2) (nI z3) z4 z5 z6 z7 z8 z9 (nI z10) z11 z12 z13 z14 z15 (nI z16) z17 z18 z19))]) (cx := [(za, (b13_0 0 z1 (nI z2) (nI z3) z4 z5 z6 z7 z8 z9 (nI z10) z11 z12 z13 z14 z15 (nI z16) z17 z18 z19))]) (wr := []) (w1 := [(za, (b13_0 0 z1 (nI z2) (nI z3) 3 (-1) z6 z7 z8 z9 (nI z10) z11 z12 z13 z14 z15 (nI z16) z17 z18 z19))]) (pl := va_pl L M) hP hD [0] [] rfl rfl (by decide) (by decide) hk1 hFc hP1 hD1
            have hP : va_P D vwCl ([(za, (b13_0 0 z1 (nI z2) (nI z3) 3 (-1) z6 z7 z8 z9 (nI z10) z11 z12 z13 z14 z15 (nI z16) z17 z18 z19))] ++ va_pl L M) H_51 := hP
            have hD : va_D A ([(za, (b13_0 0 z1 (nI z2) (nI z3) 3 (-1) z6 z7 z8 z9 (nI z10) z11 z12 z13 z14 z15 (nI z16) z17 z18 z19))] ++ va_pl L M) := hD
            have hq := Eq.symm hp_54
            subst hq
            have hI_55 : (0 : Int) ≤ (k1 : Int32).toInt := inltI rfl rfl c_7
            have hI_56 : (k1 : Int32).toInt < ((z2 : Nat) : Int) := inleI (nI_toInt (by omega)) rfl c_8
            have hI_57 : ((v18 : Nat) : Int) ≠ (0 : Int) := ineI (nI_toInt (by omega)) rfl c_22
            have hI_58 : (0 : Int) ≤ (k2 : Int32).toInt := inltI rfl rfl c_31
            have hI_59 : (k2 : Int32).toInt < (1000 : Int) := inleI rfl rfl c_40
            have hI_60 : (k2 : Int32).toInt < (((c_27 + 1) : Nat) : Int) := iltI rfl (nI_toInt (by omega)) c_50
            have hno : ¬ okEd z2 SX SY k1 k2 := fun q9 => by unfold okEd okH at q9; first | omega | (obtain ⟨⟨_, _⟩, _, _, _, _, _⟩ := q9; first | omega | contradiction)
            rw [hQ]
            exact W.iret (v := (-1)) hx hb hr (fun t ht hW9 => ⟨⟨(-1), M, rfl, ⟨hW, hF, hG, ⟨hGI, (by unfold sxEd syEd; rw [if_neg hno, if_neg hno]; exact hZS)⟩, (by unfold anEd; rw [if_neg hno])⟩, ⟨3, by rw [ht]; exact hP, hD⟩⟩, hS.F ht⟩) hS.2.2 dX13_end_86
          · have hz := rfl (a := 0)
            refine lv_iload_n hx hb dX13_end_72 rfl (lv_at hl 4 rfl) ?_
            refine lv_iload hx hb dX13_end_73 (lv_at hl 0 rfl) ?_
            refine lv_bipush (v := 99) hx hb dX13_end_75 (by decide) ?_
            refine lv_iadd hx hb dX13_end_77 ?_
            refine lv_topi (fun f_61 ef_61 => ?_)
            obtain rfl : f_61 = (nI ((c_27 + 1) + 99)) := ef_61.trans (nI_add (c_27 + 1) 99)
            refine lv_icmp_le (tgt := 87) hx hb dX13_end_78 (by decide) (fun c_62 => ?_) (fun c_62 => ?_)
            · have hz := rfl (a := 0)
              refine lv_aload_n hx hb dX13_end_87 rfl (lv_at hl 1 rfl) ?_
              refine pg_getN (D := D) (ci := 12) (v := .int (nI v18)) (C := RX12) (T := TX12) (N := 51) hx hb hg inG12 hown hK hP hb_15.1 hM16 rfl 12 (by decide) (hN.use (Cond.fieldLinkNest RX13 233 RX12 "years" "I" RX13) 21 rfl rfl) (fun _ h9 => h9) hv18 dX13_end_88 ?_
              refine lv_bipush (v := 12) hx hb dX13_end_91 (by decide) ?_
              refine lv_icmp_ne (tgt := 103) hx hb dX13_end_93 (by decide) (fun c_63 => ?_) (fun c_63 => ?_)
              · have hz := rfl (a := 0)
                have n_64 : ¬ (v18 = 12) := fun q => c_63 ((iEQ (a := v18) (b := 12) (by omega) (by omega)).mpr q)
                refine lv_aload_n hx hb dX13_end_103 rfl (lv_at hl 1 rfl) ?_
                refine pg_getN (D := D) (ci := 12) (v := .ref v20) (C := RX12) (T := TX12) (N := 51) hx hb hg inG12 hown hK hP hb_15.1 hM16 rfl 37 (by decide) (hN.use (Cond.fieldLinkNest RX13 236 RX12 "end" "[I" RX13) 46 rfl rfl) (fun _ h9 => h9) hv20 dX13_end_104 ?_
                refine lv_aload_n hx hb dX13_end_107 rfl (lv_at hl 1 rfl) ?_
                refine pg_getN (D := D) (ci := 12) (v := .int (nI v18)) (C := RX12) (T := TX12) (N := 51) hx hb hg inG12 hown hK hP hb_15.1 hM16 rfl 12 (by decide) (hN.use (Cond.fieldLinkNest RX13 233 RX12 "years" "I" RX13) 21 rfl rfl) (fun _ h9 => h9) hv18 dX13_end_108 ?_
                refine lv_iload_n hx hb dX13_end_111 rfl (lv_at hl 4 rfl) ?_
                obtain ⟨j_65, hj_66, rfl⟩ := i32nat 1000 (by decide) c_31 c_40
                refine pg_iast hx hb hK hP hD hS hc20.1 0 hM21 rfl (inbN v18 12 (by omega) (by omega)) dX13_end_112 (fun H_67 locs hP hD hS => ?_)
                obtain ⟨M_68, eM_68⟩ : ∃ M1 : Hp, M1 = va_up M v20 (.inl (cy 14, 12, .inl (upd f21 ((nI v18) : Int32).toNatClampNeg (nI j_65)))) := ⟨_, rfl⟩
                have hy37 : (ax M b13 37) = f21 := (congrFun hV.2.2.1 37).symm.trans (ax_of hM16 (by decide) hv20 hM21)
                have hV : VW K L M M_68 b13 (fx M b13) (va_up (ax M b13) 37 (upd (ax M b13 37) ((nI v18) : Int32).toNatClampNeg (nI j_65))) := by rw [eM_68]; exact hV.ast (j := 37) hW hb_15 hM16 (by decide) hv20 hc20 hM21
                have hP : va_P D vwCl ([(za, (b13_0 0 z1 (nI z2) (nI z3) z4 z5 z6 z7 z8 z9 (nI z10) z11 z12 z13 z14 z15 (nI z16) z17 z18 z19))] ++ va_pl L M_68) H_67 := by rw [eM_68]; exact hP
                have hD : va_D A ([(za, (b13_0 0 z1 (nI z2) (nI z3) z4 z5 z6 z7 z8 z9 (nI z10) z11 z12 z13 z14 z15 (nI z16) z17 z18 z19))] ++ va_pl L M_68) := by rw [eM_68]; exact hD
                have hW : WOM cy K L M_68 := by rw [eM_68]; exact hW.up_38 hc20 ⟨_, rfl, (updP (P := fun z => ∃ c : Nat, c < 1000 ∧ z = nI c) hf21 ⟨j_65, by omega, rfl⟩)⟩
                have hF : fr K L [12, 38] M M_68 := by rw [eM_68]; exact hF.up hc20 (by decide)
                have hG : fG K L [12] M M_68 := by rw [eM_68]; exact hG.arr hc20 (by decide)
                have hM_69 : M_68 v20 = .inl (cy 14, 12, .inl (upd f21 ((nI v18) : Int32).toNatClampNeg (nI j_65))) := by rw [eM_68]; exact va_up_self _ _ _
                have hM_70 : M_68 z1 = .inl (cy 23, 8, .inr (.inr (.inr (.inr (f11))))) := by rw [eM_68, va_up_ne _ _ (i1.neT hc20 (by decide))]; exact hM11
                have hM_71 : M_68 b13 = .inr (12, fs16) := by rw [eM_68, va_up_ne _ _ (hb_15.neT hc20 (by decide))]; exact hM16
                have hf_73 : ∀ j, j < 12 → ∃ c : Nat, c < 1000 ∧ (upd f21 ((nI v18) : Int32).toNatClampNeg (nI j_65)) j = nI c := (updP (P := fun z => ∃ c : Nat, c < 1000 ∧ z = nI c) hf21 ⟨j_65, by omega, rfl⟩)
                obtain ⟨f_72, ef_72⟩ : ∃ f : Nat → Int32, f = upd f21 ((nI v18) : Int32).toNatClampNeg (nI j_65) := ⟨_, rfl⟩
                rw [← ef_72] at hM_69 hf_73
                refine lv_aload_n hx hb dX13_end_113 rfl (lv_at hl 1 rfl) ?_
                refine lv_dup hx hb dX13_end_114 rfl ?_
                refine pg_getN (D := D) (ci := 12) (v := .int (nI v18)) (C := RX12) (T := TX12) (N := 51) hx hb hg inG12 hown hK hP hb_15.1 hM_71 rfl 12 (by decide) (hN.use (Cond.fieldLinkNest RX13 233 RX12 "years" "I" RX13) 21 rfl rfl) (fun _ h9 => h9) hv18 dX13_end_115 ?_
                refine lv_iconst (v := 1) hx hb dX13_end_118 (by decide) ?_
                refine lv_iadd hx hb dX13_end_119 ?_
                refine lv_topi (fun f_74 ef_74 => ?_)
                obtain rfl : f_74 = (nI (v18 + 1)) := ef_74.trans (nI_add v18 1)
                refine pg_putN (D := D) (ci := 12) (v := .int (nI (v18 + 1))) (ty := .int) (C := RX12) (T := TX12) (N := 51) hx hb hg inG12 tyX12 tyX12_ok nmX12 hown hK hP hD hS hb_15.1 hM_71 rfl 12 (by decide) (hN.use (Cond.fieldLinkNest RX13 233 RX12 "years" "I" RX13) 21 rfl rfl) (fun _ h9 => h9) rfl (by decide +kernel) rfl rfl (by rw [hn16]; decide) dX13_end_120 (fun H_75 locs hP hD hS => ?_)
                have hs_78 : (fs16.set 12 (.int (nI (v18 + 1))))[12]? = some (.int (nI (v18 + 1))) := List.getElem?_set_self (by rw [hn16]; decide)
                have hk_77 := fld12_set (k := 12) (w := .int (nI (v18 + 1))) hl16 (show fld12 K L 12 (fs16.set 12 (.int (nI (v18 + 1)))) from ⟨(v18 + 1), hs_78, by omega⟩)
                have hn_79 : (fs16.set 12 (.int (nI (v18 + 1)))).length = 51 := by rw [List.length_set]; exact hn16
                have hv_80 : (fs16.set 12 (.int (nI (v18 + 1))))[0]? = some (.int (nI v17)) := by rw [List.getElem?_set_ne (by decide)]; exact hv17
                have hv_81 : (fs16.set 12 (.int (nI (v18 + 1))))[13]? = some (.int (nI v19)) := by rw [List.getElem?_set_ne (by decide)]; exact hv19
                have hv_82 : (fs16.set 12 (.int (nI (v18 + 1))))[37]? = some (.ref v20) := by rw [List.getElem?_set_ne (by decide)]; exact hv20
                have hb_83 : (v18 + 1) ≤ 12 := by omega
                obtain ⟨M_84, eM_84⟩ : ∃ M1 : Hp, M1 = va_up M_68 b13 (.inr (12, fs16.set 12 (.int (nI (v18 + 1))))) := ⟨_, rfl⟩
                have hx12 : (fx M b13 12) = ((v18 : Nat) : Int) := (congrFun hV.2.1 12).symm.trans ((fx_of hM_71 rfl hv18).trans (nI_toInt (by omega)))
                have hV : VW K L M M_84 b13 (va_up (fx M b13) 12 (((v18 + 1) : Nat) : Int)) (va_up (ax M b13) 37 (upd (ax M b13 37) ((nI v18) : Int32).toNatClampNeg (nI j_65))) := by rw [eM_84]; exact hV.put hW hb_15 hM_71 hn16 rfl (by decide) rfl (nI_toInt (by omega))
                have hP : va_P D vwCl ([(za, (b13_0 0 z1 (nI z2) (nI z3) z4 z5 z6 z7 z8 z9 (nI z10) z11 z12 z13 z14 z15 (nI z16) z17 z18 z19))] ++ va_pl L M_84) H_75 := by rw [eM_84]; exact hP
                have hD : va_D A ([(za, (b13_0 0 z1 (nI z2) (nI z3) z4 z5 z6 z7 z8 z9 (nI z10) z11 z12 z13 z14 z15 (nI z16) z17 z18 z19))] ++ va_pl L M_84) := by rw [eM_84]; exact hD
                have hW : WOM cy K L M_84 := by rw [eM_84]; exact hW.up_12 hb_15 ⟨_, rfl, hn_79, hk_77⟩
                have hF : fr K L [12, 38] M M_84 := by rw [eM_84]; exact hF.up hb_15 (by decide)
                have hG : fG K L [12] M M_84 := by rw [eM_84]; exact hG.up hM_71 (by decide)
                have hM_85 : M_84 b13 = .inr (12, fs16.set 12 (.int (nI (v18 + 1)))) := by rw [eM_84]; exact va_up_self _ _ _
                have hM_86 : M_84 v20 = .inl (cy 14, 12, .inl (f_72)) := by rw [eM_84, va_up_ne _ _ (hc20.neT hb_15 (by decide))]; exact hM_69
                have hM_87 : M_84 z1 = .inl (cy 23, 8, .inr (.inr (.inr (.inr (f11))))) := by rw [eM_84, va_up_ne _ _ (i1.neT hb_15 (by decide))]; exact hM_70
                refine lv_aload_n hx hb dX13_end_123 rfl (lv_at hl 2 rfl) ?_
                refine lv_aload_n hx hb dX13_end_124 rfl (lv_at hl 1 rfl) ?_
                refine pg_getN (D := D) (ci := 12) (v := .int (nI (v18 + 1))) (C := RX12) (T := TX12) (N := 51) hx hb hg inG12 hown hK hP hb_15.1 hM_85 rfl 12 (by decide) (hN.use (Cond.fieldLinkNest RX13 233 RX12 "years" "I" RX13) 21 rfl rfl) (fun _ h9 => h9) hs_78 dX13_end_125 ?_
                have hPc := hP.sub (ws' := [(za, (b13_0 0 z1 (nI z2) (nI z3) z4 z5 z6 z7 z8 z9 (nI z10) z11 z12 z13 z14 z15 (nI z16) z17 z18 z19))]) [0] rfl
                have hDc := hD.sub (ws' := [(za, (b13_0 0 z1 (nI z2) (nI z3) z4 z5 z6 z7 z8 z9 (nI z10) z11 z12 z13 z14 z15 (nI z16) z17 z18 z19))]) [0] (by decide) rfl
                have hKc := hK.sub (tys' := []) [] rfl
                have hFc := va_free (wc := [(za, (b13_0 0 z1 (nI z2) (nI z3) z4 z5 z6 z7 z8 z9 (nI z10) z11 z12 z13 z14 z15 (nI z16) z17 z18 z19))]) hD hS hA [0] rfl
                refine va_calli (va_runV (As := [.int (nI (v18 + 1))]) (rest := []) ⟨hx, hb, hml, hown, hg⟩ (m_done l D H_75.size za 0 z1 (nI z2) (nI z3) z4 z5 z6 z7 z8 z9 (nI z10) z11 z12 z13 z14 z15 (nI z16) z17 z18 z19 (nI (v18 + 1))) (cwV 1 hg (gV wd_730 wd_731 wd_732 wd_717 wd_733) rfl rfl rfl (by decide +kernel) ⟨(Nat.le_trans (Nat.le_of_ble_eq_true rfl) hRf), (Nat.le_trans (Nat.le_of_ble_eq_true rfl) hRl)⟩) ⟨Pr.blind, va_recv hK hP (ci := 13) (q0 := 0) rfl rfl, fun U hU hW => ⟨rfl, Pr.at hPc hKc hDc hN hU hW⟩⟩ rfl rfl hl.1 rfl (lv_room (Nat.le_of_ble_eq_true rfl)) dX13_end_128 ⟨(Nat.le_trans (Nat.le_of_ble_eq_true rfl) hRc), (Nat.le_trans (Nat.le_of_ble_eq_true rfl) hRs)⟩) hS (fun q _ h => hFc q h) hFc (fun r_89 M_90 t H_88 locs ht hvm hw hB hz1 hk1 hS => ?_)
                have hp_91 := hw
                obtain ⟨hP1, hK1, hD1⟩ := hB
                rw [ht] at hP1
                obtain ⟨hP, hD⟩ := va_joinQ (X := [(za, (b13_0 0 z1 (nI z2) (nI z3) z4 z5 z6 z7 z8 z9 (nI z10) z11 z12 z13 z14 z15 (nI z16) z17 z18 z19))]) (cx := [(za, (b13_0 0 z1 (nI z2) (nI z3) z4 z5 z6 z7 z8 z9 (nI z10) z11 z12 z13 z14 z15 (nI z16) z17 z18 z19))]) (wr := []) (w1 := [(za, (b13_0 0 z1 (nI z2) (nI z3) 0 (-1) z6 z7 z8 z9 (nI z10) z11 z12 z13 z14 z15 (nI z16) z17 z18 z19))]) (pl := va_pl L M_84) hP hD [0] [] rfl rfl (by decide) (by decide) hk1 hFc hP1 hD1
                have hP : va_P D vwCl ([(za, (b13_0 0 z1 (nI z2) (nI z3) 0 (-1) z6 z7 z8 z9 (nI z10) z11 z12 z13 z14 z15 (nI z16) z17 z18 z19))] ++ va_pl L M_84) H_88 := hP
                have hD : va_D A ([(za, (b13_0 0 z1 (nI z2) (nI z3) 0 (-1) z6 z7 z8 z9 (nI z10) z11 z12 z13 z14 z15 (nI z16) z17 z18 z19))] ++ va_pl L M_84) := hD
                have hq := Eq.symm hp_91
                subst hq
                have hI_92 : (0 : Int) ≤ (k1 : Int32).toInt := inltI rfl rfl c_7
                have hI_93 : (k1 : Int32).toInt < ((z2 : Nat) : Int) := inleI (nI_toInt (by omega)) rfl c_8
                have hI_94 : ((v18 : Nat) : Int) ≠ (0 : Int) := ineI (nI_toInt (by omega)) rfl c_22
                have hI_95 : (0 : Int) ≤ ((j_65 : Nat) : Int) := inltI (nI_toInt (by omega)) rfl c_31
                have hI_96 : ((j_65 : Nat) : Int) < (1000 : Int) := inleI rfl (nI_toInt (by omega)) c_40
                have hI_97 : (((c_27 + 1) : Nat) : Int) ≤ ((j_65 : Nat) : Int) := inltI (nI_toInt (by omega)) (nI_toInt (by omega)) c_50
                have hI_98 : ((j_65 : Nat) : Int) ≤ ((((c_27 + 1) + 99) : Nat) : Int) := ileI (nI_toInt (by omega)) (nI_toInt (by omega)) c_62
                have hI_99 : ((v18 : Nat) : Int) ≠ (12 : Int) := ineI (nI_toInt (by omega)) rfl c_63
                have hn92 : ((nI j_65) : Int32).toInt = ((j_65 : Nat) : Int) := nI_toInt (by omega)
                have hyes : okEd z2 SX SY k1 (nI j_65) := by unfold okEd okH; refine ⟨⟨?_, ?_⟩, ?_, ?_, ?_, ?_, ?_⟩ <;> first | omega | assumption
                have hA9 : HA (ax M b13 2) (ax M b13 3) := hAT.1
                have hB9 : HB (fx M b13 16) (fx M b13 14) (ax M b13 3) (ax M b13 43) := hAT.2.1
                have hC9 : HC (fx M b13 10) (ax M b13 22) (ax M b13 23) := hAT.2.2.1
                have hD9 : HD (fx M b13 0) (fx M b13 11) (fx M b13 15) (ax M b13 34) (ax M b13 41) := hAT.2.2.2.1
                have hE9 : HE (fx M b13 0) (fx M b13 1) (((v18 + 1) : Nat) : Int) (fx M b13 13) (upd (ax M b13 37) ((nI v18) : Int32).toNatClampNeg (nI j_65)) := HE.fin hAT.2.2.2.2 hx12 (by omega) (nI_cl (by omega)) (by rw [hx13]; omega) (by have h := geI c_50 (by omega); omega) (by have h := leI2 c_62 (by omega); omega)
                have hH9 : HI (va_up (fx M b13) 12 (((v18 + 1) : Nat) : Int)) (va_up (ax M b13) 37 (upd (ax M b13 37) ((nI v18) : Int32).toNatClampNeg (nI j_65))) := ⟨hA9, hB9, hC9, hD9, hE9⟩
                have hGI9 : GI K L z1 z2 M_84 := GI.fin hW0 i1 b2 hGI hact hV (hF.at i1 (by decide)) hH9
                rw [hQ]
                exact W.iret (v := (nI (v18 + 1))) hx hb hr (fun t ht hW9 => ⟨⟨(nI (v18 + 1)), M_84, rfl, ⟨hW, hF, hG, ⟨hGI9, (by unfold sxEd syEd; rw [if_pos hyes, if_pos hyes]; have hQ9 := ZSx.fin hW0 i1 b2 hZS hGI.1 hkn hb9 hV (hF.at i1 (by decide)) ((by rw [hZk.1, show ((v18 + 1 : Nat) : Int) = SX (k1 : Int32).toNatClampNeg 12 + 1 by omega])) ((by rw [hZk.2, nI_cl (t := v18) (by omega), show v18 = (SX (k1 : Int32).toNatClampNeg 12).toNat by omega])); exact hQ9)⟩, (by unfold anEd; rw [if_pos hyes]; exact congrArg nI (by omega))⟩, ⟨0, by rw [ht]; exact hP, hD⟩⟩, hS.F ht⟩) hS.2.2 dX13_end_131
              · have hz := rfl (a := 0)
                have n_100 : v18 = 12 := (iEQ (a := v18) (b := 12) (by omega) (by omega)).mp c_63
                refine lv_aload_n hx hb dX13_end_96 rfl (lv_at hl 2 rfl) ?_
                refine lv_bipush (v := 9) hx hb dX13_end_97 (by decide) ?_
                have hPc := hP.sub (ws' := [(za, (b13_0 0 z1 (nI z2) (nI z3) z4 z5 z6 z7 z8 z9 (nI z10) z11 z12 z13 z14 z15 (nI z16) z17 z18 z19))]) [0] rfl
                have hDc := hD.sub (ws' := [(za, (b13_0 0 z1 (nI z2) (nI z3) z4 z5 z6 z7 z8 z9 (nI z10) z11 z12 z13 z14 z15 (nI z16) z17 z18 z19))]) [0] (by decide) rfl
                have hKc := hK.sub (tys' := []) [] rfl
                have hFc := va_free (wc := [(za, (b13_0 0 z1 (nI z2) (nI z3) z4 z5 z6 z7 z8 z9 (nI z10) z11 z12 z13 z14 z15 (nI z16) z17 z18 z19))]) hD hS hA [0] rfl
                refine va_calli (va_runV (As := [.int 9]) (rest := []) ⟨hx, hb, hml, hown, hg⟩ (m_refused l D H_2.size za 0 z1 (nI z2) (nI z3) z4 z5 z6 z7 z8 z9 (nI z10) z11 z12 z13 z14 z15 (nI z16) z17 z18 z19 9) (cwV 1 hg (gV wd_725 wd_726 wd_727 wd_717 wd_728) rfl rfl rfl (by decide +kernel) ⟨(Nat.le_trans (Nat.le_of_ble_eq_true rfl) hRf), (Nat.le_trans (Nat.le_of_ble_eq_true rfl) hRl)⟩) ⟨Pr.blind, va_recv hK hP (ci := 13) (q0 := 0) rfl rfl, fun U hU hW => ⟨rfl, Pr.at hPc hKc hDc hN hU hW⟩⟩ rfl rfl hl.1 rfl (lv_room (Nat.le_of_ble_eq_true rfl)) dX13_end_99 ⟨(Nat.le_trans (Nat.le_of_ble_eq_true rfl) hRc), (Nat.le_trans (Nat.le_of_ble_eq_true rfl) hRs)⟩) hS (fun q _ h => hFc q h) hFc (fun r_102 M_103 t H_101 locs ht hvm hw hB hz1 hk1 hS => ?_)
                have hp_104 := hw
                obtain ⟨hP1, hK1, hD1⟩ := hB
                rw [ht] at hP1
                obtain ⟨hP, hD⟩ := va_joinQ (X := [(za, (b13_0 0 z1 (nI z2) (nI z3) z4 z5 z6 z7 z8 z9 (nI z10) z11 z12 z13 z14 z15 (nI z16) z17 z18 z19))]) (cx := [(za, (b13_0 0 z1 (nI z2) (nI z3) z4 z5 z6 z7 z8 z9 (nI z10) z11 z12 z13 z14 z15 (nI z16) z17 z18 z19))]) (wr := []) (w1 := [(za, (b13_0 0 z1 (nI z2) (nI z3) 9 (-1) z6 z7 z8 z9 (nI z10) z11 z12 z13 z14 z15 (nI z16) z17 z18 z19))]) (pl := va_pl L M) hP hD [0] [] rfl rfl (by decide) (by decide) hk1 hFc hP1 hD1
                have hP : va_P D vwCl ([(za, (b13_0 0 z1 (nI z2) (nI z3) 9 (-1) z6 z7 z8 z9 (nI z10) z11 z12 z13 z14 z15 (nI z16) z17 z18 z19))] ++ va_pl L M) H_101 := hP
                have hD : va_D A ([(za, (b13_0 0 z1 (nI z2) (nI z3) 9 (-1) z6 z7 z8 z9 (nI z10) z11 z12 z13 z14 z15 (nI z16) z17 z18 z19))] ++ va_pl L M) := hD
                have hq := Eq.symm hp_104
                subst hq
                have hI_105 : (0 : Int) ≤ (k1 : Int32).toInt := inltI rfl rfl c_7
                have hI_106 : (k1 : Int32).toInt < ((z2 : Nat) : Int) := inleI (nI_toInt (by omega)) rfl c_8
                have hI_107 : ((v18 : Nat) : Int) ≠ (0 : Int) := ineI (nI_toInt (by omega)) rfl c_22
                have hI_108 : (0 : Int) ≤ (k2 : Int32).toInt := inltI rfl rfl c_31
                have hI_109 : (k2 : Int32).toInt < (1000 : Int) := inleI rfl rfl c_40
                have hI_110 : (((c_27 + 1) : Nat) : Int) ≤ (k2 : Int32).toInt := inltI rfl (nI_toInt (by omega)) c_50
                have hI_111 : (k2 : Int32).toInt ≤ ((((c_27 + 1) + 99) : Nat) : Int) := ileI rfl (nI_toInt (by omega)) c_62
                have hI_112 : ((v18 : Nat) : Int) = (12 : Int) := ieqI (nI_toInt (by omega)) rfl c_63
                have hno : ¬ okEd z2 SX SY k1 k2 := fun q9 => by unfold okEd okH at q9; first | omega | (obtain ⟨⟨_, _⟩, _, _, _, _, _⟩ := q9; first | omega | contradiction)
                rw [hQ]
                exact W.iret (v := (-1)) hx hb hr (fun t ht hW9 => ⟨⟨(-1), M, rfl, ⟨hW, hF, hG, ⟨hGI, (by unfold sxEd syEd; rw [if_neg hno, if_neg hno]; exact hZS)⟩, (by unfold anEd; rw [if_neg hno])⟩, ⟨9, by rw [ht]; exact hP, hD⟩⟩, hS.F ht⟩) hS.2.2 dX13_end_102
            · have hz := rfl (a := 0)
              have n_113 : ¬ k2 < 0 := gtN (c := ((c_27 + 1) + 99)) (by omega) (Int32.not_le.mp c_62)
              refine lv_aload_n hx hb dX13_end_81 rfl (lv_at hl 2 rfl) ?_
              refine lv_iconst (v := 3) hx hb dX13_end_82 (by decide) ?_
              have hPc := hP.sub (ws' := [(za, (b13_0 0 z1 (nI z2) (nI z3) z4 z5 z6 z7 z8 z9 (nI z10) z11 z12 z13 z14 z15 (nI z16) z17 z18 z19))]) [0] rfl
              have hDc := hD.sub (ws' := [(za, (b13_0 0 z1 (nI z2) (nI z3) z4 z5 z6 z7 z8 z9 (nI z10) z11 z12 z13 z14 z15 (nI z16) z17 z18 z19))]) [0] (by decide) rfl
              have hKc := hK.sub (tys' := []) [] rfl
              have hFc := va_free (wc := [(za, (b13_0 0 z1 (nI z2) (nI z3) z4 z5 z6 z7 z8 z9 (nI z10) z11 z12 z13 z14 z15 (nI z16) z17 z18 z19))]) hD hS hA [0] rfl
              refine va_calli (va_runV (As := [.int 3]) (rest := []) ⟨hx, hb, hml, hown, hg⟩ (m_refused l D H_2.size za 0 z1 (nI z2) (nI z3) z4 z5 z6 z7 z8 z9 (nI z10) z11 z12 z13 z14 z15 (nI z16) z17 z18 z19 3) (cwV 1 hg (gV wd_725 wd_726 wd_727 wd_717 wd_728) rfl rfl rfl (by decide +kernel) ⟨(Nat.le_trans (Nat.le_of_ble_eq_true rfl) hRf), (Nat.le_trans (Nat.le_of_ble_eq_true rfl) hRl)⟩) ⟨Pr.blind, va_recv hK hP (ci := 13) (q0 := 0) rfl rfl, fun U hU hW => ⟨rfl, Pr.at hPc hKc hDc hN hU hW⟩⟩ rfl rfl hl.1 rfl (lv_room (Nat.le_of_ble_eq_true rfl)) dX13_end_83 ⟨(Nat.le_trans (Nat.le_of_ble_eq_true rfl) hRc), (Nat.le_trans (Nat.le_of_ble_eq_true rfl) hRs)⟩) hS (fun q _ h => hFc q h) hFc (fun r_115 M_116 t H_114 locs ht hvm hw hB hz1 hk1 hS => ?_)
              have hp_117 := hw
              obtain ⟨hP1, hK1, hD1⟩ := hB
              rw [ht] at hP1
              obtain ⟨hP, hD⟩ := va_joinQ (X := [(za, (b13_0 0 z1 (nI z2) (nI z3) z4 z5 z6 z7 z8 z9 (nI z10) z11 z12 z13 z14 z15 (nI z16) z17 z18 z19))]) (cx := [(za, (b13_0 0 z1 (nI z2) (nI z3) z4 z5 z6 z7 z8 z9 (nI z10) z11 z12 z13 z14 z15 (nI z16) z17 z18 z19))]) (wr := []) (w1 := [(za, (b13_0 0 z1 (nI z2) (nI z3) 3 (-1) z6 z7 z8 z9 (nI z10) z11 z12 z13 z14 z15 (nI z16) z17 z18 z19))]) (pl := va_pl L M) hP hD [0] [] rfl rfl (by decide) (by decide) hk1 hFc hP1 hD1
              have hP : va_P D vwCl ([(za, (b13_0 0 z1 (nI z2) (nI z3) 3 (-1) z6 z7 z8 z9 (nI z10) z11 z12 z13 z14 z15 (nI z16) z17 z18 z19))] ++ va_pl L M) H_114 := hP
              have hD : va_D A ([(za, (b13_0 0 z1 (nI z2) (nI z3) 3 (-1) z6 z7 z8 z9 (nI z10) z11 z12 z13 z14 z15 (nI z16) z17 z18 z19))] ++ va_pl L M) := hD
              have hq := Eq.symm hp_117
              subst hq
              have hI_118 : (0 : Int) ≤ (k1 : Int32).toInt := inltI rfl rfl c_7
              have hI_119 : (k1 : Int32).toInt < ((z2 : Nat) : Int) := inleI (nI_toInt (by omega)) rfl c_8
              have hI_120 : ((v18 : Nat) : Int) ≠ (0 : Int) := ineI (nI_toInt (by omega)) rfl c_22
              have hI_121 : (0 : Int) ≤ (k2 : Int32).toInt := inltI rfl rfl c_31
              have hI_122 : (k2 : Int32).toInt < (1000 : Int) := inleI rfl rfl c_40
              have hI_123 : (((c_27 + 1) : Nat) : Int) ≤ (k2 : Int32).toInt := inltI rfl (nI_toInt (by omega)) c_50
              have hI_124 : ((((c_27 + 1) + 99) : Nat) : Int) < (k2 : Int32).toInt := inleI rfl (nI_toInt (by omega)) c_62
              have hI_125 : (0 : Int) ≤ (k2 : Int32).toInt := inltI rfl rfl n_113
              have hno : ¬ okEd z2 SX SY k1 k2 := fun q9 => by unfold okEd okH at q9; first | omega | (obtain ⟨⟨_, _⟩, _, _, _, _, _⟩ := q9; first | omega | contradiction)
              rw [hQ]
              exact W.iret (v := (-1)) hx hb hr (fun t ht hW9 => ⟨⟨(-1), M, rfl, ⟨hW, hF, hG, ⟨hGI, (by unfold sxEd syEd; rw [if_neg hno, if_neg hno]; exact hZS)⟩, (by unfold anEd; rw [if_neg hno])⟩, ⟨3, by rw [ht]; exact hP, hD⟩⟩, hS.F ht⟩) hS.2.2 dX13_end_86
    · have hz := rfl (a := 0)
      have n_126 : v18 = 0 := (iEQ (a := v18) (b := 0) (by omega) (by omega)).mp c_22
      refine lv_aload_n hx hb dX13_end_33 rfl (lv_at hl 0 rfl) ?_
      refine pg_getN (D := D) (ci := 12) (v := .int (nI v17)) (C := RX12) (T := TX12) (N := 51) hx hb hg inG12 hown hK hP hb_15.1 hM16 rfl 0 (by decide) (hN.use (Cond.fieldLinkNest RX13 77 RX12 "first" "I" RX13) 9 rfl rfl) (fun _ h9 => h9) hv17 dX13_end_34 ?_
      have hpv : pv (fx M b13 0) (ax M b13 37) v18 = ((v17 : Nat) : Int) - 1 := by rw [pv_0 (by omega), hx0]
      refine lv_goto (tgt := 53) hx hb dX13_end_37 (by decide) ?_
      refine lv_istore (lv' := [(4, .int (nI v17)), (3, .ref b13), (0, .ref za), (1, .int k1), (2, .int k2)]) hx hb dX13_end_53 hl (by decide) rfl (fun ls hl => ?_)
      have hfr : ((v17 : Nat) : Int) = frS (SX (k1 : Int32).toNatClampNeg) (SY (k1 : Int32).toNatClampNeg) := by unfold frS; rw [if_pos (by omega)]; omega
      refine lv_iload_n hx hb dX13_end_55 rfl (lv_at hl 4 rfl) ?_
      refine lv_if_lt (tgt := 81) hx hb dX13_end_56 (by decide) (fun c_127 => ?_) (fun c_127 => ?_)
      · have hz := rfl (a := 0)
        refine lv_aload_n hx hb dX13_end_81 rfl (lv_at hl 2 rfl) ?_
        refine lv_iconst (v := 3) hx hb dX13_end_82 (by decide) ?_
        have hPc := hP.sub (ws' := [(za, (b13_0 0 z1 (nI z2) (nI z3) z4 z5 z6 z7 z8 z9 (nI z10) z11 z12 z13 z14 z15 (nI z16) z17 z18 z19))]) [0] rfl
        have hDc := hD.sub (ws' := [(za, (b13_0 0 z1 (nI z2) (nI z3) z4 z5 z6 z7 z8 z9 (nI z10) z11 z12 z13 z14 z15 (nI z16) z17 z18 z19))]) [0] (by decide) rfl
        have hKc := hK.sub (tys' := []) [] rfl
        have hFc := va_free (wc := [(za, (b13_0 0 z1 (nI z2) (nI z3) z4 z5 z6 z7 z8 z9 (nI z10) z11 z12 z13 z14 z15 (nI z16) z17 z18 z19))]) hD hS hA [0] rfl
        refine va_calli (va_runV (As := [.int 3]) (rest := []) ⟨hx, hb, hml, hown, hg⟩ (m_refused l D H_2.size za 0 z1 (nI z2) (nI z3) z4 z5 z6 z7 z8 z9 (nI z10) z11 z12 z13 z14 z15 (nI z16) z17 z18 z19 3) (cwV 1 hg (gV wd_725 wd_726 wd_727 wd_717 wd_728) rfl rfl rfl (by decide +kernel) ⟨(Nat.le_trans (Nat.le_of_ble_eq_true rfl) hRf), (Nat.le_trans (Nat.le_of_ble_eq_true rfl) hRl)⟩) ⟨Pr.blind, va_recv hK hP (ci := 13) (q0 := 0) rfl rfl, fun U hU hW => ⟨rfl, Pr.at hPc hKc hDc hN hU hW⟩⟩ rfl rfl hl.1 rfl (lv_room (Nat.le_of_ble_eq_true rfl)) dX13_end_83 ⟨(Nat.le_trans (Nat.le_of_ble_eq_true rfl) hRc), (Nat.le_trans (Nat.le_of_ble_eq_true rfl) hRs)⟩) hS (fun q _ h => hFc q h) hFc (fun r_129 M_130 t H_128 locs ht hvm hw hB hz1 hk1 hS => ?_)
        have hp_131 := hw
        obtain ⟨hP1, hK1, hD1⟩ := hB
        rw [ht] at hP1
        obtain ⟨hP, hD⟩ := va_joinQ (X := [(za, (b13_0 0 z1 (nI z2) (nI z3) z4 z5 z6 z7 z8 z9 (nI z10) z11 z12 z13 z14 z15 (nI z16) z17 z18 z19))]) (cx := [(za, (b13_0 0 z1 (nI z2) (nI z3) z4 z5 z6 z7 z8 z9 (nI z10) z11 z12 z13 z14 z15 (nI z16) z17 z18 z19))]) (wr := []) (w1 := [(za, (b13_0 0 z1 (nI z2) (nI z3) 3 (-1) z6 z7 z8 z9 (nI z10) z11 z12 z13 z14 z15 (nI z16) z17 z18 z19))]) (pl := va_pl L M) hP hD [0] [] rfl rfl (by decide) (by decide) hk1 hFc hP1 hD1
        have hP : va_P D vwCl ([(za, (b13_0 0 z1 (nI z2) (nI z3) 3 (-1) z6 z7 z8 z9 (nI z10) z11 z12 z13 z14 z15 (nI z16) z17 z18 z19))] ++ va_pl L M) H_128 := hP
        have hD : va_D A ([(za, (b13_0 0 z1 (nI z2) (nI z3) 3 (-1) z6 z7 z8 z9 (nI z10) z11 z12 z13 z14 z15 (nI z16) z17 z18 z19))] ++ va_pl L M) := hD
        have hq := Eq.symm hp_131
        subst hq
        have hI_132 : (0 : Int) ≤ (k1 : Int32).toInt := inltI rfl rfl c_7
        have hI_133 : (k1 : Int32).toInt < ((z2 : Nat) : Int) := inleI (nI_toInt (by omega)) rfl c_8
        have hI_134 : ((v18 : Nat) : Int) = (0 : Int) := ieqI (nI_toInt (by omega)) rfl c_22
        have hI_135 : (k2 : Int32).toInt < (0 : Int) := iltI rfl rfl c_127
        have hno : ¬ okEd z2 SX SY k1 k2 := fun q9 => by unfold okEd okH at q9; first | omega | (obtain ⟨⟨_, _⟩, _, _, _, _, _⟩ := q9; first | omega | contradiction)
        rw [hQ]
        exact W.iret (v := (-1)) hx hb hr (fun t ht hW9 => ⟨⟨(-1), M, rfl, ⟨hW, hF, hG, ⟨hGI, (by unfold sxEd syEd; rw [if_neg hno, if_neg hno]; exact hZS)⟩, (by unfold anEd; rw [if_neg hno])⟩, ⟨3, by rw [ht]; exact hP, hD⟩⟩, hS.F ht⟩) hS.2.2 dX13_end_86
      · have hz := rfl (a := 0)
        refine lv_iload_n hx hb dX13_end_59 rfl (lv_at hl 4 rfl) ?_
        refine lv_sipush (v := 1000) hx hb dX13_end_60 (by decide) ?_
        refine lv_icmp_ge (tgt := 81) hx hb dX13_end_63 (by decide) (fun c_136 => ?_) (fun c_136 => ?_)
        · have hz := rfl (a := 0)
          refine lv_aload_n hx hb dX13_end_81 rfl (lv_at hl 2 rfl) ?_
          refine lv_iconst (v := 3) hx hb dX13_end_82 (by decide) ?_
          have hPc := hP.sub (ws' := [(za, (b13_0 0 z1 (nI z2) (nI z3) z4 z5 z6 z7 z8 z9 (nI z10) z11 z12 z13 z14 z15 (nI z16) z17 z18 z19))]) [0] rfl
          have hDc := hD.sub (ws' := [(za, (b13_0 0 z1 (nI z2) (nI z3) z4 z5 z6 z7 z8 z9 (nI z10) z11 z12 z13 z14 z15 (nI z16) z17 z18 z19))]) [0] (by decide) rfl
          have hKc := hK.sub (tys' := []) [] rfl
          have hFc := va_free (wc := [(za, (b13_0 0 z1 (nI z2) (nI z3) z4 z5 z6 z7 z8 z9 (nI z10) z11 z12 z13 z14 z15 (nI z16) z17 z18 z19))]) hD hS hA [0] rfl
          refine va_calli (va_runV (As := [.int 3]) (rest := []) ⟨hx, hb, hml, hown, hg⟩ (m_refused l D H_2.size za 0 z1 (nI z2) (nI z3) z4 z5 z6 z7 z8 z9 (nI z10) z11 z12 z13 z14 z15 (nI z16) z17 z18 z19 3) (cwV 1 hg (gV wd_725 wd_726 wd_727 wd_717 wd_728) rfl rfl rfl (by decide +kernel) ⟨(Nat.le_trans (Nat.le_of_ble_eq_true rfl) hRf), (Nat.le_trans (Nat.le_of_ble_eq_true rfl) hRl)⟩) ⟨Pr.blind, va_recv hK hP (ci := 13) (q0 := 0) rfl rfl, fun U hU hW => ⟨rfl, Pr.at hPc hKc hDc hN hU hW⟩⟩ rfl rfl hl.1 rfl (lv_room (Nat.le_of_ble_eq_true rfl)) dX13_end_83 ⟨(Nat.le_trans (Nat.le_of_ble_eq_true rfl) hRc), (Nat.le_trans (Nat.le_of_ble_eq_true rfl) hRs)⟩) hS (fun q _ h => hFc q h) hFc (fun r_138 M_139 t H_137 locs ht hvm hw hB hz1 hk1 hS => ?_)
          have hp_140 := hw
          obtain ⟨hP1, hK1, hD1⟩ := hB
          rw [ht] at hP1
          obtain ⟨hP, hD⟩ := va_joinQ (X := [(za, (b13_0 0 z1 (nI z2) (nI z3) z4 z5 z6 z7 z8 z9 (nI z10) z11 z12 z13 z14 z15 (nI z16) z17 z18 z19))]) (cx := [(za, (b13_0 0 z1 (nI z2) (nI z3) z4 z5 z6 z7 z8 z9 (nI z10) z11 z12 z13 z14 z15 (nI z16) z17 z18 z19))]) (wr := []) (w1 := [(za, (b13_0 0 z1 (nI z2) (nI z3) 3 (-1) z6 z7 z8 z9 (nI z10) z11 z12 z13 z14 z15 (nI z16) z17 z18 z19))]) (pl := va_pl L M) hP hD [0] [] rfl rfl (by decide) (by decide) hk1 hFc hP1 hD1
          have hP : va_P D vwCl ([(za, (b13_0 0 z1 (nI z2) (nI z3) 3 (-1) z6 z7 z8 z9 (nI z10) z11 z12 z13 z14 z15 (nI z16) z17 z18 z19))] ++ va_pl L M) H_137 := hP
          have hD : va_D A ([(za, (b13_0 0 z1 (nI z2) (nI z3) 3 (-1) z6 z7 z8 z9 (nI z10) z11 z12 z13 z14 z15 (nI z16) z17 z18 z19))] ++ va_pl L M) := hD
          have hq := Eq.symm hp_140
          subst hq
          have hI_141 : (0 : Int) ≤ (k1 : Int32).toInt := inltI rfl rfl c_7
          have hI_142 : (k1 : Int32).toInt < ((z2 : Nat) : Int) := inleI (nI_toInt (by omega)) rfl c_8
          have hI_143 : ((v18 : Nat) : Int) = (0 : Int) := ieqI (nI_toInt (by omega)) rfl c_22
          have hI_144 : (0 : Int) ≤ (k2 : Int32).toInt := inltI rfl rfl c_127
          have hI_145 : (1000 : Int) ≤ (k2 : Int32).toInt := ileI rfl rfl c_136
          have hno : ¬ okEd z2 SX SY k1 k2 := fun q9 => by unfold okEd okH at q9; first | omega | (obtain ⟨⟨_, _⟩, _, _, _, _, _⟩ := q9; first | omega | contradiction)
          rw [hQ]
          exact W.iret (v := (-1)) hx hb hr (fun t ht hW9 => ⟨⟨(-1), M, rfl, ⟨hW, hF, hG, ⟨hGI, (by unfold sxEd syEd; rw [if_neg hno, if_neg hno]; exact hZS)⟩, (by unfold anEd; rw [if_neg hno])⟩, ⟨3, by rw [ht]; exact hP, hD⟩⟩, hS.F ht⟩) hS.2.2 dX13_end_86
        · have hz := rfl (a := 0)
          refine lv_iload_n hx hb dX13_end_66 rfl (lv_at hl 4 rfl) ?_
          refine lv_iload hx hb dX13_end_67 (lv_at hl 0 rfl) ?_
          refine lv_icmp_lt (tgt := 81) hx hb dX13_end_69 (by decide) (fun c_146 => ?_) (fun c_146 => ?_)
          · have hz := rfl (a := 0)
            have n_147 : ¬ 999 ≤ k2 := ltB (b := 999) (by decide) hc17 c_146
            refine lv_aload_n hx hb dX13_end_81 rfl (lv_at hl 2 rfl) ?_
            refine lv_iconst (v := 3) hx hb dX13_end_82 (by decide) ?_
            have hPc := hP.sub (ws' := [(za, (b13_0 0 z1 (nI z2) (nI z3) z4 z5 z6 z7 z8 z9 (nI z10) z11 z12 z13 z14 z15 (nI z16) z17 z18 z19))]) [0] rfl
            have hDc := hD.sub (ws' := [(za, (b13_0 0 z1 (nI z2) (nI z3) z4 z5 z6 z7 z8 z9 (nI z10) z11 z12 z13 z14 z15 (nI z16) z17 z18 z19))]) [0] (by decide) rfl
            have hKc := hK.sub (tys' := []) [] rfl
            have hFc := va_free (wc := [(za, (b13_0 0 z1 (nI z2) (nI z3) z4 z5 z6 z7 z8 z9 (nI z10) z11 z12 z13 z14 z15 (nI z16) z17 z18 z19))]) hD hS hA [0] rfl
            refine va_calli (va_runV (As := [.int 3]) (rest := []) ⟨hx, hb, hml, hown, hg⟩ (m_refused l D H_2.size za 0 z1 (nI z2) (nI z3) z4 z5 z6 z7 z8 z9 (nI z10) z11 z12 z13 z14 z15 (nI z16) z17 z18 z19 3) (cwV 1 hg (gV wd_725 wd_726 wd_727 wd_717 wd_728) rfl rfl rfl (by decide +kernel) ⟨(Nat.le_trans (Nat.le_of_ble_eq_true rfl) hRf), (Nat.le_trans (Nat.le_of_ble_eq_true rfl) hRl)⟩) ⟨Pr.blind, va_recv hK hP (ci := 13) (q0 := 0) rfl rfl, fun U hU hW => ⟨rfl, Pr.at hPc hKc hDc hN hU hW⟩⟩ rfl rfl hl.1 rfl (lv_room (Nat.le_of_ble_eq_true rfl)) dX13_end_83 ⟨(Nat.le_trans (Nat.le_of_ble_eq_true rfl) hRc), (Nat.le_trans (Nat.le_of_ble_eq_true rfl) hRs)⟩) hS (fun q _ h => hFc q h) hFc (fun r_149 M_150 t H_148 locs ht hvm hw hB hz1 hk1 hS => ?_)
            have hp_151 := hw
            obtain ⟨hP1, hK1, hD1⟩ := hB
            rw [ht] at hP1
            obtain ⟨hP, hD⟩ := va_joinQ (X := [(za, (b13_0 0 z1 (nI z2) (nI z3) z4 z5 z6 z7 z8 z9 (nI z10) z11 z12 z13 z14 z15 (nI z16) z17 z18 z19))]) (cx := [(za, (b13_0 0 z1 (nI z2) (nI z3) z4 z5 z6 z7 z8 z9 (nI z10) z11 z12 z13 z14 z15 (nI z16) z17 z18 z19))]) (wr := []) (w1 := [(za, (b13_0 0 z1 (nI z2) (nI z3) 3 (-1) z6 z7 z8 z9 (nI z10) z11 z12 z13 z14 z15 (nI z16) z17 z18 z19))]) (pl := va_pl L M) hP hD [0] [] rfl rfl (by decide) (by decide) hk1 hFc hP1 hD1
            have hP : va_P D vwCl ([(za, (b13_0 0 z1 (nI z2) (nI z3) 3 (-1) z6 z7 z8 z9 (nI z10) z11 z12 z13 z14 z15 (nI z16) z17 z18 z19))] ++ va_pl L M) H_148 := hP
            have hD : va_D A ([(za, (b13_0 0 z1 (nI z2) (nI z3) 3 (-1) z6 z7 z8 z9 (nI z10) z11 z12 z13 z14 z15 (nI z16) z17 z18 z19))] ++ va_pl L M) := hD
            have hq := Eq.symm hp_151
            subst hq
            have hI_152 : (0 : Int) ≤ (k1 : Int32).toInt := inltI rfl rfl c_7
            have hI_153 : (k1 : Int32).toInt < ((z2 : Nat) : Int) := inleI (nI_toInt (by omega)) rfl c_8
            have hI_154 : ((v18 : Nat) : Int) = (0 : Int) := ieqI (nI_toInt (by omega)) rfl c_22
            have hI_155 : (0 : Int) ≤ (k2 : Int32).toInt := inltI rfl rfl c_127
            have hI_156 : (k2 : Int32).toInt < (1000 : Int) := inleI rfl rfl c_136
            have hI_157 : (k2 : Int32).toInt < ((v17 : Nat) : Int) := iltI rfl (nI_toInt (by omega)) c_146
            have hI_158 : (k2 : Int32).toInt < (999 : Int) := inleI rfl rfl n_147
            have hno : ¬ okEd z2 SX SY k1 k2 := fun q9 => by unfold okEd okH at q9; first | omega | (obtain ⟨⟨_, _⟩, _, _, _, _, _⟩ := q9; first | omega | contradiction)
            rw [hQ]
            exact W.iret (v := (-1)) hx hb hr (fun t ht hW9 => ⟨⟨(-1), M, rfl, ⟨hW, hF, hG, ⟨hGI, (by unfold sxEd syEd; rw [if_neg hno, if_neg hno]; exact hZS)⟩, (by unfold anEd; rw [if_neg hno])⟩, ⟨3, by rw [ht]; exact hP, hD⟩⟩, hS.F ht⟩) hS.2.2 dX13_end_86
          · have hz := rfl (a := 0)
            refine lv_iload_n hx hb dX13_end_72 rfl (lv_at hl 4 rfl) ?_
            refine lv_iload hx hb dX13_end_73 (lv_at hl 0 rfl) ?_
            refine lv_bipush (v := 99) hx hb dX13_end_75 (by decide) ?_
            refine lv_iadd hx hb dX13_end_77 ?_
            refine lv_topi (fun f_159 ef_159 => ?_)
            obtain rfl : f_159 = (nI (v17 + 99)) := ef_159.trans (nI_add v17 99)
            refine lv_icmp_le (tgt := 87) hx hb dX13_end_78 (by decide) (fun c_160 => ?_) (fun c_160 => ?_)
            · have hz := rfl (a := 0)
              refine lv_aload_n hx hb dX13_end_87 rfl (lv_at hl 1 rfl) ?_
              refine pg_getN (D := D) (ci := 12) (v := .int (nI v18)) (C := RX12) (T := TX12) (N := 51) hx hb hg inG12 hown hK hP hb_15.1 hM16 rfl 12 (by decide) (hN.use (Cond.fieldLinkNest RX13 233 RX12 "years" "I" RX13) 21 rfl rfl) (fun _ h9 => h9) hv18 dX13_end_88 ?_
              refine lv_bipush (v := 12) hx hb dX13_end_91 (by decide) ?_
              refine lv_icmp_ne (tgt := 103) hx hb dX13_end_93 (by decide) (fun c_161 => ?_) (fun c_161 => absurd c_161 (by rw [c_22]; decide))
              refine lv_aload_n hx hb dX13_end_103 rfl (lv_at hl 1 rfl) ?_
              refine pg_getN (D := D) (ci := 12) (v := .ref v20) (C := RX12) (T := TX12) (N := 51) hx hb hg inG12 hown hK hP hb_15.1 hM16 rfl 37 (by decide) (hN.use (Cond.fieldLinkNest RX13 236 RX12 "end" "[I" RX13) 46 rfl rfl) (fun _ h9 => h9) hv20 dX13_end_104 ?_
              refine lv_aload_n hx hb dX13_end_107 rfl (lv_at hl 1 rfl) ?_
              refine pg_getN (D := D) (ci := 12) (v := .int (nI v18)) (C := RX12) (T := TX12) (N := 51) hx hb hg inG12 hown hK hP hb_15.1 hM16 rfl 12 (by decide) (hN.use (Cond.fieldLinkNest RX13 233 RX12 "years" "I" RX13) 21 rfl rfl) (fun _ h9 => h9) hv18 dX13_end_108 ?_
              refine lv_iload_n hx hb dX13_end_111 rfl (lv_at hl 4 rfl) ?_
              obtain ⟨j_162, hj_163, rfl⟩ := i32nat 1000 (by decide) c_127 c_136
              refine pg_iast hx hb hK hP hD hS hc20.1 0 hM21 rfl (inbN v18 12 (by omega) (by omega)) dX13_end_112 (fun H_164 locs hP hD hS => ?_)
              obtain ⟨M_165, eM_165⟩ : ∃ M1 : Hp, M1 = va_up M v20 (.inl (cy 14, 12, .inl (upd f21 ((nI v18) : Int32).toNatClampNeg (nI j_162)))) := ⟨_, rfl⟩
              have hy37 : (ax M b13 37) = f21 := (congrFun hV.2.2.1 37).symm.trans (ax_of hM16 (by decide) hv20 hM21)
              have hV : VW K L M M_165 b13 (fx M b13) (va_up (ax M b13) 37 (upd (ax M b13 37) ((nI v18) : Int32).toNatClampNeg (nI j_162))) := by rw [eM_165]; exact hV.ast (j := 37) hW hb_15 hM16 (by decide) hv20 hc20 hM21
              have hP : va_P D vwCl ([(za, (b13_0 0 z1 (nI z2) (nI z3) z4 z5 z6 z7 z8 z9 (nI z10) z11 z12 z13 z14 z15 (nI z16) z17 z18 z19))] ++ va_pl L M_165) H_164 := by rw [eM_165]; exact hP
              have hD : va_D A ([(za, (b13_0 0 z1 (nI z2) (nI z3) z4 z5 z6 z7 z8 z9 (nI z10) z11 z12 z13 z14 z15 (nI z16) z17 z18 z19))] ++ va_pl L M_165) := by rw [eM_165]; exact hD
              have hW : WOM cy K L M_165 := by rw [eM_165]; exact hW.up_38 hc20 ⟨_, rfl, (updP (P := fun z => ∃ c : Nat, c < 1000 ∧ z = nI c) hf21 ⟨j_162, by omega, rfl⟩)⟩
              have hF : fr K L [12, 38] M M_165 := by rw [eM_165]; exact hF.up hc20 (by decide)
              have hG : fG K L [12] M M_165 := by rw [eM_165]; exact hG.arr hc20 (by decide)
              have hM_166 : M_165 v20 = .inl (cy 14, 12, .inl (upd f21 ((nI v18) : Int32).toNatClampNeg (nI j_162))) := by rw [eM_165]; exact va_up_self _ _ _
              have hM_167 : M_165 z1 = .inl (cy 23, 8, .inr (.inr (.inr (.inr (f11))))) := by rw [eM_165, va_up_ne _ _ (i1.neT hc20 (by decide))]; exact hM11
              have hM_168 : M_165 b13 = .inr (12, fs16) := by rw [eM_165, va_up_ne _ _ (hb_15.neT hc20 (by decide))]; exact hM16
              have hf_170 : ∀ j, j < 12 → ∃ c : Nat, c < 1000 ∧ (upd f21 ((nI v18) : Int32).toNatClampNeg (nI j_162)) j = nI c := (updP (P := fun z => ∃ c : Nat, c < 1000 ∧ z = nI c) hf21 ⟨j_162, by omega, rfl⟩)
              obtain ⟨f_169, ef_169⟩ : ∃ f : Nat → Int32, f = upd f21 ((nI v18) : Int32).toNatClampNeg (nI j_162) := ⟨_, rfl⟩
              rw [← ef_169] at hM_166 hf_170
              refine lv_aload_n hx hb dX13_end_113 rfl (lv_at hl 1 rfl) ?_
              refine lv_dup hx hb dX13_end_114 rfl ?_
              refine pg_getN (D := D) (ci := 12) (v := .int (nI v18)) (C := RX12) (T := TX12) (N := 51) hx hb hg inG12 hown hK hP hb_15.1 hM_168 rfl 12 (by decide) (hN.use (Cond.fieldLinkNest RX13 233 RX12 "years" "I" RX13) 21 rfl rfl) (fun _ h9 => h9) hv18 dX13_end_115 ?_
              refine lv_iconst (v := 1) hx hb dX13_end_118 (by decide) ?_
              refine lv_iadd hx hb dX13_end_119 ?_
              refine lv_topi (fun f_171 ef_171 => ?_)
              obtain rfl : f_171 = (nI (v18 + 1)) := ef_171.trans (nI_add v18 1)
              refine pg_putN (D := D) (ci := 12) (v := .int (nI (v18 + 1))) (ty := .int) (C := RX12) (T := TX12) (N := 51) hx hb hg inG12 tyX12 tyX12_ok nmX12 hown hK hP hD hS hb_15.1 hM_168 rfl 12 (by decide) (hN.use (Cond.fieldLinkNest RX13 233 RX12 "years" "I" RX13) 21 rfl rfl) (fun _ h9 => h9) rfl (by decide +kernel) rfl rfl (by rw [hn16]; decide) dX13_end_120 (fun H_172 locs hP hD hS => ?_)
              have hs_175 : (fs16.set 12 (.int (nI (v18 + 1))))[12]? = some (.int (nI (v18 + 1))) := List.getElem?_set_self (by rw [hn16]; decide)
              have hk_174 := fld12_set (k := 12) (w := .int (nI (v18 + 1))) hl16 (show fld12 K L 12 (fs16.set 12 (.int (nI (v18 + 1)))) from ⟨(v18 + 1), hs_175, by omega⟩)
              have hn_176 : (fs16.set 12 (.int (nI (v18 + 1)))).length = 51 := by rw [List.length_set]; exact hn16
              have hv_177 : (fs16.set 12 (.int (nI (v18 + 1))))[0]? = some (.int (nI v17)) := by rw [List.getElem?_set_ne (by decide)]; exact hv17
              have hv_178 : (fs16.set 12 (.int (nI (v18 + 1))))[13]? = some (.int (nI v19)) := by rw [List.getElem?_set_ne (by decide)]; exact hv19
              have hv_179 : (fs16.set 12 (.int (nI (v18 + 1))))[37]? = some (.ref v20) := by rw [List.getElem?_set_ne (by decide)]; exact hv20
              have hb_180 : (v18 + 1) ≤ 12 := by omega
              obtain ⟨M_181, eM_181⟩ : ∃ M1 : Hp, M1 = va_up M_165 b13 (.inr (12, fs16.set 12 (.int (nI (v18 + 1))))) := ⟨_, rfl⟩
              have hx12 : (fx M b13 12) = ((v18 : Nat) : Int) := (congrFun hV.2.1 12).symm.trans ((fx_of hM_168 rfl hv18).trans (nI_toInt (by omega)))
              have hV : VW K L M M_181 b13 (va_up (fx M b13) 12 (((v18 + 1) : Nat) : Int)) (va_up (ax M b13) 37 (upd (ax M b13 37) ((nI v18) : Int32).toNatClampNeg (nI j_162))) := by rw [eM_181]; exact hV.put hW hb_15 hM_168 hn16 rfl (by decide) rfl (nI_toInt (by omega))
              have hP : va_P D vwCl ([(za, (b13_0 0 z1 (nI z2) (nI z3) z4 z5 z6 z7 z8 z9 (nI z10) z11 z12 z13 z14 z15 (nI z16) z17 z18 z19))] ++ va_pl L M_181) H_172 := by rw [eM_181]; exact hP
              have hD : va_D A ([(za, (b13_0 0 z1 (nI z2) (nI z3) z4 z5 z6 z7 z8 z9 (nI z10) z11 z12 z13 z14 z15 (nI z16) z17 z18 z19))] ++ va_pl L M_181) := by rw [eM_181]; exact hD
              have hW : WOM cy K L M_181 := by rw [eM_181]; exact hW.up_12 hb_15 ⟨_, rfl, hn_176, hk_174⟩
              have hF : fr K L [12, 38] M M_181 := by rw [eM_181]; exact hF.up hb_15 (by decide)
              have hG : fG K L [12] M M_181 := by rw [eM_181]; exact hG.up hM_168 (by decide)
              have hM_182 : M_181 b13 = .inr (12, fs16.set 12 (.int (nI (v18 + 1)))) := by rw [eM_181]; exact va_up_self _ _ _
              have hM_183 : M_181 v20 = .inl (cy 14, 12, .inl (f_169)) := by rw [eM_181, va_up_ne _ _ (hc20.neT hb_15 (by decide))]; exact hM_166
              have hM_184 : M_181 z1 = .inl (cy 23, 8, .inr (.inr (.inr (.inr (f11))))) := by rw [eM_181, va_up_ne _ _ (i1.neT hb_15 (by decide))]; exact hM_167
              refine lv_aload_n hx hb dX13_end_123 rfl (lv_at hl 2 rfl) ?_
              refine lv_aload_n hx hb dX13_end_124 rfl (lv_at hl 1 rfl) ?_
              refine pg_getN (D := D) (ci := 12) (v := .int (nI (v18 + 1))) (C := RX12) (T := TX12) (N := 51) hx hb hg inG12 hown hK hP hb_15.1 hM_182 rfl 12 (by decide) (hN.use (Cond.fieldLinkNest RX13 233 RX12 "years" "I" RX13) 21 rfl rfl) (fun _ h9 => h9) hs_175 dX13_end_125 ?_
              have hPc := hP.sub (ws' := [(za, (b13_0 0 z1 (nI z2) (nI z3) z4 z5 z6 z7 z8 z9 (nI z10) z11 z12 z13 z14 z15 (nI z16) z17 z18 z19))]) [0] rfl
              have hDc := hD.sub (ws' := [(za, (b13_0 0 z1 (nI z2) (nI z3) z4 z5 z6 z7 z8 z9 (nI z10) z11 z12 z13 z14 z15 (nI z16) z17 z18 z19))]) [0] (by decide) rfl
              have hKc := hK.sub (tys' := []) [] rfl
              have hFc := va_free (wc := [(za, (b13_0 0 z1 (nI z2) (nI z3) z4 z5 z6 z7 z8 z9 (nI z10) z11 z12 z13 z14 z15 (nI z16) z17 z18 z19))]) hD hS hA [0] rfl
              refine va_calli (va_runV (As := [.int (nI (v18 + 1))]) (rest := []) ⟨hx, hb, hml, hown, hg⟩ (m_done l D H_172.size za 0 z1 (nI z2) (nI z3) z4 z5 z6 z7 z8 z9 (nI z10) z11 z12 z13 z14 z15 (nI z16) z17 z18 z19 (nI (v18 + 1))) (cwV 1 hg (gV wd_730 wd_731 wd_732 wd_717 wd_733) rfl rfl rfl (by decide +kernel) ⟨(Nat.le_trans (Nat.le_of_ble_eq_true rfl) hRf), (Nat.le_trans (Nat.le_of_ble_eq_true rfl) hRl)⟩) ⟨Pr.blind, va_recv hK hP (ci := 13) (q0 := 0) rfl rfl, fun U hU hW => ⟨rfl, Pr.at hPc hKc hDc hN hU hW⟩⟩ rfl rfl hl.1 rfl (lv_room (Nat.le_of_ble_eq_true rfl)) dX13_end_128 ⟨(Nat.le_trans (Nat.le_of_ble_eq_true rfl) hRc), (Nat.le_trans (Nat.le_of_ble_eq_true rfl) hRs)⟩) hS (fun q _ h => hFc q h) hFc (fun r_186 M_187 t H_185 locs ht hvm hw hB hz1 hk1 hS => ?_)
              have hp_188 := hw
              obtain ⟨hP1, hK1, hD1⟩ := hB
              rw [ht] at hP1
              obtain ⟨hP, hD⟩ := va_joinQ (X := [(za, (b13_0 0 z1 (nI z2) (nI z3) z4 z5 z6 z7 z8 z9 (nI z10) z11 z12 z13 z14 z15 (nI z16) z17 z18 z19))]) (cx := [(za, (b13_0 0 z1 (nI z2) (nI z3) z4 z5 z6 z7 z8 z9 (nI z10) z11 z12 z13 z14 z15 (nI z16) z17 z18 z19))]) (wr := []) (w1 := [(za, (b13_0 0 z1 (nI z2) (nI z3) 0 (-1) z6 z7 z8 z9 (nI z10) z11 z12 z13 z14 z15 (nI z16) z17 z18 z19))]) (pl := va_pl L M_181) hP hD [0] [] rfl rfl (by decide) (by decide) hk1 hFc hP1 hD1
              have hP : va_P D vwCl ([(za, (b13_0 0 z1 (nI z2) (nI z3) 0 (-1) z6 z7 z8 z9 (nI z10) z11 z12 z13 z14 z15 (nI z16) z17 z18 z19))] ++ va_pl L M_181) H_185 := hP
              have hD : va_D A ([(za, (b13_0 0 z1 (nI z2) (nI z3) 0 (-1) z6 z7 z8 z9 (nI z10) z11 z12 z13 z14 z15 (nI z16) z17 z18 z19))] ++ va_pl L M_181) := hD
              have hq := Eq.symm hp_188
              subst hq
              have hI_189 : (0 : Int) ≤ (k1 : Int32).toInt := inltI rfl rfl c_7
              have hI_190 : (k1 : Int32).toInt < ((z2 : Nat) : Int) := inleI (nI_toInt (by omega)) rfl c_8
              have hI_191 : ((v18 : Nat) : Int) = (0 : Int) := ieqI (nI_toInt (by omega)) rfl c_22
              have hI_192 : (0 : Int) ≤ ((j_162 : Nat) : Int) := inltI (nI_toInt (by omega)) rfl c_127
              have hI_193 : ((j_162 : Nat) : Int) < (1000 : Int) := inleI rfl (nI_toInt (by omega)) c_136
              have hI_194 : ((v17 : Nat) : Int) ≤ ((j_162 : Nat) : Int) := inltI (nI_toInt (by omega)) (nI_toInt (by omega)) c_146
              have hI_195 : ((j_162 : Nat) : Int) ≤ (((v17 + 99) : Nat) : Int) := ileI (nI_toInt (by omega)) (nI_toInt (by omega)) c_160
              have hI_196 : ((v18 : Nat) : Int) ≠ (12 : Int) := ineI (nI_toInt (by omega)) rfl c_161
              have hn92 : ((nI j_162) : Int32).toInt = ((j_162 : Nat) : Int) := nI_toInt (by omega)
              have hyes : okEd z2 SX SY k1 (nI j_162) := by unfold okEd okH; refine ⟨⟨?_, ?_⟩, ?_, ?_, ?_, ?_, ?_⟩ <;> first | omega | assumption
              have hA9 : HA (ax M b13 2) (ax M b13 3) := hAT.1
              have hB9 : HB (fx M b13 16) (fx M b13 14) (ax M b13 3) (ax M b13 43) := hAT.2.1
              have hC9 : HC (fx M b13 10) (ax M b13 22) (ax M b13 23) := hAT.2.2.1
              have hD9 : HD (fx M b13 0) (fx M b13 11) (fx M b13 15) (ax M b13 34) (ax M b13 41) := hAT.2.2.2.1
              have hE9 : HE (fx M b13 0) (fx M b13 1) (((v18 + 1) : Nat) : Int) (fx M b13 13) (upd (ax M b13 37) ((nI v18) : Int32).toNatClampNeg (nI j_162)) := HE.fin hAT.2.2.2.2 hx12 (by omega) (nI_cl (by omega)) (by rw [hx13]; omega) (by have h := geI c_146 (by omega); omega) (by have h := leI2 c_160 (by omega); omega)
              have hH9 : HI (va_up (fx M b13) 12 (((v18 + 1) : Nat) : Int)) (va_up (ax M b13) 37 (upd (ax M b13 37) ((nI v18) : Int32).toNatClampNeg (nI j_162))) := ⟨hA9, hB9, hC9, hD9, hE9⟩
              have hGI9 : GI K L z1 z2 M_181 := GI.fin hW0 i1 b2 hGI hact hV (hF.at i1 (by decide)) hH9
              rw [hQ]
              exact W.iret (v := (nI (v18 + 1))) hx hb hr (fun t ht hW9 => ⟨⟨(nI (v18 + 1)), M_181, rfl, ⟨hW, hF, hG, ⟨hGI9, (by unfold sxEd syEd; rw [if_pos hyes, if_pos hyes]; have hQ9 := ZSx.fin hW0 i1 b2 hZS hGI.1 hkn hb9 hV (hF.at i1 (by decide)) ((by rw [hZk.1, show ((v18 + 1 : Nat) : Int) = SX (k1 : Int32).toNatClampNeg 12 + 1 by omega])) ((by rw [hZk.2, nI_cl (t := v18) (by omega), show v18 = (SX (k1 : Int32).toNatClampNeg 12).toNat by omega])); exact hQ9)⟩, (by unfold anEd; rw [if_pos hyes]; exact congrArg nI (by omega))⟩, ⟨0, by rw [ht]; exact hP, hD⟩⟩, hS.F ht⟩) hS.2.2 dX13_end_131
            · have hz := rfl (a := 0)
              have n_197 : ¬ k2 < 0 := gtN (c := (v17 + 99)) (by omega) (Int32.not_le.mp c_160)
              refine lv_aload_n hx hb dX13_end_81 rfl (lv_at hl 2 rfl) ?_
              refine lv_iconst (v := 3) hx hb dX13_end_82 (by decide) ?_
              have hPc := hP.sub (ws' := [(za, (b13_0 0 z1 (nI z2) (nI z3) z4 z5 z6 z7 z8 z9 (nI z10) z11 z12 z13 z14 z15 (nI z16) z17 z18 z19))]) [0] rfl
              have hDc := hD.sub (ws' := [(za, (b13_0 0 z1 (nI z2) (nI z3) z4 z5 z6 z7 z8 z9 (nI z10) z11 z12 z13 z14 z15 (nI z16) z17 z18 z19))]) [0] (by decide) rfl
              have hKc := hK.sub (tys' := []) [] rfl
              have hFc := va_free (wc := [(za, (b13_0 0 z1 (nI z2) (nI z3) z4 z5 z6 z7 z8 z9 (nI z10) z11 z12 z13 z14 z15 (nI z16) z17 z18 z19))]) hD hS hA [0] rfl
              refine va_calli (va_runV (As := [.int 3]) (rest := []) ⟨hx, hb, hml, hown, hg⟩ (m_refused l D H_2.size za 0 z1 (nI z2) (nI z3) z4 z5 z6 z7 z8 z9 (nI z10) z11 z12 z13 z14 z15 (nI z16) z17 z18 z19 3) (cwV 1 hg (gV wd_725 wd_726 wd_727 wd_717 wd_728) rfl rfl rfl (by decide +kernel) ⟨(Nat.le_trans (Nat.le_of_ble_eq_true rfl) hRf), (Nat.le_trans (Nat.le_of_ble_eq_true rfl) hRl)⟩) ⟨Pr.blind, va_recv hK hP (ci := 13) (q0 := 0) rfl rfl, fun U hU hW => ⟨rfl, Pr.at hPc hKc hDc hN hU hW⟩⟩ rfl rfl hl.1 rfl (lv_room (Nat.le_of_ble_eq_true rfl)) dX13_end_83 ⟨(Nat.le_trans (Nat.le_of_ble_eq_true rfl) hRc), (Nat.le_trans (Nat.le_of_ble_eq_true rfl) hRs)⟩) hS (fun q _ h => hFc q h) hFc (fun r_199 M_200 t H_198 locs ht hvm hw hB hz1 hk1 hS => ?_)
              have hp_201 := hw
              obtain ⟨hP1, hK1, hD1⟩ := hB
              rw [ht] at hP1
              obtain ⟨hP, hD⟩ := va_joinQ (X := [(za, (b13_0 0 z1 (nI z2) (nI z3) z4 z5 z6 z7 z8 z9 (nI z10) z11 z12 z13 z14 z15 (nI z16) z17 z18 z19))]) (cx := [(za, (b13_0 0 z1 (nI z2) (nI z3) z4 z5 z6 z7 z8 z9 (nI z10) z11 z12 z13 z14 z15 (nI z16) z17 z18 z19))]) (wr := []) (w1 := [(za, (b13_0 0 z1 (nI z2) (nI z3) 3 (-1) z6 z7 z8 z9 (nI z10) z11 z12 z13 z14 z15 (nI z16) z17 z18 z19))]) (pl := va_pl L M) hP hD [0] [] rfl rfl (by decide) (by decide) hk1 hFc hP1 hD1
              have hP : va_P D vwCl ([(za, (b13_0 0 z1 (nI z2) (nI z3) 3 (-1) z6 z7 z8 z9 (nI z10) z11 z12 z13 z14 z15 (nI z16) z17 z18 z19))] ++ va_pl L M) H_198 := hP
              have hD : va_D A ([(za, (b13_0 0 z1 (nI z2) (nI z3) 3 (-1) z6 z7 z8 z9 (nI z10) z11 z12 z13 z14 z15 (nI z16) z17 z18 z19))] ++ va_pl L M) := hD
              have hq := Eq.symm hp_201
              subst hq
              have hI_202 : (0 : Int) ≤ (k1 : Int32).toInt := inltI rfl rfl c_7
              have hI_203 : (k1 : Int32).toInt < ((z2 : Nat) : Int) := inleI (nI_toInt (by omega)) rfl c_8
              have hI_204 : ((v18 : Nat) : Int) = (0 : Int) := ieqI (nI_toInt (by omega)) rfl c_22
              have hI_205 : (0 : Int) ≤ (k2 : Int32).toInt := inltI rfl rfl c_127
              have hI_206 : (k2 : Int32).toInt < (1000 : Int) := inleI rfl rfl c_136
              have hI_207 : ((v17 : Nat) : Int) ≤ (k2 : Int32).toInt := inltI rfl (nI_toInt (by omega)) c_146
              have hI_208 : (((v17 + 99) : Nat) : Int) < (k2 : Int32).toInt := inleI rfl (nI_toInt (by omega)) c_160
              have hI_209 : (0 : Int) ≤ (k2 : Int32).toInt := inltI rfl rfl n_197
              have hno : ¬ okEd z2 SX SY k1 k2 := fun q9 => by unfold okEd okH at q9; first | omega | (obtain ⟨⟨_, _⟩, _, _, _, _, _⟩ := q9; first | omega | contradiction)
              rw [hQ]
              exact W.iret (v := (-1)) hx hb hr (fun t ht hW9 => ⟨⟨(-1), M, rfl, ⟨hW, hF, hG, ⟨hGI, (by unfold sxEd syEd; rw [if_neg hno, if_neg hno]; exact hZS)⟩, (by unfold anEd; rw [if_neg hno])⟩, ⟨3, by rw [ht]; exact hP, hD⟩⟩, hS.F ht⟩) hS.2.2 dX13_end_86
  · have hz := rfl (a := 0)
    refine lv_if_ne (tgt := 19) hx hb dX13_end_10 (by decide) (fun c_210 => absurd c_210 (by decide)) (fun _ => ?_)
    refine lv_aload_n hx hb dX13_end_13 rfl (lv_at hl 0 rfl) ?_
    refine lv_iconst (v := 1) hx hb dX13_end_14 (by decide) ?_
    have hPc := hP.sub (ws' := [(za, (b13_0 0 z1 (nI z2) (nI z3) z4 z5 z6 z7 z8 z9 (nI z10) z11 z12 z13 z14 z15 (nI z16) z17 z18 z19))]) [0] rfl
    have hDc := hD.sub (ws' := [(za, (b13_0 0 z1 (nI z2) (nI z3) z4 z5 z6 z7 z8 z9 (nI z10) z11 z12 z13 z14 z15 (nI z16) z17 z18 z19))]) [0] (by decide) rfl
    have hKc := hK.sub (tys' := []) [] rfl
    have hFc := va_free (wc := [(za, (b13_0 0 z1 (nI z2) (nI z3) z4 z5 z6 z7 z8 z9 (nI z10) z11 z12 z13 z14 z15 (nI z16) z17 z18 z19))]) hD hS hA [0] rfl
    refine va_calli (va_runV (As := [.int 1]) (rest := []) ⟨hx, hb, hml, hown, hg⟩ (m_refused l D H_2.size za 0 z1 (nI z2) (nI z3) z4 z5 z6 z7 z8 z9 (nI z10) z11 z12 z13 z14 z15 (nI z16) z17 z18 z19 1) (cwV 1 hg (gV wd_725 wd_726 wd_727 wd_717 wd_728) rfl rfl rfl (by decide +kernel) ⟨(Nat.le_trans (Nat.le_of_ble_eq_true rfl) hRf), (Nat.le_trans (Nat.le_of_ble_eq_true rfl) hRl)⟩) ⟨Pr.blind, va_recv hK hP (ci := 13) (q0 := 0) rfl rfl, fun U hU hW => ⟨rfl, Pr.at hPc hKc hDc hN hU hW⟩⟩ rfl rfl hl.1 rfl (lv_room (Nat.le_of_ble_eq_true rfl)) dX13_end_15 ⟨(Nat.le_trans (Nat.le_of_ble_eq_true rfl) hRc), (Nat.le_trans (Nat.le_of_ble_eq_true rfl) hRs)⟩) hS (fun q _ h => hFc q h) hFc (fun r_212 M_213 t H_211 locs ht hvm hw hB hz1 hk1 hS => ?_)
    have hp_214 := hw
    obtain ⟨hP1, hK1, hD1⟩ := hB
    rw [ht] at hP1
    obtain ⟨hP, hD⟩ := va_joinQ (X := [(za, (b13_0 0 z1 (nI z2) (nI z3) z4 z5 z6 z7 z8 z9 (nI z10) z11 z12 z13 z14 z15 (nI z16) z17 z18 z19))]) (cx := [(za, (b13_0 0 z1 (nI z2) (nI z3) z4 z5 z6 z7 z8 z9 (nI z10) z11 z12 z13 z14 z15 (nI z16) z17 z18 z19))]) (wr := []) (w1 := [(za, (b13_0 0 z1 (nI z2) (nI z3) 1 (-1) z6 z7 z8 z9 (nI z10) z11 z12 z13 z14 z15 (nI z16) z17 z18 z19))]) (pl := va_pl L M) hP hD [0] [] rfl rfl (by decide) (by decide) hk1 hFc hP1 hD1
    have hP : va_P D vwCl ([(za, (b13_0 0 z1 (nI z2) (nI z3) 1 (-1) z6 z7 z8 z9 (nI z10) z11 z12 z13 z14 z15 (nI z16) z17 z18 z19))] ++ va_pl L M) H_211 := hP
    have hD : va_D A ([(za, (b13_0 0 z1 (nI z2) (nI z3) 1 (-1) z6 z7 z8 z9 (nI z10) z11 z12 z13 z14 z15 (nI z16) z17 z18 z19))] ++ va_pl L M) := hD
    have hq := Eq.symm hp_214
    subst hq
    have hno : ¬ okEd z2 SX SY k1 k2 := fun q9 => by unfold okEd okH at q9; first | omega | (obtain ⟨⟨_, _⟩, _, _, _, _, _⟩ := q9; first | omega | contradiction)
    rw [hQ]
    exact W.iret (v := (-1)) hx hb hr (fun t ht hW9 => ⟨⟨(-1), M, rfl, ⟨hW, hF, hG, ⟨hGI, (by unfold sxEd syEd; rw [if_neg hno, if_neg hno]; exact hZS)⟩, (by unfold anEd; rw [if_neg hno])⟩, ⟨1, by rw [ht]; exact hP, hD⟩⟩, hS.F ht⟩) hS.2.2 dX13_end_18
set_option maxHeartbeats 4000000 in
set_option maxRecDepth 100000 in
theorem z_leave (l : Launch) (D : va_G) (cy : Nat → ClassId) (K : Kp) (L : List Nat) (M : Hp) (sz : Nat) (za : Nat) (z0 : Int32) (z1 : Nat) (z2 : Nat) (z3 : Nat) (z4 : Int32) (z5 : Int32) (z6 : Nat) (z7 : Nat) (z8 : Nat) (z9 : Nat) (z10 : Nat) (z11 : Nat) (z12 : Nat) (z13 : Nat) (z14 : Nat) (z15 : Nat) (z16 : Nat) (z17 : Nat) (z18 : Int32) (z19 : Nat) (k1 : Int32) (k2 : Int32) (k3 : Int32) (k4 : Int32) (k5 : Int32) (SX : Nat → Nat → Int) (SY : Nat → Nat → Nat → Int32) (hW : WOM cy K L M) (i1 : isk K L z1 23 8) (b2 : z2 ≤ 8) (b3 : z3 ≤ 40) (i6 : isk K L z6 47 40) (i7 : isk K L z7 48 40) (i8 : isk K L z8 49 8) (i9 : isk K L z9 50 8) (b10 : z10 ≤ 8) (i11 : isk K L z11 32 24) (i12 : isk K L z12 14 24) (i13 : isk K L z13 97 24) (i14 : isk K L z14 98 24) (i15 : isk K L z15 99 24) (b16 : z16 ≤ 24) (i17 : isk K L z17 14 24) (i19 : isk K L z19 15 25) (hGI : GI K L z1 z2 M) (hZS : ZSx z1 z2 SX SY M) : Met l yX13_leave (wsM yX13_leave cX13_leave 8 (some .int)) ({ frames := 2, cells := 0, slots := 0, locals := 43 }) (va_Pc [.ref za, .int k1, .int k2, .int k3, .int k4, .int k5] (PG D cy [(za, (b13_0 z0 z1 (nI z2) (nI z3) z4 z5 z6 z7 z8 z9 (nI z10) z11 z12 z13 z14 z15 (nI z16) z17 z18 z19))] L M sz)) (va_Qi (fun (r : Int32) (M9 : Hp) => WOM cy K L M9 ∧ fr K L [14, 41, 42, 76] M M9 ∧ fG K L [] M M9 ∧ (GI K L z1 z2 M9 ∧ ZSx z1 z2 SX (syLv z2 SX SY k1 k2 k3 k4 k5) M9) ∧ ((r = anLv z2 SX SY k1 k2 k3 k4 k5))) (fun M9 t => ∃ (w4 : Int32), PQ D [(za, (b13_0 0 z1 (nI z2) (nI z3) w4 (-1) z6 z7 z8 z9 (nI z10) z11 z12 z13 z14 z15 (nI z16) z17 z18 z19))] L M9 (va_A ([(za, (b13_0 z0 z1 (nI z2) (nI z3) z4 z5 z6 z7 z8 z9 (nI z10) z11 z12 z13 z14 z15 (nI z16) z17 z18 z19))] ++ va_pl L M) sz) t) (va_A ([(za, (b13_0 z0 z1 (nI z2) (nI z3) z4 z5 z6 z7 z8 z9 (nI z10) z11 z12 z13 z14 z15 (nI z16) z17 z18 z19))] ++ va_pl L M) sz)) 0 0 (va_A ([(za, (b13_0 z0 z1 (nI z2) (nI z3) z4 z5 z6 z7 z8 z9 (nI z10) z11 z12 z13 z14 z15 (nI z16) z17 z18 z19))] ++ va_pl L M) sz) := by
  refine Met.ofW (cc := cX13_leave) (maxL := 8) (ret := (some .int)) (by decide) rfl ?_
  intro p e s m args below meth c s₁ B hml hv
  obtain ⟨rfl, hsz, hP, hK, hD0, hN⟩ := hv
  have hx := B.exec
  have hb := B.bytes
  have hr := B.returns
  have hts := atoms_spec (ws := (wsM yX13_leave cX13_leave 8 (some .int))) B.pre
  have hg : ∀ w ∈ lw_good, w.before _ s = true := fun w h => hts w (List.mem_cons_of_mem _ h)
  have hown : s.vm.findClass RX13 = some m.cls := findClass_of_methodNamed B.named
  have hlocks := B.notSynchronized
  subst hsz
  have hD := hD0.self (sz := s.heap.size)
  generalize hAe : va_A ([(za, (b13_0 z0 z1 (nI z2) (nI z3) z4 z5 z6 z7 z8 z9 (nI z10) z11 z12 z13 z14 z15 (nI z16) z17 z18 z19))] ++ va_pl L M) s.heap.size = A at hD ⊢
  have hA : ∀ q : Nat, s.heap.size ≤ q → A q := fun q h => by rw [← hAe]; exact Or.inr h
  have hS : va_S A s.heap s.heap [] := va_S.rf
  have hl := lv_entry ([.ref za, .int k1, .int k2, .int k3, .int k4, .int k5]) (n := 8) (Nat.le_of_ble_eq_true rfl)
  rw [lg_entry_eq]
  generalize (lg_sl ([.ref za, .int k1, .int k2, .int k3, .int k4, .int k5]) ++ List.replicate (8 - (lg_sl ([.ref za, .int k1, .int k2, .int k3, .int k4, .int k5])).length) Slot.unset).toArray = ls at hl ⊢
  refine W.nameQ (fun Q hQ => ?_)
  refine W.nameR (fun R hR => ?_)
  have hRf : 2 ≤ R.frames := by rw [hR]; exact Nat.le_of_ble_eq_true rfl
  have hRl : 43 ≤ R.locals := by rw [hR]; exact Nat.le_of_ble_eq_true rfl
  have hRc : 0 ≤ R.cells := by rw [hR]; exact Nat.le_of_ble_eq_true rfl
  have hRs : 0 ≤ R.slots := by rw [hR]; exact Nat.le_of_ble_eq_true rfl
  have hF : fr K L [14, 41, 42, 76] M M := fr.rf
  have hG : fG K L [] M M := fG.rf
  have hl : lv_has ls 8 [(0, .ref za), (1, .int k1), (2, .int k2), (3, .int k3), (4, .int k4), (5, .int k5)] := hl
  have hW0 := hW
  refine lv_aload_n hx hb dX13_leave_0 rfl (lv_at hl 0 rfl) ?_
  refine lv_iconst (v := 0) hx hb dX13_leave_1 (by decide) ?_
  refine va_put (D := D) (ci := 13) (v := .int 0) (ty := .int) (C := RX13) (T := TX13) (N := 20) hx hb hg inG13 tyX13 tyX13_ok nmX13 hown hK hP hD hS 0 rfl rfl 0 (by decide) (hg _ wd_720) (fun _ h9 => h9) rfl (by decide +kernel) rfl rfl (Nat.le_of_ble_eq_true rfl) dX13_leave_2 (fun H_1 locs hP hD hS => ?_)
  have hP : va_P D vwCl ([(za, (b13_0 0 z1 (nI z2) (nI z3) z4 z5 z6 z7 z8 z9 (nI z10) z11 z12 z13 z14 z15 (nI z16) z17 z18 z19))] ++ va_pl L M) H_1 := hP
  have hD : va_D A ([(za, (b13_0 0 z1 (nI z2) (nI z3) z4 z5 z6 z7 z8 z9 (nI z10) z11 z12 z13 z14 z15 (nI z16) z17 z18 z19))] ++ va_pl L M) := hD
  refine lv_aload_n hx hb dX13_leave_5 rfl (lv_at hl 0 rfl) ?_
  refine lv_iload_n hx hb dX13_leave_6 rfl (lv_at hl 1 rfl) ?_
  refine lv_iload_n hx hb dX13_leave_7 rfl (lv_at hl 2 rfl) ?_
  have hPc : va_P D vwCl ([(za, (b13_0 0 z1 (nI z2) (nI z3) z4 z5 z6 z7 z8 z9 (nI z10) z11 z12 z13 z14 z15 (nI z16) z17 z18 z19))] ++ va_pl L M) H_1 := hP
  have hDc : va_D A ([(za, (b13_0 0 z1 (nI z2) (nI z3) z4 z5 z6 z7 z8 z9 (nI z10) z11 z12 z13 z14 z15 (nI z16) z17 z18 z19))] ++ va_pl L M) := hD
  have hFc : ∀ q, va_A ([(za, (b13_0 0 z1 (nI z2) (nI z3) z4 z5 z6 z7 z8 z9 (nI z10) z11 z12 z13 z14 z15 (nI z16) z17 z18 z19))] ++ va_pl L M) H_1.size q → A q := pg_free hDc hS hA
  refine va_calli (va_runV (As := [.int k1, .int k2]) (rest := []) ⟨hx, hb, hml, hown, hg⟩ (f_isSeat l D cy K L M H_1.size za 0 z1 z2 z3 z4 z5 z6 z7 z8 z9 z10 z11 z12 z13 z14 z15 z16 z17 z18 z19 k1 k2  hW i1 b2 b3 i6 i7 i8 i9 b10 i11 i12 i13 i14 i15 b16 i17 i19) (cwV 2 hg (gV wd_744 wd_745 wd_746 wd_717 wd_747) rfl rfl rfl (by decide +kernel) ⟨(Nat.le_trans (Nat.le_of_ble_eq_true rfl) hRf), (Nat.le_trans (Nat.le_of_ble_eq_true rfl) hRl)⟩) ⟨PG.blind, va_recv hK hP (ci := 13) (q0 := 0) rfl rfl, fun U hU hW => ⟨rfl, PG.at hPc hK hDc hN hU hW⟩⟩ rfl rfl hl.1 rfl (lv_room (Nat.le_of_ble_eq_true rfl)) dX13_leave_8 ⟨(Nat.le_trans (Nat.le_of_ble_eq_true rfl) hRc), (Nat.le_trans (Nat.le_of_ble_eq_true rfl) hRs)⟩) hS (fun q _ h => hFc q h) hFc (fun r_3 M_4 t H_2 locs ht hvm hw hB hz1 hk1 hS => ?_)
  have hp_5 := hw
  obtain ⟨hP1, hD1⟩ := hB
  rw [ht] at hP1
  have hP : va_P D vwCl ([(za, (b13_0 0 z1 (nI z2) (nI z3) z4 z5 z6 z7 z8 z9 (nI z10) z11 z12 z13 z14 z15 (nI z16) z17 z18 z19))] ++ va_pl L M) H_2 := hP1
  have hD : va_D A ([(za, (b13_0 0 z1 (nI z2) (nI z3) z4 z5 z6 z7 z8 z9 (nI z10) z11 z12 z13 z14 z15 (nI z16) z17 z18 z19))] ++ va_pl L M) := hD1.mono hFc
  rcases hp_5 with ⟨rfl, c_6, c_7, c_8, c_9, c_10⟩ | ⟨rfl, c_11⟩
  · have hz := rfl (a := 0)
    refine lv_if_ne (tgt := 20) hx hb dX13_leave_11 (by decide) (fun _ => ?_) (fun c_12 => absurd c_12 (by decide))
    refine lv_aload_n hx hb dX13_leave_20 rfl (lv_at hl 0 rfl) ?_
    refine va_get (D := D) (ci := 13) (v := .ref z1) (C := RX13) (T := TX13) (N := 20) hx hb hg inG13 hown hK hP 0 rfl rfl 1 (by decide) (hg _ wd_739) (fun _ h9 => h9) rfl dX13_leave_21 ?_
    refine lv_iload_n hx hb dX13_leave_24 rfl (lv_at hl 1 rfl) ?_
    obtain ⟨f13, hM13, hf13⟩ := hW.open_23 i1
    have hi_14 : vp_in k1 8 := (inbW (a := z2) (by omega) (inb k1 z2 (by omega) c_7 c_8))
    refine pg_aldq hx hb hK hP i1.1 9 hM13 rfl hi_14 dX13_leave_25 ?_
    obtain ⟨b15, eb_16, hb_17⟩ := hf13 _ (vp_lt hi_14)
    rw [eb_16]
    have hact : ACT z1 z2 b15 M := ⟨(k1 : Int32).toNatClampNeg, vp_lt (inb k1 z2 (by omega) c_7 c_8), by rw [show RFc (M z1) = f13 from by rw [hM13]; rfl]; exact eb_16⟩
    have hAT := GI.at hGI hact
    have hV : VW K L M M b15 (fx M b15) (ax M b15) := VW.rf b15 hGI.2.2.2
    have hb9 : RFc (M z1) (k1 : Int32).toNatClampNeg = some b15 := by rw [show RFc (M z1) = f13 from by rw [hM13]; rfl]; exact eb_16
    have hkn : (k1 : Int32).toNatClampNeg < z2 := vp_lt (inb k1 z2 (by omega) c_7 c_8)
    have hZk := hZS _ b15 hkn hb9
    have hz0 : fx M b15 0 = SX (k1 : Int32).toNatClampNeg 0 := congrFun hZk.1 0
    have hz1 : fx M b15 1 = SX (k1 : Int32).toNatClampNeg 1 := congrFun hZk.1 1
    have hz10 : fx M b15 10 = SX (k1 : Int32).toNatClampNeg 10 := congrFun hZk.1 10
    have hz11 : fx M b15 11 = SX (k1 : Int32).toNatClampNeg 11 := congrFun hZk.1 11
    have hz12 : fx M b15 12 = SX (k1 : Int32).toNatClampNeg 12 := congrFun hZk.1 12
    have hz13 : fx M b15 13 = SX (k1 : Int32).toNatClampNeg 13 := congrFun hZk.1 13
    have hz14 : fx M b15 14 = SX (k1 : Int32).toNatClampNeg 14 := congrFun hZk.1 14
    have hz15 : fx M b15 15 = SX (k1 : Int32).toNatClampNeg 15 := congrFun hZk.1 15
    have hz16 : fx M b15 16 = SX (k1 : Int32).toNatClampNeg 16 := congrFun hZk.1 16
    refine lv_astore (lv' := [(6, .ref b15), (0, .ref za), (1, .int k1), (2, .int k2), (3, .int k3), (4, .int k4), (5, .int k5)]) hx hb dX13_leave_26 hl (by decide) rfl (fun ls hl => ?_)
    refine lv_aload_n hx hb dX13_leave_28 rfl (lv_at hl 1 rfl) ?_
    refine lv_aload hx hb dX13_leave_29 (lv_at hl 0 rfl) ?_
    refine lv_iload_n hx hb dX13_leave_31 rfl (lv_at hl 3 rfl) ?_
    obtain ⟨j_18, hj_19, rfl⟩ := i32nat 6 (by decide) c_9 c_10
    have hPc : va_P D vwCl ([(za, (b13_0 0 z1 (nI z2) (nI z3) z4 z5 z6 z7 z8 z9 (nI z10) z11 z12 z13 z14 z15 (nI z16) z17 z18 z19))] ++ va_pl L M) H_2 := hP
    have hDc : va_D A ([(za, (b13_0 0 z1 (nI z2) (nI z3) z4 z5 z6 z7 z8 z9 (nI z10) z11 z12 z13 z14 z15 (nI z16) z17 z18 z19))] ++ va_pl L M) := hD
    have hFc : ∀ q, va_A ([(za, (b13_0 0 z1 (nI z2) (nI z3) z4 z5 z6 z7 z8 z9 (nI z10) z11 z12 z13 z14 z15 (nI z16) z17 z18 z19))] ++ va_pl L M) H_2.size q → A q := pg_free hDc hS hA
    refine va_calli (va_runV (As := [.ref b15, .int (nI j_18)]) (rest := []) ⟨hx, hb, hml, hown, hg⟩ (f_holder l D cy K L M H_2.size za 0 z1 z2 z3 z4 z5 z6 z7 z8 z9 z10 z11 z12 z13 z14 z15 z16 z17 z18 z19 b15 j_18  hW i1 b2 b3 i6 i7 i8 i9 b10 i11 i12 i13 i14 i15 b16 i17 i19 hb_17 (by omega)) (cwV 2 hg (gV wd_779 wd_780 wd_781 wd_717 wd_782) rfl rfl rfl (by decide +kernel) ⟨(Nat.le_trans (Nat.le_of_ble_eq_true rfl) hRf), (Nat.le_trans (Nat.le_of_ble_eq_true rfl) hRl)⟩) ⟨PG.blind, va_recv hK hP (ci := 13) (q0 := 0) rfl rfl, fun U hU hW => ⟨rfl, PG.at hPc hK hDc hN hU hW⟩⟩ rfl rfl hl.1 rfl (lv_room (Nat.le_of_ble_eq_true rfl)) dX13_leave_32 ⟨(Nat.le_trans (Nat.le_of_ble_eq_true rfl) hRc), (Nat.le_trans (Nat.le_of_ble_eq_true rfl) hRs)⟩) hS (fun q _ h => hFc q h) hFc (fun r_21 M_22 t H_20 locs ht hvm hw hB hz1 hk1 hS => ?_)
    have hp_23 := hw
    obtain ⟨hP1, hD1⟩ := hB
    rw [ht] at hP1
    have hP : va_P D vwCl ([(za, (b13_0 0 z1 (nI z2) (nI z3) z4 z5 z6 z7 z8 z9 (nI z10) z11 z12 z13 z14 z15 (nI z16) z17 z18 z19))] ++ va_pl L M) H_20 := hP1
    have hD : va_D A ([(za, (b13_0 0 z1 (nI z2) (nI z3) z4 z5 z6 z7 z8 z9 (nI z10) z11 z12 z13 z14 z15 (nI z16) z17 z18 z19))] ++ va_pl L M) := hD1.mono hFc
    rcases hp_23 with ⟨j_24, rfl, c_25, c_26, c_27⟩ | ⟨rfl, c_28⟩
    · have hz := rfl (a := 0)
      have hhs : hold (SY (k1 : Int32).toNatClampNeg) ((nI j_18) : Int32).toNatClampNeg := by rw [← hZk.2, nI_cl (by omega)]; exact c_27
      have hs9 : (SY (k1 : Int32).toNatClampNeg 9 ((nI j_18) : Int32).toNatClampNeg).toInt = ((j_24 : Nat) : Int) + 1 := by rw [← hZk.2, nI_cl (by omega)]; exact c_26
      have hsn : ((SY (k1 : Int32).toNatClampNeg 9 ((nI j_18) : Int32).toNatClampNeg).toInt - 1).toNat = j_24 := by omega
      refine lv_istore (lv' := [(7, .int (nI j_24)), (6, .ref b15), (0, .ref za), (1, .int k1), (2, .int (nI j_18)), (3, .int k3), (4, .int k4), (5, .int k5)]) hx hb dX13_leave_35 hl (by decide) rfl (fun ls hl => ?_)
      refine lv_iload hx hb dX13_leave_37 (lv_at hl 0 rfl) ?_
      refine lv_iconst (v := (-1)) hx hb dX13_leave_39 (by decide) ?_
      refine lv_icmp_ne (tgt := 49) hx hb dX13_leave_40 (by decide) (fun _ => ?_) (fun c_29 => absurd c_29 (nI_ne_m1 (by omega)))
      refine lv_iload hx hb dX13_leave_49 (lv_at hl 6 rfl) ?_
      refine lv_iconst (v := 1) hx hb dX13_leave_51 (by decide) ?_
      refine lv_icmp_lt (tgt := 73) hx hb dX13_leave_52 (by decide) (fun c_30 => ?_) (fun c_30 => ?_)
      · have hz := rfl (a := 0)
        refine lv_aload_n hx hb dX13_leave_73 rfl (lv_at hl 2 rfl) ?_
        refine lv_iconst (v := 2) hx hb dX13_leave_74 (by decide) ?_
        have hPc := hP.sub (ws' := [(za, (b13_0 0 z1 (nI z2) (nI z3) z4 z5 z6 z7 z8 z9 (nI z10) z11 z12 z13 z14 z15 (nI z16) z17 z18 z19))]) [0] rfl
        have hDc := hD.sub (ws' := [(za, (b13_0 0 z1 (nI z2) (nI z3) z4 z5 z6 z7 z8 z9 (nI z10) z11 z12 z13 z14 z15 (nI z16) z17 z18 z19))]) [0] (by decide) rfl
        have hKc := hK.sub (tys' := []) [] rfl
        have hFc := va_free (wc := [(za, (b13_0 0 z1 (nI z2) (nI z3) z4 z5 z6 z7 z8 z9 (nI z10) z11 z12 z13 z14 z15 (nI z16) z17 z18 z19))]) hD hS hA [0] rfl
        refine va_calli (va_runV (As := [.int 2]) (rest := []) ⟨hx, hb, hml, hown, hg⟩ (m_refused l D H_20.size za 0 z1 (nI z2) (nI z3) z4 z5 z6 z7 z8 z9 (nI z10) z11 z12 z13 z14 z15 (nI z16) z17 z18 z19 2) (cwV 1 hg (gV wd_725 wd_726 wd_727 wd_717 wd_728) rfl rfl rfl (by decide +kernel) ⟨(Nat.le_trans (Nat.le_of_ble_eq_true rfl) hRf), (Nat.le_trans (Nat.le_of_ble_eq_true rfl) hRl)⟩) ⟨Pr.blind, va_recv hK hP (ci := 13) (q0 := 0) rfl rfl, fun U hU hW => ⟨rfl, Pr.at hPc hKc hDc hN hU hW⟩⟩ rfl rfl hl.1 rfl (lv_room (Nat.le_of_ble_eq_true rfl)) dX13_leave_75 ⟨(Nat.le_trans (Nat.le_of_ble_eq_true rfl) hRc), (Nat.le_trans (Nat.le_of_ble_eq_true rfl) hRs)⟩) hS (fun q _ h => hFc q h) hFc (fun r_32 M_33 t H_31 locs ht hvm hw hB hz1 hk1 hS => ?_)
        have hp_34 := hw
        obtain ⟨hP1, hK1, hD1⟩ := hB
        rw [ht] at hP1
        obtain ⟨hP, hD⟩ := va_joinQ (X := [(za, (b13_0 0 z1 (nI z2) (nI z3) z4 z5 z6 z7 z8 z9 (nI z10) z11 z12 z13 z14 z15 (nI z16) z17 z18 z19))]) (cx := [(za, (b13_0 0 z1 (nI z2) (nI z3) z4 z5 z6 z7 z8 z9 (nI z10) z11 z12 z13 z14 z15 (nI z16) z17 z18 z19))]) (wr := []) (w1 := [(za, (b13_0 0 z1 (nI z2) (nI z3) 2 (-1) z6 z7 z8 z9 (nI z10) z11 z12 z13 z14 z15 (nI z16) z17 z18 z19))]) (pl := va_pl L M) hP hD [0] [] rfl rfl (by decide) (by decide) hk1 hFc hP1 hD1
        have hP : va_P D vwCl ([(za, (b13_0 0 z1 (nI z2) (nI z3) 2 (-1) z6 z7 z8 z9 (nI z10) z11 z12 z13 z14 z15 (nI z16) z17 z18 z19))] ++ va_pl L M) H_31 := hP
        have hD : va_D A ([(za, (b13_0 0 z1 (nI z2) (nI z3) 2 (-1) z6 z7 z8 z9 (nI z10) z11 z12 z13 z14 z15 (nI z16) z17 z18 z19))] ++ va_pl L M) := hD
        have hq := Eq.symm hp_34
        subst hq
        have hI_35 : (0 : Int) ≤ (k1 : Int32).toInt := inltI rfl rfl c_7
        have hI_36 : (k1 : Int32).toInt < ((z2 : Nat) : Int) := inleI (nI_toInt (by omega)) rfl c_8
        have hI_37 : (0 : Int) ≤ ((j_18 : Nat) : Int) := inltI (nI_toInt (by omega)) rfl c_9
        have hI_38 : ((j_18 : Nat) : Int) < (6 : Int) := inleI rfl (nI_toInt (by omega)) c_10
        have hI_39 : (k4 : Int32).toInt < (1 : Int) := iltI rfl rfl c_30
        have hn92 : ((nI j_18) : Int32).toInt = ((j_18 : Nat) : Int) := nI_toInt (by omega)
        have hno : ¬ okLv z2 SX SY k1 (nI j_18) k3 k4 k5 := fun q9 => by unfold okLv okHS at q9; first | omega | (obtain ⟨⟨_, _, _, _⟩, _, _, _, _, _, _, _, _⟩ := q9; first | omega | contradiction)
        rw [hQ]
        exact W.iret (v := (-1)) hx hb hr (fun t ht hW9 => ⟨⟨(-1), M, rfl, ⟨hW, hF, hG, ⟨hGI, (by unfold syLv; rw [if_neg hno]; exact hZS)⟩, (by unfold anLv; rw [if_neg hno])⟩, ⟨2, by rw [ht]; exact hP, hD⟩⟩, hS.F ht⟩) hS.2.2 dX13_leave_78
      · have hz := rfl (a := 0)
        refine lv_iload hx hb dX13_leave_55 (lv_at hl 6 rfl) ?_
        refine lv_bipush (v := 10) hx hb dX13_leave_57 (by decide) ?_
        refine lv_icmp_gt (tgt := 73) hx hb dX13_leave_59 (by decide) (fun c_40 => ?_) (fun c_40 => ?_)
        · have hz := rfl (a := 0)
          have n_41 : ¬ k4 < 0 := gtN (c := 10) (by omega) c_40
          refine lv_aload_n hx hb dX13_leave_73 rfl (lv_at hl 2 rfl) ?_
          refine lv_iconst (v := 2) hx hb dX13_leave_74 (by decide) ?_
          have hPc := hP.sub (ws' := [(za, (b13_0 0 z1 (nI z2) (nI z3) z4 z5 z6 z7 z8 z9 (nI z10) z11 z12 z13 z14 z15 (nI z16) z17 z18 z19))]) [0] rfl
          have hDc := hD.sub (ws' := [(za, (b13_0 0 z1 (nI z2) (nI z3) z4 z5 z6 z7 z8 z9 (nI z10) z11 z12 z13 z14 z15 (nI z16) z17 z18 z19))]) [0] (by decide) rfl
          have hKc := hK.sub (tys' := []) [] rfl
          have hFc := va_free (wc := [(za, (b13_0 0 z1 (nI z2) (nI z3) z4 z5 z6 z7 z8 z9 (nI z10) z11 z12 z13 z14 z15 (nI z16) z17 z18 z19))]) hD hS hA [0] rfl
          refine va_calli (va_runV (As := [.int 2]) (rest := []) ⟨hx, hb, hml, hown, hg⟩ (m_refused l D H_20.size za 0 z1 (nI z2) (nI z3) z4 z5 z6 z7 z8 z9 (nI z10) z11 z12 z13 z14 z15 (nI z16) z17 z18 z19 2) (cwV 1 hg (gV wd_725 wd_726 wd_727 wd_717 wd_728) rfl rfl rfl (by decide +kernel) ⟨(Nat.le_trans (Nat.le_of_ble_eq_true rfl) hRf), (Nat.le_trans (Nat.le_of_ble_eq_true rfl) hRl)⟩) ⟨Pr.blind, va_recv hK hP (ci := 13) (q0 := 0) rfl rfl, fun U hU hW => ⟨rfl, Pr.at hPc hKc hDc hN hU hW⟩⟩ rfl rfl hl.1 rfl (lv_room (Nat.le_of_ble_eq_true rfl)) dX13_leave_75 ⟨(Nat.le_trans (Nat.le_of_ble_eq_true rfl) hRc), (Nat.le_trans (Nat.le_of_ble_eq_true rfl) hRs)⟩) hS (fun q _ h => hFc q h) hFc (fun r_43 M_44 t H_42 locs ht hvm hw hB hz1 hk1 hS => ?_)
          have hp_45 := hw
          obtain ⟨hP1, hK1, hD1⟩ := hB
          rw [ht] at hP1
          obtain ⟨hP, hD⟩ := va_joinQ (X := [(za, (b13_0 0 z1 (nI z2) (nI z3) z4 z5 z6 z7 z8 z9 (nI z10) z11 z12 z13 z14 z15 (nI z16) z17 z18 z19))]) (cx := [(za, (b13_0 0 z1 (nI z2) (nI z3) z4 z5 z6 z7 z8 z9 (nI z10) z11 z12 z13 z14 z15 (nI z16) z17 z18 z19))]) (wr := []) (w1 := [(za, (b13_0 0 z1 (nI z2) (nI z3) 2 (-1) z6 z7 z8 z9 (nI z10) z11 z12 z13 z14 z15 (nI z16) z17 z18 z19))]) (pl := va_pl L M) hP hD [0] [] rfl rfl (by decide) (by decide) hk1 hFc hP1 hD1
          have hP : va_P D vwCl ([(za, (b13_0 0 z1 (nI z2) (nI z3) 2 (-1) z6 z7 z8 z9 (nI z10) z11 z12 z13 z14 z15 (nI z16) z17 z18 z19))] ++ va_pl L M) H_42 := hP
          have hD : va_D A ([(za, (b13_0 0 z1 (nI z2) (nI z3) 2 (-1) z6 z7 z8 z9 (nI z10) z11 z12 z13 z14 z15 (nI z16) z17 z18 z19))] ++ va_pl L M) := hD
          have hq := Eq.symm hp_45
          subst hq
          have hI_46 : (0 : Int) ≤ (k1 : Int32).toInt := inltI rfl rfl c_7
          have hI_47 : (k1 : Int32).toInt < ((z2 : Nat) : Int) := inleI (nI_toInt (by omega)) rfl c_8
          have hI_48 : (0 : Int) ≤ ((j_18 : Nat) : Int) := inltI (nI_toInt (by omega)) rfl c_9
          have hI_49 : ((j_18 : Nat) : Int) < (6 : Int) := inleI rfl (nI_toInt (by omega)) c_10
          have hI_50 : (1 : Int) ≤ (k4 : Int32).toInt := inltI rfl rfl c_30
          have hI_51 : (10 : Int) < (k4 : Int32).toInt := iltI rfl rfl c_40
          have hI_52 : (0 : Int) ≤ (k4 : Int32).toInt := inltI rfl rfl n_41
          have hn92 : ((nI j_18) : Int32).toInt = ((j_18 : Nat) : Int) := nI_toInt (by omega)
          have hno : ¬ okLv z2 SX SY k1 (nI j_18) k3 k4 k5 := fun q9 => by unfold okLv okHS at q9; first | omega | (obtain ⟨⟨_, _, _, _⟩, _, _, _, _, _, _, _, _⟩ := q9; first | omega | contradiction)
          rw [hQ]
          exact W.iret (v := (-1)) hx hb hr (fun t ht hW9 => ⟨⟨(-1), M, rfl, ⟨hW, hF, hG, ⟨hGI, (by unfold syLv; rw [if_neg hno]; exact hZS)⟩, (by unfold anLv; rw [if_neg hno])⟩, ⟨2, by rw [ht]; exact hP, hD⟩⟩, hS.F ht⟩) hS.2.2 dX13_leave_78
        · have hz := rfl (a := 0)
          refine lv_iload hx hb dX13_leave_62 (lv_at hl 7 rfl) ?_
          refine lv_if_lt (tgt := 73) hx hb dX13_leave_64 (by decide) (fun c_53 => ?_) (fun c_53 => ?_)
          · have hz := rfl (a := 0)
            refine lv_aload_n hx hb dX13_leave_73 rfl (lv_at hl 2 rfl) ?_
            refine lv_iconst (v := 2) hx hb dX13_leave_74 (by decide) ?_
            have hPc := hP.sub (ws' := [(za, (b13_0 0 z1 (nI z2) (nI z3) z4 z5 z6 z7 z8 z9 (nI z10) z11 z12 z13 z14 z15 (nI z16) z17 z18 z19))]) [0] rfl
            have hDc := hD.sub (ws' := [(za, (b13_0 0 z1 (nI z2) (nI z3) z4 z5 z6 z7 z8 z9 (nI z10) z11 z12 z13 z14 z15 (nI z16) z17 z18 z19))]) [0] (by decide) rfl
            have hKc := hK.sub (tys' := []) [] rfl
            have hFc := va_free (wc := [(za, (b13_0 0 z1 (nI z2) (nI z3) z4 z5 z6 z7 z8 z9 (nI z10) z11 z12 z13 z14 z15 (nI z16) z17 z18 z19))]) hD hS hA [0] rfl
            refine va_calli (va_runV (As := [.int 2]) (rest := []) ⟨hx, hb, hml, hown, hg⟩ (m_refused l D H_20.size za 0 z1 (nI z2) (nI z3) z4 z5 z6 z7 z8 z9 (nI z10) z11 z12 z13 z14 z15 (nI z16) z17 z18 z19 2) (cwV 1 hg (gV wd_725 wd_726 wd_727 wd_717 wd_728) rfl rfl rfl (by decide +kernel) ⟨(Nat.le_trans (Nat.le_of_ble_eq_true rfl) hRf), (Nat.le_trans (Nat.le_of_ble_eq_true rfl) hRl)⟩) ⟨Pr.blind, va_recv hK hP (ci := 13) (q0 := 0) rfl rfl, fun U hU hW => ⟨rfl, Pr.at hPc hKc hDc hN hU hW⟩⟩ rfl rfl hl.1 rfl (lv_room (Nat.le_of_ble_eq_true rfl)) dX13_leave_75 ⟨(Nat.le_trans (Nat.le_of_ble_eq_true rfl) hRc), (Nat.le_trans (Nat.le_of_ble_eq_true rfl) hRs)⟩) hS (fun q _ h => hFc q h) hFc (fun r_55 M_56 t H_54 locs ht hvm hw hB hz1 hk1 hS => ?_)
            have hp_57 := hw
            obtain ⟨hP1, hK1, hD1⟩ := hB
            rw [ht] at hP1
            obtain ⟨hP, hD⟩ := va_joinQ (X := [(za, (b13_0 0 z1 (nI z2) (nI z3) z4 z5 z6 z7 z8 z9 (nI z10) z11 z12 z13 z14 z15 (nI z16) z17 z18 z19))]) (cx := [(za, (b13_0 0 z1 (nI z2) (nI z3) z4 z5 z6 z7 z8 z9 (nI z10) z11 z12 z13 z14 z15 (nI z16) z17 z18 z19))]) (wr := []) (w1 := [(za, (b13_0 0 z1 (nI z2) (nI z3) 2 (-1) z6 z7 z8 z9 (nI z10) z11 z12 z13 z14 z15 (nI z16) z17 z18 z19))]) (pl := va_pl L M) hP hD [0] [] rfl rfl (by decide) (by decide) hk1 hFc hP1 hD1
            have hP : va_P D vwCl ([(za, (b13_0 0 z1 (nI z2) (nI z3) 2 (-1) z6 z7 z8 z9 (nI z10) z11 z12 z13 z14 z15 (nI z16) z17 z18 z19))] ++ va_pl L M) H_54 := hP
            have hD : va_D A ([(za, (b13_0 0 z1 (nI z2) (nI z3) 2 (-1) z6 z7 z8 z9 (nI z10) z11 z12 z13 z14 z15 (nI z16) z17 z18 z19))] ++ va_pl L M) := hD
            have hq := Eq.symm hp_57
            subst hq
            have hI_58 : (0 : Int) ≤ (k1 : Int32).toInt := inltI rfl rfl c_7
            have hI_59 : (k1 : Int32).toInt < ((z2 : Nat) : Int) := inleI (nI_toInt (by omega)) rfl c_8
            have hI_60 : (0 : Int) ≤ ((j_18 : Nat) : Int) := inltI (nI_toInt (by omega)) rfl c_9
            have hI_61 : ((j_18 : Nat) : Int) < (6 : Int) := inleI rfl (nI_toInt (by omega)) c_10
            have hI_62 : (1 : Int) ≤ (k4 : Int32).toInt := inltI rfl rfl c_30
            have hI_63 : (k4 : Int32).toInt ≤ (10 : Int) := inltI rfl rfl c_40
            have hI_64 : (k5 : Int32).toInt < (0 : Int) := iltI rfl rfl c_53
            have hn92 : ((nI j_18) : Int32).toInt = ((j_18 : Nat) : Int) := nI_toInt (by omega)
            have hno : ¬ okLv z2 SX SY k1 (nI j_18) k3 k4 k5 := fun q9 => by unfold okLv okHS at q9; first | omega | (obtain ⟨⟨_, _, _, _⟩, _, _, _, _, _, _, _, _⟩ := q9; first | omega | contradiction)
            rw [hQ]
            exact W.iret (v := (-1)) hx hb hr (fun t ht hW9 => ⟨⟨(-1), M, rfl, ⟨hW, hF, hG, ⟨hGI, (by unfold syLv; rw [if_neg hno]; exact hZS)⟩, (by unfold anLv; rw [if_neg hno])⟩, ⟨2, by rw [ht]; exact hP, hD⟩⟩, hS.F ht⟩) hS.2.2 dX13_leave_78
          · have hz := rfl (a := 0)
            refine lv_iload hx hb dX13_leave_67 (lv_at hl 7 rfl) ?_
            refine lv_iconst (v := 5) hx hb dX13_leave_69 (by decide) ?_
            refine lv_icmp_le (tgt := 79) hx hb dX13_leave_70 (by decide) (fun c_65 => ?_) (fun c_65 => ?_)
            · have hz := rfl (a := 0)
              refine lv_aload hx hb dX13_leave_79 (lv_at hl 1 rfl) ?_
              refine lv_iload_n hx hb dX13_leave_81 rfl (lv_at hl 5 rfl) ?_
              obtain ⟨fs66, hM66, hn66, hl66⟩ := hW.open_12 hb_17
              have hPc : va_P D vwCl ([] ++ va_pl L M) H_20 := hP.part (cx := []) [] rfl
              have hDc : va_D A ([] ++ va_pl L M) := hD.part (cx := []) [] (by decide) rfl
              have hFc : ∀ q, va_A ([] ++ va_pl L M) H_20.size q → A q := pg_free hDc hS hA
              refine va_calli (va_runV (As := [.int k3]) (rest := []) ⟨hx, hb, hml, hown, hg⟩ (f_isFree l D cy K L M H_20.size b15 k3  hW hb_17) (cwV 1 hg (gV wd_807 wd_808 wd_809 wd_737 wd_810) rfl rfl rfl (by decide +kernel) ⟨(Nat.le_trans (Nat.le_of_ble_eq_true rfl) hRf), (Nat.le_trans (Nat.le_of_ble_eq_true rfl) hRl)⟩) ⟨PG.blind, pg_recv hK hP hb_17.1 hM66 rfl, fun U hU hW => ⟨rfl, PG.at hPc hK hDc hN hU hW⟩⟩ rfl rfl hl.1 rfl (lv_room (Nat.le_of_ble_eq_true rfl)) dX13_leave_82 ⟨(Nat.le_trans (Nat.le_of_ble_eq_true rfl) hRc), (Nat.le_trans (Nat.le_of_ble_eq_true rfl) hRs)⟩) hS (fun q _ h => hFc q h) hFc (fun r_68 M_69 t H_67 locs ht hvm hw hB hz1 hk1 hS => ?_)
              have hp_70 := hw
              obtain ⟨hP1, hD1⟩ := hB
              rw [ht] at hP1
              obtain ⟨hP, hD⟩ := va_joinP (X := [(za, (b13_0 0 z1 (nI z2) (nI z3) z4 z5 z6 z7 z8 z9 (nI z10) z11 z12 z13 z14 z15 (nI z16) z17 z18 z19))]) (cx := []) (wr := [(za, (b13_0 0 z1 (nI z2) (nI z3) z4 z5 z6 z7 z8 z9 (nI z10) z11 z12 z13 z14 z15 (nI z16) z17 z18 z19))]) (rx := []) (pl := va_pl L M) (pl1 := va_pl L M) hP hD [] [0] rfl rfl (by decide) (by decide) hk1 hFc hP1 hD1
              have hP : va_P D vwCl ([(za, (b13_0 0 z1 (nI z2) (nI z3) z4 z5 z6 z7 z8 z9 (nI z10) z11 z12 z13 z14 z15 (nI z16) z17 z18 z19))] ++ va_pl L M) H_67 := hP
              have hD : va_D A ([(za, (b13_0 0 z1 (nI z2) (nI z3) z4 z5 z6 z7 z8 z9 (nI z10) z11 z12 z13 z14 z15 (nI z16) z17 z18 z19))] ++ va_pl L M) := hD
              rcases hp_70 with ⟨rfl, c_71, c_72, c_73⟩ | ⟨rfl, c_74⟩
              · have hz := rfl (a := 0)
                refine lv_if_eq (tgt := 100) hx hb dX13_leave_85 (by decide) (fun c_75 => absurd c_75 (by decide)) (fun _ => ?_)
                refine lv_iload_n hx hb dX13_leave_88 rfl (lv_at hl 5 rfl) ?_
                refine lv_aload hx hb dX13_leave_89 (lv_at hl 1 rfl) ?_
                obtain ⟨v76, hv76, hc76⟩ : ∃ v : Nat, fs66[21]? = some (.ref v : Value) ∧ isk K L v 75 24 := hl66 21 (by decide)
                refine pg_getN (D := D) (ci := 12) (v := .ref v76) (C := RX12) (T := TX12) (N := 51) hx hb hg inG12 hown hK hP hb_17.1 hM66 rfl 21 (by decide) (hN.use (Cond.fieldLinkNest RX13 112 RX12 "begin" "[I" RX13) 30 rfl rfl) (fun _ h9 => h9) hv76 dX13_leave_91 ?_
                refine lv_iload hx hb dX13_leave_94 (lv_at hl 0 rfl) ?_
                obtain ⟨f77, hM77⟩ := hW.open_75 hc76
                refine pg_iald hx hb hK hP hc76.1 0 hM77 rfl (inbN j_24 24 (by omega) (by omega)) dX13_leave_96 ?_
                refine lv_topi (fun f_78 ef_78 => ?_)
                have hp21e : SY (k1 : Int32).toNatClampNeg 21 ((nI j_24) : Int32).toNatClampNeg = f_78 := by rw [← hZk.2, ax_of hM66 (by decide) hv76 hM77]; exact ef_78.symm
                have hp21 : (SY (k1 : Int32).toNatClampNeg 21 ((nI j_24) : Int32).toNatClampNeg).toInt = (f_78 : Int32).toInt := congrArg Int32.toInt hp21e
                have hb21 : (SY (k1 : Int32).toNatClampNeg 21 ((SY (k1 : Int32).toNatClampNeg 9 ((nI j_18) : Int32).toNatClampNeg).toInt - 1).toNat).toInt = (SY (k1 : Int32).toNatClampNeg 21 (nI j_24).toNatClampNeg).toInt := by rw [hsn, nI_cl (by omega)]
                refine lv_icmp_gt (tgt := 106) hx hb dX13_leave_97 (by decide) (fun c_79 => ?_) (fun c_79 => ?_)
                · have hz := rfl (a := 0)
                  refine lv_aload hx hb dX13_leave_106 (lv_at hl 1 rfl) ?_
                  obtain ⟨v80, hv80, hc80⟩ : ∃ v : Nat, fs66[22]? = some (.ref v : Value) ∧ isk K L v 41 24 := hl66 22 (by decide)
                  refine pg_getN (D := D) (ci := 12) (v := .ref v80) (C := RX12) (T := TX12) (N := 51) hx hb hg inG12 hown hK hP hb_17.1 hM66 rfl 22 (by decide) (hN.use (Cond.fieldLinkNest RX13 95 RX12 "ended" "[I" RX13) 31 rfl rfl) (fun _ h9 => h9) hv80 dX13_leave_108 ?_
                  refine lv_iload hx hb dX13_leave_111 (lv_at hl 0 rfl) ?_
                  refine lv_iload_n hx hb dX13_leave_113 rfl (lv_at hl 5 rfl) ?_
                  obtain ⟨f81, hM81⟩ := hW.open_41 hc80
                  refine pg_iast hx hb hK hP hD hS hc80.1 0 hM81 rfl (inbN j_24 24 (by omega) (by omega)) dX13_leave_114 (fun H_82 locs hP hD hS => ?_)
                  obtain ⟨M_83, eM_83⟩ : ∃ M1 : Hp, M1 = va_up M v80 (.inl (cy 14, 24, .inl (upd f81 ((nI j_24) : Int32).toNatClampNeg k3))) := ⟨_, rfl⟩
                  have hy22 : (ax M b15 22) = f81 := (congrFun hV.2.2.1 22).symm.trans (ax_of hM66 (by decide) hv80 hM81)
                  have hV : VW K L M M_83 b15 (fx M b15) (va_up (ax M b15) 22 (upd (ax M b15 22) ((nI j_24) : Int32).toNatClampNeg k3)) := by rw [eM_83]; exact hV.ast (j := 22) hW hb_17 hM66 (by decide) hv80 hc80 hM81
                  have hP : va_P D vwCl ([(za, (b13_0 0 z1 (nI z2) (nI z3) z4 z5 z6 z7 z8 z9 (nI z10) z11 z12 z13 z14 z15 (nI z16) z17 z18 z19))] ++ va_pl L M_83) H_82 := by rw [eM_83]; exact hP
                  have hD : va_D A ([(za, (b13_0 0 z1 (nI z2) (nI z3) z4 z5 z6 z7 z8 z9 (nI z10) z11 z12 z13 z14 z15 (nI z16) z17 z18 z19))] ++ va_pl L M_83) := by rw [eM_83]; exact hD
                  have hW : WOM cy K L M_83 := by rw [eM_83]; exact hW.up_41 hc80 ⟨_, rfl⟩
                  have hF : fr K L [14, 41, 42, 76] M M_83 := by rw [eM_83]; exact hF.up hc80 (by decide)
                  have hG : fG K L [] M M_83 := by rw [eM_83]; exact hG.arr hc80 (by decide)
                  have hM_84 : M_83 v80 = .inl (cy 14, 24, .inl (upd f81 ((nI j_24) : Int32).toNatClampNeg k3)) := by rw [eM_83]; exact va_up_self _ _ _
                  have hM_85 : M_83 z1 = .inl (cy 23, 8, .inr (.inr (.inr (.inr (f13))))) := by rw [eM_83, va_up_ne _ _ (i1.neT hc80 (by decide))]; exact hM13
                  have hM_86 : M_83 b15 = .inr (12, fs66) := by rw [eM_83, va_up_ne _ _ (hb_17.neT hc80 (by decide))]; exact hM66
                  have hM_87 : M_83 v76 = .inl (cy 14, 24, .inl (f77)) := by rw [eM_83, va_up_ne _ _ (hc76.neT hc80 (by decide))]; exact hM77
                  obtain ⟨f_88, ef_88⟩ : ∃ f : Nat → Int32, f = upd f81 ((nI j_24) : Int32).toNatClampNeg k3 := ⟨_, rfl⟩
                  rw [← ef_88] at hM_84
                  refine lv_aload hx hb dX13_leave_115 (lv_at hl 1 rfl) ?_
                  obtain ⟨v89, hv89, hc89⟩ : ∃ v : Nat, fs66[23]? = some (.ref v : Value) ∧ isk K L v 42 24 := hl66 23 (by decide)
                  refine pg_getN (D := D) (ci := 12) (v := .ref v89) (C := RX12) (T := TX12) (N := 51) hx hb hg inG12 hown hK hP hb_17.1 hM_86 rfl 23 (by decide) (hN.use (Cond.fieldLinkNest RX13 115 RX12 "instalments" "[I" RX13) 32 rfl rfl) (fun _ h9 => h9) hv89 dX13_leave_117 ?_
                  refine lv_iload hx hb dX13_leave_120 (lv_at hl 0 rfl) ?_
                  refine lv_iload hx hb dX13_leave_122 (lv_at hl 6 rfl) ?_
                  obtain ⟨f90, hM90⟩ := hW.open_42 hc89
                  refine pg_iast hx hb hK hP hD hS hc89.1 0 hM90 rfl (inbN j_24 24 (by omega) (by omega)) dX13_leave_124 (fun H_91 locs hP hD hS => ?_)
                  obtain ⟨M_92, eM_92⟩ : ∃ M1 : Hp, M1 = va_up M_83 v89 (.inl (cy 14, 24, .inl (upd f90 ((nI j_24) : Int32).toNatClampNeg k4))) := ⟨_, rfl⟩
                  have hy23 : (ax M b15 23) = f90 := (congrFun hV.2.2.1 23).symm.trans (ax_of hM_86 (by decide) hv89 hM90)
                  have hV : VW K L M M_92 b15 (fx M b15) (va_up (va_up (ax M b15) 22 (upd (ax M b15 22) ((nI j_24) : Int32).toNatClampNeg k3)) 23 (upd (ax M b15 23) ((nI j_24) : Int32).toNatClampNeg k4)) := by rw [eM_92]; exact hV.ast (j := 23) hW hb_17 hM_86 (by decide) hv89 hc89 hM90
                  have hP : va_P D vwCl ([(za, (b13_0 0 z1 (nI z2) (nI z3) z4 z5 z6 z7 z8 z9 (nI z10) z11 z12 z13 z14 z15 (nI z16) z17 z18 z19))] ++ va_pl L M_92) H_91 := by rw [eM_92]; exact hP
                  have hD : va_D A ([(za, (b13_0 0 z1 (nI z2) (nI z3) z4 z5 z6 z7 z8 z9 (nI z10) z11 z12 z13 z14 z15 (nI z16) z17 z18 z19))] ++ va_pl L M_92) := by rw [eM_92]; exact hD
                  have hW : WOM cy K L M_92 := by rw [eM_92]; exact hW.up_42 hc89 ⟨_, rfl⟩
                  have hF : fr K L [14, 41, 42, 76] M M_92 := by rw [eM_92]; exact hF.up hc89 (by decide)
                  have hG : fG K L [] M M_92 := by rw [eM_92]; exact hG.arr hc89 (by decide)
                  have hM_93 : M_92 v89 = .inl (cy 14, 24, .inl (upd f90 ((nI j_24) : Int32).toNatClampNeg k4)) := by rw [eM_92]; exact va_up_self _ _ _
                  have hM_94 : M_92 v80 = .inl (cy 14, 24, .inl (f_88)) := by rw [eM_92, va_up_ne _ _ (hc80.neT hc89 (by decide))]; exact hM_84
                  have hM_95 : M_92 z1 = .inl (cy 23, 8, .inr (.inr (.inr (.inr (f13))))) := by rw [eM_92, va_up_ne _ _ (i1.neT hc89 (by decide))]; exact hM_85
                  have hM_96 : M_92 b15 = .inr (12, fs66) := by rw [eM_92, va_up_ne _ _ (hb_17.neT hc89 (by decide))]; exact hM_86
                  have hM_97 : M_92 v76 = .inl (cy 14, 24, .inl (f77)) := by rw [eM_92, va_up_ne _ _ (hc76.neT hc89 (by decide))]; exact hM_87
                  obtain ⟨f_98, ef_98⟩ : ∃ f : Nat → Int32, f = upd f90 ((nI j_24) : Int32).toNatClampNeg k4 := ⟨_, rfl⟩
                  rw [← ef_98] at hM_93
                  refine lv_aload hx hb dX13_leave_125 (lv_at hl 1 rfl) ?_
                  obtain ⟨v99, hv99, hc99⟩ : ∃ v : Nat, fs66[24]? = some (.ref v : Value) ∧ isk K L v 76 24 := hl66 24 (by decide)
                  refine pg_getN (D := D) (ci := 12) (v := .ref v99) (C := RX12) (T := TX12) (N := 51) hx hb hg inG12 hown hK hP hb_17.1 hM_96 rfl 24 (by decide) (hN.use (Cond.fieldLinkNest RX13 118 RX12 "bears" "[I" RX13) 33 rfl rfl) (fun _ h9 => h9) hv99 dX13_leave_127 ?_
                  refine lv_iload hx hb dX13_leave_130 (lv_at hl 0 rfl) ?_
                  refine lv_iload hx hb dX13_leave_132 (lv_at hl 7 rfl) ?_
                  obtain ⟨f100, hM100⟩ := hW.open_76 hc99
                  refine pg_iast hx hb hK hP hD hS hc99.1 0 hM100 rfl (inbN j_24 24 (by omega) (by omega)) dX13_leave_134 (fun H_101 locs hP hD hS => ?_)
                  obtain ⟨M_102, eM_102⟩ : ∃ M1 : Hp, M1 = va_up M_92 v99 (.inl (cy 14, 24, .inl (upd f100 ((nI j_24) : Int32).toNatClampNeg k5))) := ⟨_, rfl⟩
                  have hy24 : (ax M b15 24) = f100 := (congrFun hV.2.2.1 24).symm.trans (ax_of hM_96 (by decide) hv99 hM100)
                  have hV : VW K L M M_102 b15 (fx M b15) (va_up (va_up (va_up (ax M b15) 22 (upd (ax M b15 22) ((nI j_24) : Int32).toNatClampNeg k3)) 23 (upd (ax M b15 23) ((nI j_24) : Int32).toNatClampNeg k4)) 24 (upd (ax M b15 24) ((nI j_24) : Int32).toNatClampNeg k5)) := by rw [eM_102]; exact hV.ast (j := 24) hW hb_17 hM_96 (by decide) hv99 hc99 hM100
                  have hP : va_P D vwCl ([(za, (b13_0 0 z1 (nI z2) (nI z3) z4 z5 z6 z7 z8 z9 (nI z10) z11 z12 z13 z14 z15 (nI z16) z17 z18 z19))] ++ va_pl L M_102) H_101 := by rw [eM_102]; exact hP
                  have hD : va_D A ([(za, (b13_0 0 z1 (nI z2) (nI z3) z4 z5 z6 z7 z8 z9 (nI z10) z11 z12 z13 z14 z15 (nI z16) z17 z18 z19))] ++ va_pl L M_102) := by rw [eM_102]; exact hD
                  have hW : WOM cy K L M_102 := by rw [eM_102]; exact hW.up_76 hc99 ⟨_, rfl⟩
                  have hF : fr K L [14, 41, 42, 76] M M_102 := by rw [eM_102]; exact hF.up hc99 (by decide)
                  have hG : fG K L [] M M_102 := by rw [eM_102]; exact hG.arr hc99 (by decide)
                  have hM_103 : M_102 v99 = .inl (cy 14, 24, .inl (upd f100 ((nI j_24) : Int32).toNatClampNeg k5)) := by rw [eM_102]; exact va_up_self _ _ _
                  have hM_104 : M_102 v89 = .inl (cy 14, 24, .inl (f_98)) := by rw [eM_102, va_up_ne _ _ (hc89.neT hc99 (by decide))]; exact hM_93
                  have hM_105 : M_102 v80 = .inl (cy 14, 24, .inl (f_88)) := by rw [eM_102, va_up_ne _ _ (hc80.neT hc99 (by decide))]; exact hM_94
                  have hM_106 : M_102 z1 = .inl (cy 23, 8, .inr (.inr (.inr (.inr (f13))))) := by rw [eM_102, va_up_ne _ _ (i1.neT hc99 (by decide))]; exact hM_95
                  have hM_107 : M_102 b15 = .inr (12, fs66) := by rw [eM_102, va_up_ne _ _ (hb_17.neT hc99 (by decide))]; exact hM_96
                  have hM_108 : M_102 v76 = .inl (cy 14, 24, .inl (f77)) := by rw [eM_102, va_up_ne _ _ (hc76.neT hc99 (by decide))]; exact hM_97
                  obtain ⟨f_109, ef_109⟩ : ∃ f : Nat → Int32, f = upd f100 ((nI j_24) : Int32).toNatClampNeg k5 := ⟨_, rfl⟩
                  rw [← ef_109] at hM_103
                  refine lv_aload_n hx hb dX13_leave_135 rfl (lv_at hl 2 rfl) ?_
                  refine lv_iload hx hb dX13_leave_136 (lv_at hl 0 rfl) ?_
                  have hPc := hP.sub (ws' := [(za, (b13_0 0 z1 (nI z2) (nI z3) z4 z5 z6 z7 z8 z9 (nI z10) z11 z12 z13 z14 z15 (nI z16) z17 z18 z19))]) [0] rfl
                  have hDc := hD.sub (ws' := [(za, (b13_0 0 z1 (nI z2) (nI z3) z4 z5 z6 z7 z8 z9 (nI z10) z11 z12 z13 z14 z15 (nI z16) z17 z18 z19))]) [0] (by decide) rfl
                  have hKc := hK.sub (tys' := []) [] rfl
                  have hFc := va_free (wc := [(za, (b13_0 0 z1 (nI z2) (nI z3) z4 z5 z6 z7 z8 z9 (nI z10) z11 z12 z13 z14 z15 (nI z16) z17 z18 z19))]) hD hS hA [0] rfl
                  refine va_calli (va_runV (As := [.int (nI j_24)]) (rest := []) ⟨hx, hb, hml, hown, hg⟩ (m_done l D H_101.size za 0 z1 (nI z2) (nI z3) z4 z5 z6 z7 z8 z9 (nI z10) z11 z12 z13 z14 z15 (nI z16) z17 z18 z19 (nI j_24)) (cwV 1 hg (gV wd_730 wd_731 wd_732 wd_717 wd_733) rfl rfl rfl (by decide +kernel) ⟨(Nat.le_trans (Nat.le_of_ble_eq_true rfl) hRf), (Nat.le_trans (Nat.le_of_ble_eq_true rfl) hRl)⟩) ⟨Pr.blind, va_recv hK hP (ci := 13) (q0 := 0) rfl rfl, fun U hU hW => ⟨rfl, Pr.at hPc hKc hDc hN hU hW⟩⟩ rfl rfl hl.1 rfl (lv_room (Nat.le_of_ble_eq_true rfl)) dX13_leave_138 ⟨(Nat.le_trans (Nat.le_of_ble_eq_true rfl) hRc), (Nat.le_trans (Nat.le_of_ble_eq_true rfl) hRs)⟩) hS (fun q _ h => hFc q h) hFc (fun r_111 M_112 t H_110 locs ht hvm hw hB hz1 hk1 hS => ?_)
                  have hp_113 := hw
                  obtain ⟨hP1, hK1, hD1⟩ := hB
                  rw [ht] at hP1
                  obtain ⟨hP, hD⟩ := va_joinQ (X := [(za, (b13_0 0 z1 (nI z2) (nI z3) z4 z5 z6 z7 z8 z9 (nI z10) z11 z12 z13 z14 z15 (nI z16) z17 z18 z19))]) (cx := [(za, (b13_0 0 z1 (nI z2) (nI z3) z4 z5 z6 z7 z8 z9 (nI z10) z11 z12 z13 z14 z15 (nI z16) z17 z18 z19))]) (wr := []) (w1 := [(za, (b13_0 0 z1 (nI z2) (nI z3) 0 (-1) z6 z7 z8 z9 (nI z10) z11 z12 z13 z14 z15 (nI z16) z17 z18 z19))]) (pl := va_pl L M_102) hP hD [0] [] rfl rfl (by decide) (by decide) hk1 hFc hP1 hD1
                  have hP : va_P D vwCl ([(za, (b13_0 0 z1 (nI z2) (nI z3) 0 (-1) z6 z7 z8 z9 (nI z10) z11 z12 z13 z14 z15 (nI z16) z17 z18 z19))] ++ va_pl L M_102) H_110 := hP
                  have hD : va_D A ([(za, (b13_0 0 z1 (nI z2) (nI z3) 0 (-1) z6 z7 z8 z9 (nI z10) z11 z12 z13 z14 z15 (nI z16) z17 z18 z19))] ++ va_pl L M_102) := hD
                  have hq := Eq.symm hp_113
                  subst hq
                  have hI_114 : (0 : Int) ≤ (k1 : Int32).toInt := inltI rfl rfl c_7
                  have hI_115 : (k1 : Int32).toInt < ((z2 : Nat) : Int) := inleI (nI_toInt (by omega)) rfl c_8
                  have hI_116 : (0 : Int) ≤ ((j_18 : Nat) : Int) := inltI (nI_toInt (by omega)) rfl c_9
                  have hI_117 : ((j_18 : Nat) : Int) < (6 : Int) := inleI rfl (nI_toInt (by omega)) c_10
                  have hI_118 : (1 : Int) ≤ (k4 : Int32).toInt := inltI rfl rfl c_30
                  have hI_119 : (k4 : Int32).toInt ≤ (10 : Int) := inltI rfl rfl c_40
                  have hI_120 : (0 : Int) ≤ (k5 : Int32).toInt := inltI rfl rfl c_53
                  have hI_121 : (k5 : Int32).toInt ≤ (5 : Int) := ileI rfl rfl c_65
                  have hI_122 : (0 : Int) ≤ (k3 : Int32).toInt := inltI rfl rfl c_72
                  have hI_123 : (k3 : Int32).toInt < (1000 : Int) := inleI rfl rfl c_73
                  have hI_124 : (f_78 : Int32).toInt < (k3 : Int32).toInt := iltI rfl rfl c_79
                  have hn92 : ((nI j_18) : Int32).toInt = ((j_18 : Nat) : Int) := nI_toInt (by omega)
                  have hyes : okLv z2 SX SY k1 (nI j_18) k3 k4 k5 := by unfold okLv okHS; refine ⟨⟨?_, ?_, ?_, ?_⟩, ?_, ?_, ?_, ?_, ?_, ?_, ?_, ?_⟩ <;> first | omega | assumption
                  have hA9 : HA (ax M b15 2) (ax M b15 3) := hAT.1
                  have hB9 : HB (fx M b15 16) (fx M b15 14) (ax M b15 3) (ax M b15 43) := hAT.2.1
                  have hC9 : HC (fx M b15 10) (upd (ax M b15 22) ((nI j_24) : Int32).toNatClampNeg k3) (upd (ax M b15 23) ((nI j_24) : Int32).toNatClampNeg k4) := HC.st hAT.2.2.1 (by first | decide | exact ge1 (by assumption) | (rw [nI_toInt (by omega)]; omega))
                  have hD9 : HD (fx M b15 0) (fx M b15 11) (fx M b15 15) (ax M b15 34) (ax M b15 41) := hAT.2.2.2.1
                  have hE9 : HE (fx M b15 0) (fx M b15 1) (fx M b15 12) (fx M b15 13) (ax M b15 37) := hAT.2.2.2.2
                  have hH9 : HI (fx M b15) (va_up (va_up (va_up (ax M b15) 22 (upd (ax M b15 22) ((nI j_24) : Int32).toNatClampNeg k3)) 23 (upd (ax M b15 23) ((nI j_24) : Int32).toNatClampNeg k4)) 24 (upd (ax M b15 24) ((nI j_24) : Int32).toNatClampNeg k5)) := ⟨hA9, hB9, hC9, hD9, hE9⟩
                  have hGI9 : GI K L z1 z2 M_102 := GI.fin hW0 i1 b2 hGI hact hV (hF.at i1 (by decide)) hH9
                  rw [hQ]
                  exact W.iret (v := (nI j_24)) hx hb hr (fun t ht hW9 => ⟨⟨(nI j_24), M_102, rfl, ⟨hW, hF, hG, ⟨hGI9, (by unfold syLv; rw [if_pos hyes, show stN SY k1 (nI j_18) = j_24 from hsn]; have hQ9 := ZSx.fin hW0 i1 b2 hZS hGI.1 hkn hb9 hV (hF.at i1 (by decide)) (hZk.1) ((by rw [hZk.2, nI_cl (t := j_24) (by omega)])); rw [va_upJ] at hQ9; exact hQ9)⟩, (by unfold anLv; rw [if_pos hyes]; exact congrArg nI hsn.symm)⟩, ⟨0, by rw [ht]; exact hP, hD⟩⟩, hS.F ht⟩) hS.2.2 dX13_leave_141
                · have hz := rfl (a := 0)
                  refine lv_aload_n hx hb dX13_leave_100 rfl (lv_at hl 2 rfl) ?_
                  refine lv_iconst (v := 3) hx hb dX13_leave_101 (by decide) ?_
                  have hPc := hP.sub (ws' := [(za, (b13_0 0 z1 (nI z2) (nI z3) z4 z5 z6 z7 z8 z9 (nI z10) z11 z12 z13 z14 z15 (nI z16) z17 z18 z19))]) [0] rfl
                  have hDc := hD.sub (ws' := [(za, (b13_0 0 z1 (nI z2) (nI z3) z4 z5 z6 z7 z8 z9 (nI z10) z11 z12 z13 z14 z15 (nI z16) z17 z18 z19))]) [0] (by decide) rfl
                  have hKc := hK.sub (tys' := []) [] rfl
                  have hFc := va_free (wc := [(za, (b13_0 0 z1 (nI z2) (nI z3) z4 z5 z6 z7 z8 z9 (nI z10) z11 z12 z13 z14 z15 (nI z16) z17 z18 z19))]) hD hS hA [0] rfl
                  refine va_calli (va_runV (As := [.int 3]) (rest := []) ⟨hx, hb, hml, hown, hg⟩ (m_refused l D H_67.size za 0 z1 (nI z2) (nI z3) z4 z5 z6 z7 z8 z9 (nI z10) z11 z12 z13 z14 z15 (nI z16) z17 z18 z19 3) (cwV 1 hg (gV wd_725 wd_726 wd_727 wd_717 wd_728) rfl rfl rfl (by decide +kernel) ⟨(Nat.le_trans (Nat.le_of_ble_eq_true rfl) hRf), (Nat.le_trans (Nat.le_of_ble_eq_true rfl) hRl)⟩) ⟨Pr.blind, va_recv hK hP (ci := 13) (q0 := 0) rfl rfl, fun U hU hW => ⟨rfl, Pr.at hPc hKc hDc hN hU hW⟩⟩ rfl rfl hl.1 rfl (lv_room (Nat.le_of_ble_eq_true rfl)) dX13_leave_102 ⟨(Nat.le_trans (Nat.le_of_ble_eq_true rfl) hRc), (Nat.le_trans (Nat.le_of_ble_eq_true rfl) hRs)⟩) hS (fun q _ h => hFc q h) hFc (fun r_126 M_127 t H_125 locs ht hvm hw hB hz1 hk1 hS => ?_)
                  have hp_128 := hw
                  obtain ⟨hP1, hK1, hD1⟩ := hB
                  rw [ht] at hP1
                  obtain ⟨hP, hD⟩ := va_joinQ (X := [(za, (b13_0 0 z1 (nI z2) (nI z3) z4 z5 z6 z7 z8 z9 (nI z10) z11 z12 z13 z14 z15 (nI z16) z17 z18 z19))]) (cx := [(za, (b13_0 0 z1 (nI z2) (nI z3) z4 z5 z6 z7 z8 z9 (nI z10) z11 z12 z13 z14 z15 (nI z16) z17 z18 z19))]) (wr := []) (w1 := [(za, (b13_0 0 z1 (nI z2) (nI z3) 3 (-1) z6 z7 z8 z9 (nI z10) z11 z12 z13 z14 z15 (nI z16) z17 z18 z19))]) (pl := va_pl L M) hP hD [0] [] rfl rfl (by decide) (by decide) hk1 hFc hP1 hD1
                  have hP : va_P D vwCl ([(za, (b13_0 0 z1 (nI z2) (nI z3) 3 (-1) z6 z7 z8 z9 (nI z10) z11 z12 z13 z14 z15 (nI z16) z17 z18 z19))] ++ va_pl L M) H_125 := hP
                  have hD : va_D A ([(za, (b13_0 0 z1 (nI z2) (nI z3) 3 (-1) z6 z7 z8 z9 (nI z10) z11 z12 z13 z14 z15 (nI z16) z17 z18 z19))] ++ va_pl L M) := hD
                  have hq := Eq.symm hp_128
                  subst hq
                  have hI_129 : (0 : Int) ≤ (k1 : Int32).toInt := inltI rfl rfl c_7
                  have hI_130 : (k1 : Int32).toInt < ((z2 : Nat) : Int) := inleI (nI_toInt (by omega)) rfl c_8
                  have hI_131 : (0 : Int) ≤ ((j_18 : Nat) : Int) := inltI (nI_toInt (by omega)) rfl c_9
                  have hI_132 : ((j_18 : Nat) : Int) < (6 : Int) := inleI rfl (nI_toInt (by omega)) c_10
                  have hI_133 : (1 : Int) ≤ (k4 : Int32).toInt := inltI rfl rfl c_30
                  have hI_134 : (k4 : Int32).toInt ≤ (10 : Int) := inltI rfl rfl c_40
                  have hI_135 : (0 : Int) ≤ (k5 : Int32).toInt := inltI rfl rfl c_53
                  have hI_136 : (k5 : Int32).toInt ≤ (5 : Int) := ileI rfl rfl c_65
                  have hI_137 : (0 : Int) ≤ (k3 : Int32).toInt := inltI rfl rfl c_72
                  have hI_138 : (k3 : Int32).toInt < (1000 : Int) := inleI rfl rfl c_73
                  have hI_139 : (k3 : Int32).toInt ≤ (f_78 : Int32).toInt := inltI rfl rfl c_79
                  have hn92 : ((nI j_18) : Int32).toInt = ((j_18 : Nat) : Int) := nI_toInt (by omega)
                  have hno : ¬ okLv z2 SX SY k1 (nI j_18) k3 k4 k5 := fun q9 => by unfold okLv okHS at q9; first | omega | (obtain ⟨⟨_, _, _, _⟩, _, _, _, _, _, _, _, _⟩ := q9; first | omega | contradiction)
                  rw [hQ]
                  exact W.iret (v := (-1)) hx hb hr (fun t ht hW9 => ⟨⟨(-1), M, rfl, ⟨hW, hF, hG, ⟨hGI, (by unfold syLv; rw [if_neg hno]; exact hZS)⟩, (by unfold anLv; rw [if_neg hno])⟩, ⟨3, by rw [ht]; exact hP, hD⟩⟩, hS.F ht⟩) hS.2.2 dX13_leave_105
              · have hz := rfl (a := 0)
                refine lv_if_eq (tgt := 100) hx hb dX13_leave_85 (by decide) (fun _ => ?_) (fun c_140 => absurd c_140 (by decide))
                refine lv_aload_n hx hb dX13_leave_100 rfl (lv_at hl 2 rfl) ?_
                refine lv_iconst (v := 3) hx hb dX13_leave_101 (by decide) ?_
                have hPc := hP.sub (ws' := [(za, (b13_0 0 z1 (nI z2) (nI z3) z4 z5 z6 z7 z8 z9 (nI z10) z11 z12 z13 z14 z15 (nI z16) z17 z18 z19))]) [0] rfl
                have hDc := hD.sub (ws' := [(za, (b13_0 0 z1 (nI z2) (nI z3) z4 z5 z6 z7 z8 z9 (nI z10) z11 z12 z13 z14 z15 (nI z16) z17 z18 z19))]) [0] (by decide) rfl
                have hKc := hK.sub (tys' := []) [] rfl
                have hFc := va_free (wc := [(za, (b13_0 0 z1 (nI z2) (nI z3) z4 z5 z6 z7 z8 z9 (nI z10) z11 z12 z13 z14 z15 (nI z16) z17 z18 z19))]) hD hS hA [0] rfl
                refine va_calli (va_runV (As := [.int 3]) (rest := []) ⟨hx, hb, hml, hown, hg⟩ (m_refused l D H_67.size za 0 z1 (nI z2) (nI z3) z4 z5 z6 z7 z8 z9 (nI z10) z11 z12 z13 z14 z15 (nI z16) z17 z18 z19 3) (cwV 1 hg (gV wd_725 wd_726 wd_727 wd_717 wd_728) rfl rfl rfl (by decide +kernel) ⟨(Nat.le_trans (Nat.le_of_ble_eq_true rfl) hRf), (Nat.le_trans (Nat.le_of_ble_eq_true rfl) hRl)⟩) ⟨Pr.blind, va_recv hK hP (ci := 13) (q0 := 0) rfl rfl, fun U hU hW => ⟨rfl, Pr.at hPc hKc hDc hN hU hW⟩⟩ rfl rfl hl.1 rfl (lv_room (Nat.le_of_ble_eq_true rfl)) dX13_leave_102 ⟨(Nat.le_trans (Nat.le_of_ble_eq_true rfl) hRc), (Nat.le_trans (Nat.le_of_ble_eq_true rfl) hRs)⟩) hS (fun q _ h => hFc q h) hFc (fun r_142 M_143 t H_141 locs ht hvm hw hB hz1 hk1 hS => ?_)
                have hp_144 := hw
                obtain ⟨hP1, hK1, hD1⟩ := hB
                rw [ht] at hP1
                obtain ⟨hP, hD⟩ := va_joinQ (X := [(za, (b13_0 0 z1 (nI z2) (nI z3) z4 z5 z6 z7 z8 z9 (nI z10) z11 z12 z13 z14 z15 (nI z16) z17 z18 z19))]) (cx := [(za, (b13_0 0 z1 (nI z2) (nI z3) z4 z5 z6 z7 z8 z9 (nI z10) z11 z12 z13 z14 z15 (nI z16) z17 z18 z19))]) (wr := []) (w1 := [(za, (b13_0 0 z1 (nI z2) (nI z3) 3 (-1) z6 z7 z8 z9 (nI z10) z11 z12 z13 z14 z15 (nI z16) z17 z18 z19))]) (pl := va_pl L M) hP hD [0] [] rfl rfl (by decide) (by decide) hk1 hFc hP1 hD1
                have hP : va_P D vwCl ([(za, (b13_0 0 z1 (nI z2) (nI z3) 3 (-1) z6 z7 z8 z9 (nI z10) z11 z12 z13 z14 z15 (nI z16) z17 z18 z19))] ++ va_pl L M) H_141 := hP
                have hD : va_D A ([(za, (b13_0 0 z1 (nI z2) (nI z3) 3 (-1) z6 z7 z8 z9 (nI z10) z11 z12 z13 z14 z15 (nI z16) z17 z18 z19))] ++ va_pl L M) := hD
                have hq := Eq.symm hp_144
                subst hq
                have hI_145 : (0 : Int) ≤ (k1 : Int32).toInt := inltI rfl rfl c_7
                have hI_146 : (k1 : Int32).toInt < ((z2 : Nat) : Int) := inleI (nI_toInt (by omega)) rfl c_8
                have hI_147 : (0 : Int) ≤ ((j_18 : Nat) : Int) := inltI (nI_toInt (by omega)) rfl c_9
                have hI_148 : ((j_18 : Nat) : Int) < (6 : Int) := inleI rfl (nI_toInt (by omega)) c_10
                have hI_149 : (1 : Int) ≤ (k4 : Int32).toInt := inltI rfl rfl c_30
                have hI_150 : (k4 : Int32).toInt ≤ (10 : Int) := inltI rfl rfl c_40
                have hI_151 : (0 : Int) ≤ (k5 : Int32).toInt := inltI rfl rfl c_53
                have hI_152 : (k5 : Int32).toInt ≤ (5 : Int) := ileI rfl rfl c_65
                have hn92 : ((nI j_18) : Int32).toInt = ((j_18 : Nat) : Int) := nI_toInt (by omega)
                have hno : ¬ okLv z2 SX SY k1 (nI j_18) k3 k4 k5 := fun q9 => by unfold okLv okHS at q9; first | omega | (obtain ⟨⟨_, _, _, _⟩, _, _, _, _, _, _, _, _⟩ := q9; first | omega | contradiction)
                rw [hQ]
                exact W.iret (v := (-1)) hx hb hr (fun t ht hW9 => ⟨⟨(-1), M, rfl, ⟨hW, hF, hG, ⟨hGI, (by unfold syLv; rw [if_neg hno]; exact hZS)⟩, (by unfold anLv; rw [if_neg hno])⟩, ⟨3, by rw [ht]; exact hP, hD⟩⟩, hS.F ht⟩) hS.2.2 dX13_leave_105
            · have hz := rfl (a := 0)
              have n_153 : ¬ k5 < 0 := gtN (c := 5) (by omega) (Int32.not_le.mp c_65)
              refine lv_aload_n hx hb dX13_leave_73 rfl (lv_at hl 2 rfl) ?_
              refine lv_iconst (v := 2) hx hb dX13_leave_74 (by decide) ?_
              have hPc := hP.sub (ws' := [(za, (b13_0 0 z1 (nI z2) (nI z3) z4 z5 z6 z7 z8 z9 (nI z10) z11 z12 z13 z14 z15 (nI z16) z17 z18 z19))]) [0] rfl
              have hDc := hD.sub (ws' := [(za, (b13_0 0 z1 (nI z2) (nI z3) z4 z5 z6 z7 z8 z9 (nI z10) z11 z12 z13 z14 z15 (nI z16) z17 z18 z19))]) [0] (by decide) rfl
              have hKc := hK.sub (tys' := []) [] rfl
              have hFc := va_free (wc := [(za, (b13_0 0 z1 (nI z2) (nI z3) z4 z5 z6 z7 z8 z9 (nI z10) z11 z12 z13 z14 z15 (nI z16) z17 z18 z19))]) hD hS hA [0] rfl
              refine va_calli (va_runV (As := [.int 2]) (rest := []) ⟨hx, hb, hml, hown, hg⟩ (m_refused l D H_20.size za 0 z1 (nI z2) (nI z3) z4 z5 z6 z7 z8 z9 (nI z10) z11 z12 z13 z14 z15 (nI z16) z17 z18 z19 2) (cwV 1 hg (gV wd_725 wd_726 wd_727 wd_717 wd_728) rfl rfl rfl (by decide +kernel) ⟨(Nat.le_trans (Nat.le_of_ble_eq_true rfl) hRf), (Nat.le_trans (Nat.le_of_ble_eq_true rfl) hRl)⟩) ⟨Pr.blind, va_recv hK hP (ci := 13) (q0 := 0) rfl rfl, fun U hU hW => ⟨rfl, Pr.at hPc hKc hDc hN hU hW⟩⟩ rfl rfl hl.1 rfl (lv_room (Nat.le_of_ble_eq_true rfl)) dX13_leave_75 ⟨(Nat.le_trans (Nat.le_of_ble_eq_true rfl) hRc), (Nat.le_trans (Nat.le_of_ble_eq_true rfl) hRs)⟩) hS (fun q _ h => hFc q h) hFc (fun r_155 M_156 t H_154 locs ht hvm hw hB hz1 hk1 hS => ?_)
              have hp_157 := hw
              obtain ⟨hP1, hK1, hD1⟩ := hB
              rw [ht] at hP1
              obtain ⟨hP, hD⟩ := va_joinQ (X := [(za, (b13_0 0 z1 (nI z2) (nI z3) z4 z5 z6 z7 z8 z9 (nI z10) z11 z12 z13 z14 z15 (nI z16) z17 z18 z19))]) (cx := [(za, (b13_0 0 z1 (nI z2) (nI z3) z4 z5 z6 z7 z8 z9 (nI z10) z11 z12 z13 z14 z15 (nI z16) z17 z18 z19))]) (wr := []) (w1 := [(za, (b13_0 0 z1 (nI z2) (nI z3) 2 (-1) z6 z7 z8 z9 (nI z10) z11 z12 z13 z14 z15 (nI z16) z17 z18 z19))]) (pl := va_pl L M) hP hD [0] [] rfl rfl (by decide) (by decide) hk1 hFc hP1 hD1
              have hP : va_P D vwCl ([(za, (b13_0 0 z1 (nI z2) (nI z3) 2 (-1) z6 z7 z8 z9 (nI z10) z11 z12 z13 z14 z15 (nI z16) z17 z18 z19))] ++ va_pl L M) H_154 := hP
              have hD : va_D A ([(za, (b13_0 0 z1 (nI z2) (nI z3) 2 (-1) z6 z7 z8 z9 (nI z10) z11 z12 z13 z14 z15 (nI z16) z17 z18 z19))] ++ va_pl L M) := hD
              have hq := Eq.symm hp_157
              subst hq
              have hI_158 : (0 : Int) ≤ (k1 : Int32).toInt := inltI rfl rfl c_7
              have hI_159 : (k1 : Int32).toInt < ((z2 : Nat) : Int) := inleI (nI_toInt (by omega)) rfl c_8
              have hI_160 : (0 : Int) ≤ ((j_18 : Nat) : Int) := inltI (nI_toInt (by omega)) rfl c_9
              have hI_161 : ((j_18 : Nat) : Int) < (6 : Int) := inleI rfl (nI_toInt (by omega)) c_10
              have hI_162 : (1 : Int) ≤ (k4 : Int32).toInt := inltI rfl rfl c_30
              have hI_163 : (k4 : Int32).toInt ≤ (10 : Int) := inltI rfl rfl c_40
              have hI_164 : (0 : Int) ≤ (k5 : Int32).toInt := inltI rfl rfl c_53
              have hI_165 : (5 : Int) < (k5 : Int32).toInt := inleI rfl rfl c_65
              have hI_166 : (0 : Int) ≤ (k5 : Int32).toInt := inltI rfl rfl n_153
              have hn92 : ((nI j_18) : Int32).toInt = ((j_18 : Nat) : Int) := nI_toInt (by omega)
              have hno : ¬ okLv z2 SX SY k1 (nI j_18) k3 k4 k5 := fun q9 => by unfold okLv okHS at q9; first | omega | (obtain ⟨⟨_, _, _, _⟩, _, _, _, _, _, _, _, _⟩ := q9; first | omega | contradiction)
              rw [hQ]
              exact W.iret (v := (-1)) hx hb hr (fun t ht hW9 => ⟨⟨(-1), M, rfl, ⟨hW, hF, hG, ⟨hGI, (by unfold syLv; rw [if_neg hno]; exact hZS)⟩, (by unfold anLv; rw [if_neg hno])⟩, ⟨2, by rw [ht]; exact hP, hD⟩⟩, hS.F ht⟩) hS.2.2 dX13_leave_78
    · have hz := rfl (a := 0)
      have hhs : ¬ hold (SY (k1 : Int32).toNatClampNeg) ((nI j_18) : Int32).toNatClampNeg := by rw [← hZk.2, nI_cl (by omega)]; exact c_28
      refine lv_istore (lv' := [(7, .int (-1)), (6, .ref b15), (0, .ref za), (1, .int k1), (2, .int (nI j_18)), (3, .int k3), (4, .int k4), (5, .int k5)]) hx hb dX13_leave_35 hl (by decide) rfl (fun ls hl => ?_)
      refine lv_iload hx hb dX13_leave_37 (lv_at hl 0 rfl) ?_
      refine lv_iconst (v := (-1)) hx hb dX13_leave_39 (by decide) ?_
      refine lv_icmp_ne (tgt := 49) hx hb dX13_leave_40 (by decide) (fun c_167 => absurd c_167 (by decide)) (fun _ => ?_)
      refine lv_aload_n hx hb dX13_leave_43 rfl (lv_at hl 2 rfl) ?_
      refine lv_iconst (v := 4) hx hb dX13_leave_44 (by decide) ?_
      have hPc := hP.sub (ws' := [(za, (b13_0 0 z1 (nI z2) (nI z3) z4 z5 z6 z7 z8 z9 (nI z10) z11 z12 z13 z14 z15 (nI z16) z17 z18 z19))]) [0] rfl
      have hDc := hD.sub (ws' := [(za, (b13_0 0 z1 (nI z2) (nI z3) z4 z5 z6 z7 z8 z9 (nI z10) z11 z12 z13 z14 z15 (nI z16) z17 z18 z19))]) [0] (by decide) rfl
      have hKc := hK.sub (tys' := []) [] rfl
      have hFc := va_free (wc := [(za, (b13_0 0 z1 (nI z2) (nI z3) z4 z5 z6 z7 z8 z9 (nI z10) z11 z12 z13 z14 z15 (nI z16) z17 z18 z19))]) hD hS hA [0] rfl
      refine va_calli (va_runV (As := [.int 4]) (rest := []) ⟨hx, hb, hml, hown, hg⟩ (m_refused l D H_20.size za 0 z1 (nI z2) (nI z3) z4 z5 z6 z7 z8 z9 (nI z10) z11 z12 z13 z14 z15 (nI z16) z17 z18 z19 4) (cwV 1 hg (gV wd_725 wd_726 wd_727 wd_717 wd_728) rfl rfl rfl (by decide +kernel) ⟨(Nat.le_trans (Nat.le_of_ble_eq_true rfl) hRf), (Nat.le_trans (Nat.le_of_ble_eq_true rfl) hRl)⟩) ⟨Pr.blind, va_recv hK hP (ci := 13) (q0 := 0) rfl rfl, fun U hU hW => ⟨rfl, Pr.at hPc hKc hDc hN hU hW⟩⟩ rfl rfl hl.1 rfl (lv_room (Nat.le_of_ble_eq_true rfl)) dX13_leave_45 ⟨(Nat.le_trans (Nat.le_of_ble_eq_true rfl) hRc), (Nat.le_trans (Nat.le_of_ble_eq_true rfl) hRs)⟩) hS (fun q _ h => hFc q h) hFc (fun r_169 M_170 t H_168 locs ht hvm hw hB hz1 hk1 hS => ?_)
      have hp_171 := hw
      obtain ⟨hP1, hK1, hD1⟩ := hB
      rw [ht] at hP1
      obtain ⟨hP, hD⟩ := va_joinQ (X := [(za, (b13_0 0 z1 (nI z2) (nI z3) z4 z5 z6 z7 z8 z9 (nI z10) z11 z12 z13 z14 z15 (nI z16) z17 z18 z19))]) (cx := [(za, (b13_0 0 z1 (nI z2) (nI z3) z4 z5 z6 z7 z8 z9 (nI z10) z11 z12 z13 z14 z15 (nI z16) z17 z18 z19))]) (wr := []) (w1 := [(za, (b13_0 0 z1 (nI z2) (nI z3) 4 (-1) z6 z7 z8 z9 (nI z10) z11 z12 z13 z14 z15 (nI z16) z17 z18 z19))]) (pl := va_pl L M) hP hD [0] [] rfl rfl (by decide) (by decide) hk1 hFc hP1 hD1
      have hP : va_P D vwCl ([(za, (b13_0 0 z1 (nI z2) (nI z3) 4 (-1) z6 z7 z8 z9 (nI z10) z11 z12 z13 z14 z15 (nI z16) z17 z18 z19))] ++ va_pl L M) H_168 := hP
      have hD : va_D A ([(za, (b13_0 0 z1 (nI z2) (nI z3) 4 (-1) z6 z7 z8 z9 (nI z10) z11 z12 z13 z14 z15 (nI z16) z17 z18 z19))] ++ va_pl L M) := hD
      have hq := Eq.symm hp_171
      subst hq
      have hI_172 : (0 : Int) ≤ (k1 : Int32).toInt := inltI rfl rfl c_7
      have hI_173 : (k1 : Int32).toInt < ((z2 : Nat) : Int) := inleI (nI_toInt (by omega)) rfl c_8
      have hI_174 : (0 : Int) ≤ ((j_18 : Nat) : Int) := inltI (nI_toInt (by omega)) rfl c_9
      have hI_175 : ((j_18 : Nat) : Int) < (6 : Int) := inleI rfl (nI_toInt (by omega)) c_10
      have hn92 : ((nI j_18) : Int32).toInt = ((j_18 : Nat) : Int) := nI_toInt (by omega)
      have hno : ¬ okLv z2 SX SY k1 (nI j_18) k3 k4 k5 := fun q9 => by unfold okLv okHS at q9; first | omega | (obtain ⟨⟨_, _, _, _⟩, _, _, _, _, _, _, _, _⟩ := q9; first | omega | contradiction)
      rw [hQ]
      exact W.iret (v := (-1)) hx hb hr (fun t ht hW9 => ⟨⟨(-1), M, rfl, ⟨hW, hF, hG, ⟨hGI, (by unfold syLv; rw [if_neg hno]; exact hZS)⟩, (by unfold anLv; rw [if_neg hno])⟩, ⟨4, by rw [ht]; exact hP, hD⟩⟩, hS.F ht⟩) hS.2.2 dX13_leave_48
  · have hz := rfl (a := 0)
    refine lv_if_ne (tgt := 20) hx hb dX13_leave_11 (by decide) (fun c_176 => absurd c_176 (by decide)) (fun _ => ?_)
    refine lv_aload_n hx hb dX13_leave_14 rfl (lv_at hl 0 rfl) ?_
    refine lv_iconst (v := 1) hx hb dX13_leave_15 (by decide) ?_
    have hPc := hP.sub (ws' := [(za, (b13_0 0 z1 (nI z2) (nI z3) z4 z5 z6 z7 z8 z9 (nI z10) z11 z12 z13 z14 z15 (nI z16) z17 z18 z19))]) [0] rfl
    have hDc := hD.sub (ws' := [(za, (b13_0 0 z1 (nI z2) (nI z3) z4 z5 z6 z7 z8 z9 (nI z10) z11 z12 z13 z14 z15 (nI z16) z17 z18 z19))]) [0] (by decide) rfl
    have hKc := hK.sub (tys' := []) [] rfl
    have hFc := va_free (wc := [(za, (b13_0 0 z1 (nI z2) (nI z3) z4 z5 z6 z7 z8 z9 (nI z10) z11 z12 z13 z14 z15 (nI z16) z17 z18 z19))]) hD hS hA [0] rfl
    refine va_calli (va_runV (As := [.int 1]) (rest := []) ⟨hx, hb, hml, hown, hg⟩ (m_refused l D H_2.size za 0 z1 (nI z2) (nI z3) z4 z5 z6 z7 z8 z9 (nI z10) z11 z12 z13 z14 z15 (nI z16) z17 z18 z19 1) (cwV 1 hg (gV wd_725 wd_726 wd_727 wd_717 wd_728) rfl rfl rfl (by decide +kernel) ⟨(Nat.le_trans (Nat.le_of_ble_eq_true rfl) hRf), (Nat.le_trans (Nat.le_of_ble_eq_true rfl) hRl)⟩) ⟨Pr.blind, va_recv hK hP (ci := 13) (q0 := 0) rfl rfl, fun U hU hW => ⟨rfl, Pr.at hPc hKc hDc hN hU hW⟩⟩ rfl rfl hl.1 rfl (lv_room (Nat.le_of_ble_eq_true rfl)) dX13_leave_16 ⟨(Nat.le_trans (Nat.le_of_ble_eq_true rfl) hRc), (Nat.le_trans (Nat.le_of_ble_eq_true rfl) hRs)⟩) hS (fun q _ h => hFc q h) hFc (fun r_178 M_179 t H_177 locs ht hvm hw hB hz1 hk1 hS => ?_)
    have hp_180 := hw
    obtain ⟨hP1, hK1, hD1⟩ := hB
    rw [ht] at hP1
    obtain ⟨hP, hD⟩ := va_joinQ (X := [(za, (b13_0 0 z1 (nI z2) (nI z3) z4 z5 z6 z7 z8 z9 (nI z10) z11 z12 z13 z14 z15 (nI z16) z17 z18 z19))]) (cx := [(za, (b13_0 0 z1 (nI z2) (nI z3) z4 z5 z6 z7 z8 z9 (nI z10) z11 z12 z13 z14 z15 (nI z16) z17 z18 z19))]) (wr := []) (w1 := [(za, (b13_0 0 z1 (nI z2) (nI z3) 1 (-1) z6 z7 z8 z9 (nI z10) z11 z12 z13 z14 z15 (nI z16) z17 z18 z19))]) (pl := va_pl L M) hP hD [0] [] rfl rfl (by decide) (by decide) hk1 hFc hP1 hD1
    have hP : va_P D vwCl ([(za, (b13_0 0 z1 (nI z2) (nI z3) 1 (-1) z6 z7 z8 z9 (nI z10) z11 z12 z13 z14 z15 (nI z16) z17 z18 z19))] ++ va_pl L M) H_177 := hP
    have hD : va_D A ([(za, (b13_0 0 z1 (nI z2) (nI z3) 1 (-1) z6 z7 z8 z9 (nI z10) z11 z12 z13 z14 z15 (nI z16) z17 z18 z19))] ++ va_pl L M) := hD
    have hq := Eq.symm hp_180
    subst hq
    have hno : ¬ okLv z2 SX SY k1 k2 k3 k4 k5 := fun q9 => by unfold okLv okHS at q9; first | omega | (obtain ⟨⟨_, _, _, _⟩, _, _, _, _, _, _, _, _⟩ := q9; first | omega | contradiction)
    rw [hQ]
    exact W.iret (v := (-1)) hx hb hr (fun t ht hW9 => ⟨⟨(-1), M, rfl, ⟨hW, hF, hG, ⟨hGI, (by unfold syLv; rw [if_neg hno]; exact hZS)⟩, (by unfold anLv; rw [if_neg hno])⟩, ⟨1, by rw [ht]; exact hP, hD⟩⟩, hS.F ht⟩) hS.2.2 dX13_leave_19
set_option maxHeartbeats 4000000 in
set_option maxRecDepth 100000 in
theorem z_undo (l : Launch) (D : va_G) (cy : Nat → ClassId) (K : Kp) (L : List Nat) (M : Hp) (sz : Nat) (za : Nat) (z0 : Int32) (z1 : Nat) (z2 : Nat) (z3 : Nat) (z4 : Int32) (z5 : Int32) (z6 : Nat) (z7 : Nat) (z8 : Nat) (z9 : Nat) (z10 : Nat) (z11 : Nat) (z12 : Nat) (z13 : Nat) (z14 : Nat) (z15 : Nat) (z16 : Nat) (z17 : Nat) (z18 : Int32) (z19 : Nat) (k1 : Int32) (SX : Nat → Nat → Int) (SY : Nat → Nat → Nat → Int32) (hW : WOM cy K L M) (i1 : isk K L z1 23 8) (b2 : z2 ≤ 8) (b3 : z3 ≤ 40) (i6 : isk K L z6 47 40) (i7 : isk K L z7 48 40) (i8 : isk K L z8 49 8) (i9 : isk K L z9 50 8) (b10 : z10 ≤ 8) (i11 : isk K L z11 32 24) (i12 : isk K L z12 14 24) (i13 : isk K L z13 97 24) (i14 : isk K L z14 98 24) (i15 : isk K L z15 99 24) (b16 : z16 ≤ 24) (i17 : isk K L z17 14 24) (i19 : isk K L z19 15 25) (hGI : GI K L z1 z2 M) (hZS : ZSx z1 z2 SX SY M) : Met l yX13_undo (wsM yX13_undo cX13_undo 4 (some .int)) ({ frames := 1, cells := 0, slots := 0, locals := 21 }) (va_Pc [.ref za, .int k1] (PG D cy [(za, (b13_0 z0 z1 (nI z2) (nI z3) z4 z5 z6 z7 z8 z9 (nI z10) z11 z12 z13 z14 z15 (nI z16) z17 z18 z19))] L M sz)) (va_Qi (fun (r : Int32) (M9 : Hp) => WOM cy K L M9 ∧ fr K L [12, 35] M M9 ∧ fG K L [14, 16] M M9 ∧ (GI K L z1 z2 M9 ∧ ZSx z1 z2 (sxUd z2 SX SY k1) (syUd z2 SX SY k1) M9) ∧ ((r = anUd z2 SX k1))) (fun M9 t => ∃ (w4 : Int32), PQ D [(za, (b13_0 0 z1 (nI z2) (nI z3) w4 (-1) z6 z7 z8 z9 (nI z10) z11 z12 z13 z14 z15 (nI z16) z17 z18 z19))] L M9 (va_A ([(za, (b13_0 z0 z1 (nI z2) (nI z3) z4 z5 z6 z7 z8 z9 (nI z10) z11 z12 z13 z14 z15 (nI z16) z17 z18 z19))] ++ va_pl L M) sz) t) (va_A ([(za, (b13_0 z0 z1 (nI z2) (nI z3) z4 z5 z6 z7 z8 z9 (nI z10) z11 z12 z13 z14 z15 (nI z16) z17 z18 z19))] ++ va_pl L M) sz)) 0 0 (va_A ([(za, (b13_0 z0 z1 (nI z2) (nI z3) z4 z5 z6 z7 z8 z9 (nI z10) z11 z12 z13 z14 z15 (nI z16) z17 z18 z19))] ++ va_pl L M) sz) := by
  refine Met.ofW (cc := cX13_undo) (maxL := 4) (ret := (some .int)) (by decide) rfl ?_
  intro p e s m args below meth c s₁ B hml hv
  obtain ⟨rfl, hsz, hP, hK, hD0, hN⟩ := hv
  have hx := B.exec
  have hb := B.bytes
  have hr := B.returns
  have hts := atoms_spec (ws := (wsM yX13_undo cX13_undo 4 (some .int))) B.pre
  have hg : ∀ w ∈ lw_good, w.before _ s = true := fun w h => hts w (List.mem_cons_of_mem _ h)
  have hown : s.vm.findClass RX13 = some m.cls := findClass_of_methodNamed B.named
  have hlocks := B.notSynchronized
  subst hsz
  have hD := hD0.self (sz := s.heap.size)
  generalize hAe : va_A ([(za, (b13_0 z0 z1 (nI z2) (nI z3) z4 z5 z6 z7 z8 z9 (nI z10) z11 z12 z13 z14 z15 (nI z16) z17 z18 z19))] ++ va_pl L M) s.heap.size = A at hD ⊢
  have hA : ∀ q : Nat, s.heap.size ≤ q → A q := fun q h => by rw [← hAe]; exact Or.inr h
  have hS : va_S A s.heap s.heap [] := va_S.rf
  have hl := lv_entry ([.ref za, .int k1]) (n := 4) (Nat.le_of_ble_eq_true rfl)
  rw [lg_entry_eq]
  generalize (lg_sl ([.ref za, .int k1]) ++ List.replicate (4 - (lg_sl ([.ref za, .int k1])).length) Slot.unset).toArray = ls at hl ⊢
  refine W.nameQ (fun Q hQ => ?_)
  refine W.nameR (fun R hR => ?_)
  have hRf : 1 ≤ R.frames := by rw [hR]; exact Nat.le_of_ble_eq_true rfl
  have hRl : 21 ≤ R.locals := by rw [hR]; exact Nat.le_of_ble_eq_true rfl
  have hRc : 0 ≤ R.cells := by rw [hR]; exact Nat.le_of_ble_eq_true rfl
  have hRs : 0 ≤ R.slots := by rw [hR]; exact Nat.le_of_ble_eq_true rfl
  have hF : fr K L [12, 35] M M := fr.rf
  have hG : fG K L [14, 16] M M := fG.rf
  have hl : lv_has ls 4 [(0, .ref za), (1, .int k1)] := hl
  have hW0 := hW
  refine lv_aload_n hx hb dX13_undo_0 rfl (lv_at hl 0 rfl) ?_
  refine lv_iconst (v := 0) hx hb dX13_undo_1 (by decide) ?_
  refine va_put (D := D) (ci := 13) (v := .int 0) (ty := .int) (C := RX13) (T := TX13) (N := 20) hx hb hg inG13 tyX13 tyX13_ok nmX13 hown hK hP hD hS 0 rfl rfl 0 (by decide) (hg _ wd_720) (fun _ h9 => h9) rfl (by decide +kernel) rfl rfl (Nat.le_of_ble_eq_true rfl) dX13_undo_2 (fun H_1 locs hP hD hS => ?_)
  have hP : va_P D vwCl ([(za, (b13_0 0 z1 (nI z2) (nI z3) z4 z5 z6 z7 z8 z9 (nI z10) z11 z12 z13 z14 z15 (nI z16) z17 z18 z19))] ++ va_pl L M) H_1 := hP
  have hD : va_D A ([(za, (b13_0 0 z1 (nI z2) (nI z3) z4 z5 z6 z7 z8 z9 (nI z10) z11 z12 z13 z14 z15 (nI z16) z17 z18 z19))] ++ va_pl L M) := hD
  refine lv_aload_n hx hb dX13_undo_5 rfl (lv_at hl 0 rfl) ?_
  refine lv_iload_n hx hb dX13_undo_6 rfl (lv_at hl 1 rfl) ?_
  have hPc : va_P D vwCl ([(za, (b13_0 0 z1 (nI z2) (nI z3) z4 z5 z6 z7 z8 z9 (nI z10) z11 z12 z13 z14 z15 (nI z16) z17 z18 z19))] ++ va_pl L M) H_1 := hP
  have hDc : va_D A ([(za, (b13_0 0 z1 (nI z2) (nI z3) z4 z5 z6 z7 z8 z9 (nI z10) z11 z12 z13 z14 z15 (nI z16) z17 z18 z19))] ++ va_pl L M) := hD
  have hFc : ∀ q, va_A ([(za, (b13_0 0 z1 (nI z2) (nI z3) z4 z5 z6 z7 z8 z9 (nI z10) z11 z12 z13 z14 z15 (nI z16) z17 z18 z19))] ++ va_pl L M) H_1.size q → A q := pg_free hDc hS hA
  refine va_calli (va_runV (As := [.int k1]) (rest := []) ⟨hx, hb, hml, hown, hg⟩ (f_isHouse l D cy K L M H_1.size za 0 z1 z2 z3 z4 z5 z6 z7 z8 z9 z10 z11 z12 z13 z14 z15 z16 z17 z18 z19 k1  hW i1 b2 b3 i6 i7 i8 i9 b10 i11 i12 i13 i14 i15 b16 i17 i19) (cwV 1 hg (gV wd_714 wd_715 wd_716 wd_717 wd_718) rfl rfl rfl (by decide +kernel) ⟨(Nat.le_trans (Nat.le_of_ble_eq_true rfl) hRf), (Nat.le_trans (Nat.le_of_ble_eq_true rfl) hRl)⟩) ⟨PG.blind, va_recv hK hP (ci := 13) (q0 := 0) rfl rfl, fun U hU hW => ⟨rfl, PG.at hPc hK hDc hN hU hW⟩⟩ rfl rfl hl.1 rfl (lv_room (Nat.le_of_ble_eq_true rfl)) dX13_undo_7 ⟨(Nat.le_trans (Nat.le_of_ble_eq_true rfl) hRc), (Nat.le_trans (Nat.le_of_ble_eq_true rfl) hRs)⟩) hS (fun q _ h => hFc q h) hFc (fun r_3 M_4 t H_2 locs ht hvm hw hB hz1 hk1 hS => ?_)
  have hp_5 := hw
  obtain ⟨hP1, hD1⟩ := hB
  rw [ht] at hP1
  have hP : va_P D vwCl ([(za, (b13_0 0 z1 (nI z2) (nI z3) z4 z5 z6 z7 z8 z9 (nI z10) z11 z12 z13 z14 z15 (nI z16) z17 z18 z19))] ++ va_pl L M) H_2 := hP1
  have hD : va_D A ([(za, (b13_0 0 z1 (nI z2) (nI z3) z4 z5 z6 z7 z8 z9 (nI z10) z11 z12 z13 z14 z15 (nI z16) z17 z18 z19))] ++ va_pl L M) := hD1.mono hFc
  rcases hp_5 with ⟨rfl, c_6, c_7, c_8⟩ | ⟨rfl, c_9⟩
  · have hz := rfl (a := 0)
    refine lv_if_ne (tgt := 19) hx hb dX13_undo_10 (by decide) (fun _ => ?_) (fun c_10 => absurd c_10 (by decide))
    refine lv_aload_n hx hb dX13_undo_19 rfl (lv_at hl 0 rfl) ?_
    refine va_get (D := D) (ci := 13) (v := .ref z1) (C := RX13) (T := TX13) (N := 20) hx hb hg inG13 hown hK hP 0 rfl rfl 1 (by decide) (hg _ wd_739) (fun _ h9 => h9) rfl dX13_undo_20 ?_
    refine lv_iload_n hx hb dX13_undo_23 rfl (lv_at hl 1 rfl) ?_
    obtain ⟨f11, hM11, hf11⟩ := hW.open_23 i1
    have hi_12 : vp_in k1 8 := (inbW (a := z2) (by omega) (inb k1 z2 (by omega) c_7 c_8))
    refine pg_aldq hx hb hK hP i1.1 9 hM11 rfl hi_12 dX13_undo_24 ?_
    obtain ⟨b13, eb_14, hb_15⟩ := hf11 _ (vp_lt hi_12)
    rw [eb_14]
    have hact : ACT z1 z2 b13 M := ⟨(k1 : Int32).toNatClampNeg, vp_lt (inb k1 z2 (by omega) c_7 c_8), by rw [show RFc (M z1) = f11 from by rw [hM11]; rfl]; exact eb_14⟩
    have hAT := GI.at hGI hact
    have hV : VW K L M M b13 (fx M b13) (ax M b13) := VW.rf b13 hGI.2.2.2
    have hb9 : RFc (M z1) (k1 : Int32).toNatClampNeg = some b13 := by rw [show RFc (M z1) = f11 from by rw [hM11]; rfl]; exact eb_14
    have hkn : (k1 : Int32).toNatClampNeg < z2 := vp_lt (inb k1 z2 (by omega) c_7 c_8)
    have hZk := hZS _ b13 hkn hb9
    have hz0 : fx M b13 0 = SX (k1 : Int32).toNatClampNeg 0 := congrFun hZk.1 0
    have hz1 : fx M b13 1 = SX (k1 : Int32).toNatClampNeg 1 := congrFun hZk.1 1
    have hz10 : fx M b13 10 = SX (k1 : Int32).toNatClampNeg 10 := congrFun hZk.1 10
    have hz11 : fx M b13 11 = SX (k1 : Int32).toNatClampNeg 11 := congrFun hZk.1 11
    have hz12 : fx M b13 12 = SX (k1 : Int32).toNatClampNeg 12 := congrFun hZk.1 12
    have hz13 : fx M b13 13 = SX (k1 : Int32).toNatClampNeg 13 := congrFun hZk.1 13
    have hz14 : fx M b13 14 = SX (k1 : Int32).toNatClampNeg 14 := congrFun hZk.1 14
    have hz15 : fx M b13 15 = SX (k1 : Int32).toNatClampNeg 15 := congrFun hZk.1 15
    have hz16 : fx M b13 16 = SX (k1 : Int32).toNatClampNeg 16 := congrFun hZk.1 16
    obtain ⟨fs16, hM16, hn16, hl16⟩ := hW.open_12 hb_15
    obtain ⟨v17, hv17, hc17⟩ : ∃ v : Nat, fs16[16]? = some (.int (nI v) : Value) ∧ v ≤ 60 := hl16 16 (by decide)
    have hx16 : (fx M b13 16) = ((v17 : Nat) : Int) := (congrFun hV.2.1 16).symm.trans ((fx_of hM16 rfl hv17).trans (nI_toInt (by omega)))
    refine lv_astore_n (lv' := [(2, .ref b13), (0, .ref za), (1, .int k1)]) hx hb dX13_undo_25 rfl hl (by decide) rfl (fun ls hl => ?_)
    refine lv_aload_n hx hb dX13_undo_26 rfl (lv_at hl 0 rfl) ?_
    refine pg_getN (D := D) (ci := 12) (v := .int (nI v17)) (C := RX12) (T := TX12) (N := 51) hx hb hg inG12 hown hK hP hb_15.1 hM16 rfl 16 (by decide) (hN.use (Cond.fieldLinkNest RX13 161 RX12 "undone" "I" RX13) 25 rfl rfl) (fun _ h9 => h9) hv17 dX13_undo_27 ?_
    refine lv_if_ne (tgt := 39) hx hb dX13_undo_30 (by decide) (fun c_18 => ?_) (fun c_18 => ?_)
    · have hz := rfl (a := 0)
      have n_19 : ¬ (v17 = 0) := fun q => c_18 ((iEQ (a := v17) (b := 0) (by omega) (by omega)).mpr q)
      have hx16 : (fx M b13 16) = ((v17 : Nat) : Int) := (congrFun hV.2.1 16).symm.trans ((fx_of hM16 rfl hv17).trans (nI_toInt (by omega)))
      obtain ⟨v20, hv20, hc20⟩ : ∃ v : Nat, fs16[14]? = some (.int (nI v) : Value) ∧ v ≤ 120 := hl16 14 (by decide)
      have hx14 : (fx M b13 14) = ((v20 : Nat) : Int) := (congrFun hV.2.1 14).symm.trans ((fx_of hM16 rfl hv20).trans (nI_toInt (by omega)))
      obtain ⟨v21, hv21, hc21⟩ : ∃ v : Nat, fs16[43]? = some (.ref v : Value) ∧ isk K L v 36 60 := hl16 43 (by decide)
      obtain ⟨f22, hM22, hf22⟩ := hW.open_36 hc21
      have hy43 : (ax M b13 43) = f22 := (congrFun hV.2.2.1 43).symm.trans (ax_of hM16 (by decide) hv21 hM22)
      obtain ⟨v23, hv23, hc23⟩ : ∃ v : Nat, fs16[3]? = some (.ref v : Value) ∧ isk K L v 35 1000 := hl16 3 (by decide)
      obtain ⟨f24, hM24, hf24⟩ := hW.open_35 hc23
      have hy3 : (ax M b13 3) = f24 := (congrFun hV.2.2.1 3).symm.trans (ax_of hM16 (by decide) hv23 hM24)
      refine lv_aload_n hx hb dX13_undo_39 rfl (lv_at hl 0 rfl) ?_
      refine lv_dup hx hb dX13_undo_40 rfl ?_
      refine pg_getN (D := D) (ci := 12) (v := .int (nI v17)) (C := RX12) (T := TX12) (N := 51) hx hb hg inG12 hown hK hP hb_15.1 hM16 rfl 16 (by decide) (hN.use (Cond.fieldLinkNest RX13 161 RX12 "undone" "I" RX13) 25 rfl rfl) (fun _ h9 => h9) hv17 dX13_undo_41 ?_
      refine lv_iconst (v := 1) hx hb dX13_undo_44 (by decide) ?_
      refine lv_isub hx hb dX13_undo_45 ?_
      refine lv_topi (fun f_25 ef_25 => ?_)
      obtain rfl : f_25 = (nI (v17 - 1)) := ef_25.trans (nI_prd (by omega))
      refine pg_putN (D := D) (ci := 12) (v := .int (nI (v17 - 1))) (ty := .int) (C := RX12) (T := TX12) (N := 51) hx hb hg inG12 tyX12 tyX12_ok nmX12 hown hK hP hD hS hb_15.1 hM16 rfl 16 (by decide) (hN.use (Cond.fieldLinkNest RX13 161 RX12 "undone" "I" RX13) 25 rfl rfl) (fun _ h9 => h9) rfl (by decide +kernel) rfl rfl (by rw [hn16]; decide) dX13_undo_46 (fun H_26 locs hP hD hS => ?_)
      have hs_29 : (fs16.set 16 (.int (nI (v17 - 1))))[16]? = some (.int (nI (v17 - 1))) := List.getElem?_set_self (by rw [hn16]; decide)
      have hk_28 := fld12_set (k := 16) (w := .int (nI (v17 - 1))) hl16 (show fld12 K L 16 (fs16.set 16 (.int (nI (v17 - 1)))) from ⟨(v17 - 1), hs_29, by omega⟩)
      have hn_30 : (fs16.set 16 (.int (nI (v17 - 1)))).length = 51 := by rw [List.length_set]; exact hn16
      have hv_31 : (fs16.set 16 (.int (nI (v17 - 1))))[14]? = some (.int (nI v20)) := by rw [List.getElem?_set_ne (by decide)]; exact hv20
      have hv_32 : (fs16.set 16 (.int (nI (v17 - 1))))[43]? = some (.ref v21) := by rw [List.getElem?_set_ne (by decide)]; exact hv21
      have hv_33 : (fs16.set 16 (.int (nI (v17 - 1))))[3]? = some (.ref v23) := by rw [List.getElem?_set_ne (by decide)]; exact hv23
      have hb_34 : (v17 - 1) ≤ 60 := by omega
      obtain ⟨M_35, eM_35⟩ : ∃ M1 : Hp, M1 = va_up M b13 (.inr (12, fs16.set 16 (.int (nI (v17 - 1))))) := ⟨_, rfl⟩
      have hx16 : (fx M b13 16) = ((v17 : Nat) : Int) := (congrFun hV.2.1 16).symm.trans ((fx_of hM16 rfl hv17).trans (nI_toInt (by omega)))
      have hV : VW K L M M_35 b13 (va_up (fx M b13) 16 (((v17 - 1) : Nat) : Int)) (ax M b13) := by rw [eM_35]; exact hV.put hW hb_15 hM16 hn16 rfl (by decide) rfl (nI_toInt (by omega))
      have hP : va_P D vwCl ([(za, (b13_0 0 z1 (nI z2) (nI z3) z4 z5 z6 z7 z8 z9 (nI z10) z11 z12 z13 z14 z15 (nI z16) z17 z18 z19))] ++ va_pl L M_35) H_26 := by rw [eM_35]; exact hP
      have hD : va_D A ([(za, (b13_0 0 z1 (nI z2) (nI z3) z4 z5 z6 z7 z8 z9 (nI z10) z11 z12 z13 z14 z15 (nI z16) z17 z18 z19))] ++ va_pl L M_35) := by rw [eM_35]; exact hD
      have hW : WOM cy K L M_35 := by rw [eM_35]; exact hW.up_12 hb_15 ⟨_, rfl, hn_30, hk_28⟩
      have hF : fr K L [12, 35] M M_35 := by rw [eM_35]; exact hF.up hb_15 (by decide)
      have hG : fG K L [14, 16] M M_35 := by rw [eM_35]; exact hG.up hM16 (by decide)
      have hM_36 : M_35 b13 = .inr (12, fs16.set 16 (.int (nI (v17 - 1)))) := by rw [eM_35]; exact va_up_self _ _ _
      have hM_37 : M_35 z1 = .inl (cy 23, 8, .inr (.inr (.inr (.inr (f11))))) := by rw [eM_35, va_up_ne _ _ (i1.neT hb_15 (by decide))]; exact hM11
      have hM_38 : M_35 v21 = .inl (cy 14, 60, .inl (f22)) := by rw [eM_35, va_up_ne _ _ (hc21.neT hb_15 (by decide))]; exact hM22
      have hM_39 : M_35 v23 = .inl (cy 14, 1000, .inl (f24)) := by rw [eM_35, va_up_ne _ _ (hc23.neT hb_15 (by decide))]; exact hM24
      refine lv_aload_n hx hb dX13_undo_49 rfl (lv_at hl 0 rfl) ?_
      refine pg_getN (D := D) (ci := 12) (v := .ref v21) (C := RX12) (T := TX12) (N := 51) hx hb hg inG12 hown hK hP hb_15.1 hM_36 rfl 43 (by decide) (hN.use (Cond.fieldLinkNest RX13 210 RX12 "latest" "[I" RX13) 52 rfl rfl) (fun _ h9 => h9) hv_32 dX13_undo_50 ?_
      refine lv_aload_n hx hb dX13_undo_53 rfl (lv_at hl 0 rfl) ?_
      refine pg_getN (D := D) (ci := 12) (v := .int (nI (v17 - 1))) (C := RX12) (T := TX12) (N := 51) hx hb hg inG12 hown hK hP hb_15.1 hM_36 rfl 16 (by decide) (hN.use (Cond.fieldLinkNest RX13 161 RX12 "undone" "I" RX13) 25 rfl rfl) (fun _ h9 => h9) hs_29 dX13_undo_54 ?_
      have hi_40 : vp_in (nI (v17 - 1)) 60 := (inbN (v17 - 1) 60 (by omega) (by omega))
      refine pg_iald hx hb hK hP hc21.1 0 hM_38 rfl hi_40 dX13_undo_57 ?_
      have hp_41 := hf22 _ (vp_lt hi_40)
      rcases hp_41 with ec_44 | ⟨c_42, hc_43, ec_44⟩
      · rw [ec_44]
        refine lv_istore_n (lv' := [(3, .int (-1)), (2, .ref b13), (0, .ref za), (1, .int k1)]) hx hb dX13_undo_58 rfl hl (by decide) rfl (fun ls hl => ?_)
        refine lv_iload_n hx hb dX13_undo_59 rfl (lv_at hl 0 rfl) ?_
        refine lv_iconst (v := (-1)) hx hb dX13_undo_60 (by decide) ?_
        refine lv_icmp_ne (tgt := 77) hx hb dX13_undo_61 (by decide) (fun c_45 => absurd c_45 (by decide)) (fun _ => ?_)
        have hu9 : fx M b13 16 = (((v17 - 1) + 1 : Nat) : Int) := by rw [hx16]; omega
        have hl9 : ax M b13 43 (v17 - 1) = (-1) := by
          have h := ec_44
          rw [nI_cl (by omega)] at h
          rw [hy43]; exact h
        have hm9 := HB.undoM (mv' := fx M b13 14 - 1) hAT.2.1 hu9 hl9 rfl
        have hm1 : 1 ≤ v20 := by have h := hm9.2; omega
        refine lv_aload_n hx hb dX13_undo_64 rfl (lv_at hl 1 rfl) ?_
        refine lv_dup hx hb dX13_undo_65 rfl ?_
        refine pg_getN (D := D) (ci := 12) (v := .int (nI v20)) (C := RX12) (T := TX12) (N := 51) hx hb hg inG12 hown hK hP hb_15.1 hM_36 rfl 14 (by decide) (hN.use (Cond.fieldLinkNest RX13 193 RX12 "moves" "I" RX13) 23 rfl rfl) (fun _ h9 => h9) hv_31 dX13_undo_66 ?_
        refine lv_iconst (v := 1) hx hb dX13_undo_69 (by decide) ?_
        refine lv_isub hx hb dX13_undo_70 ?_
        refine lv_topi (fun f_46 ef_46 => ?_)
        obtain rfl : f_46 = (nI (v20 - 1)) := ef_46.trans (nI_prd (by omega))
        refine pg_putN (D := D) (ci := 12) (v := .int (nI (v20 - 1))) (ty := .int) (C := RX12) (T := TX12) (N := 51) hx hb hg inG12 tyX12 tyX12_ok nmX12 hown hK hP hD hS hb_15.1 hM_36 rfl 14 (by decide) (hN.use (Cond.fieldLinkNest RX13 193 RX12 "moves" "I" RX13) 23 rfl rfl) (fun _ h9 => h9) rfl (by decide +kernel) rfl rfl (by rw [hn_30]; decide) dX13_undo_71 (fun H_47 locs hP hD hS => ?_)
        have hs_50 : ((fs16.set 16 (.int (nI (v17 - 1)))).set 14 (.int (nI (v20 - 1))))[14]? = some (.int (nI (v20 - 1))) := List.getElem?_set_self (by rw [hn_30]; decide)
        have hk_49 := fld12_set (k := 14) (w := .int (nI (v20 - 1))) hk_28 (show fld12 K L 14 ((fs16.set 16 (.int (nI (v17 - 1)))).set 14 (.int (nI (v20 - 1)))) from ⟨(v20 - 1), hs_50, by omega⟩)
        have hn_51 : ((fs16.set 16 (.int (nI (v17 - 1)))).set 14 (.int (nI (v20 - 1)))).length = 51 := by rw [List.length_set]; exact hn_30
        have hv_52 : ((fs16.set 16 (.int (nI (v17 - 1)))).set 14 (.int (nI (v20 - 1))))[43]? = some (.ref v21) := by rw [List.getElem?_set_ne (by decide)]; exact hv_32
        have hv_53 : ((fs16.set 16 (.int (nI (v17 - 1)))).set 14 (.int (nI (v20 - 1))))[3]? = some (.ref v23) := by rw [List.getElem?_set_ne (by decide)]; exact hv_33
        have hv_54 : ((fs16.set 16 (.int (nI (v17 - 1)))).set 14 (.int (nI (v20 - 1))))[16]? = some (.int (nI (v17 - 1))) := by rw [List.getElem?_set_ne (by decide)]; exact hs_29
        have hb_55 : (v20 - 1) ≤ 120 := by omega
        obtain ⟨M_56, eM_56⟩ : ∃ M1 : Hp, M1 = va_up M_35 b13 (.inr (12, (fs16.set 16 (.int (nI (v17 - 1)))).set 14 (.int (nI (v20 - 1))))) := ⟨_, rfl⟩
        have hx14 : (fx M b13 14) = ((v20 : Nat) : Int) := (congrFun hV.2.1 14).symm.trans ((fx_of hM_36 rfl hv_31).trans (nI_toInt (by omega)))
        have hV : VW K L M M_56 b13 (va_up (va_up (fx M b13) 16 (((v17 - 1) : Nat) : Int)) 14 (((v20 - 1) : Nat) : Int)) (ax M b13) := by rw [eM_56]; exact hV.put hW hb_15 hM_36 hn_30 rfl (by decide) rfl (nI_toInt (by omega))
        have hP : va_P D vwCl ([(za, (b13_0 0 z1 (nI z2) (nI z3) z4 z5 z6 z7 z8 z9 (nI z10) z11 z12 z13 z14 z15 (nI z16) z17 z18 z19))] ++ va_pl L M_56) H_47 := by rw [eM_56]; exact hP
        have hD : va_D A ([(za, (b13_0 0 z1 (nI z2) (nI z3) z4 z5 z6 z7 z8 z9 (nI z10) z11 z12 z13 z14 z15 (nI z16) z17 z18 z19))] ++ va_pl L M_56) := by rw [eM_56]; exact hD
        have hW : WOM cy K L M_56 := by rw [eM_56]; exact hW.up_12 hb_15 ⟨_, rfl, hn_51, hk_49⟩
        have hF : fr K L [12, 35] M M_56 := by rw [eM_56]; exact hF.up hb_15 (by decide)
        have hG : fG K L [14, 16] M M_56 := by rw [eM_56]; exact hG.up hM_36 (by decide)
        have hM_57 : M_56 b13 = .inr (12, (fs16.set 16 (.int (nI (v17 - 1)))).set 14 (.int (nI (v20 - 1)))) := by rw [eM_56]; exact va_up_self _ _ _
        have hM_58 : M_56 z1 = .inl (cy 23, 8, .inr (.inr (.inr (.inr (f11))))) := by rw [eM_56, va_up_ne _ _ (i1.neT hb_15 (by decide))]; exact hM_37
        have hM_59 : M_56 v21 = .inl (cy 14, 60, .inl (f22)) := by rw [eM_56, va_up_ne _ _ (hc21.neT hb_15 (by decide))]; exact hM_38
        have hM_60 : M_56 v23 = .inl (cy 14, 1000, .inl (f24)) := by rw [eM_56, va_up_ne _ _ (hc23.neT hb_15 (by decide))]; exact hM_39
        refine lv_goto (tgt := 87) hx hb dX13_undo_74 (by decide) ?_
        refine lv_aload_n hx hb dX13_undo_87 rfl (lv_at hl 2 rfl) ?_
        refine lv_iconst (v := 1) hx hb dX13_undo_88 (by decide) ?_
        have hPc := hP.sub (ws' := [(za, (b13_0 0 z1 (nI z2) (nI z3) z4 z5 z6 z7 z8 z9 (nI z10) z11 z12 z13 z14 z15 (nI z16) z17 z18 z19))]) [0] rfl
        have hDc := hD.sub (ws' := [(za, (b13_0 0 z1 (nI z2) (nI z3) z4 z5 z6 z7 z8 z9 (nI z10) z11 z12 z13 z14 z15 (nI z16) z17 z18 z19))]) [0] (by decide) rfl
        have hKc := hK.sub (tys' := []) [] rfl
        have hFc := va_free (wc := [(za, (b13_0 0 z1 (nI z2) (nI z3) z4 z5 z6 z7 z8 z9 (nI z10) z11 z12 z13 z14 z15 (nI z16) z17 z18 z19))]) hD hS hA [0] rfl
        refine va_calli (va_runV (As := [.int 1]) (rest := []) ⟨hx, hb, hml, hown, hg⟩ (m_done l D H_47.size za 0 z1 (nI z2) (nI z3) z4 z5 z6 z7 z8 z9 (nI z10) z11 z12 z13 z14 z15 (nI z16) z17 z18 z19 1) (cwV 1 hg (gV wd_730 wd_731 wd_732 wd_717 wd_733) rfl rfl rfl (by decide +kernel) ⟨(Nat.le_trans (Nat.le_of_ble_eq_true rfl) hRf), (Nat.le_trans (Nat.le_of_ble_eq_true rfl) hRl)⟩) ⟨Pr.blind, va_recv hK hP (ci := 13) (q0 := 0) rfl rfl, fun U hU hW => ⟨rfl, Pr.at hPc hKc hDc hN hU hW⟩⟩ rfl rfl hl.1 rfl (lv_room (Nat.le_of_ble_eq_true rfl)) dX13_undo_89 ⟨(Nat.le_trans (Nat.le_of_ble_eq_true rfl) hRc), (Nat.le_trans (Nat.le_of_ble_eq_true rfl) hRs)⟩) hS (fun q _ h => hFc q h) hFc (fun r_62 M_63 t H_61 locs ht hvm hw hB hz1 hk1 hS => ?_)
        have hp_64 := hw
        obtain ⟨hP1, hK1, hD1⟩ := hB
        rw [ht] at hP1
        obtain ⟨hP, hD⟩ := va_joinQ (X := [(za, (b13_0 0 z1 (nI z2) (nI z3) z4 z5 z6 z7 z8 z9 (nI z10) z11 z12 z13 z14 z15 (nI z16) z17 z18 z19))]) (cx := [(za, (b13_0 0 z1 (nI z2) (nI z3) z4 z5 z6 z7 z8 z9 (nI z10) z11 z12 z13 z14 z15 (nI z16) z17 z18 z19))]) (wr := []) (w1 := [(za, (b13_0 0 z1 (nI z2) (nI z3) 0 (-1) z6 z7 z8 z9 (nI z10) z11 z12 z13 z14 z15 (nI z16) z17 z18 z19))]) (pl := va_pl L M_56) hP hD [0] [] rfl rfl (by decide) (by decide) hk1 hFc hP1 hD1
        have hP : va_P D vwCl ([(za, (b13_0 0 z1 (nI z2) (nI z3) 0 (-1) z6 z7 z8 z9 (nI z10) z11 z12 z13 z14 z15 (nI z16) z17 z18 z19))] ++ va_pl L M_56) H_61 := hP
        have hD : va_D A ([(za, (b13_0 0 z1 (nI z2) (nI z3) 0 (-1) z6 z7 z8 z9 (nI z10) z11 z12 z13 z14 z15 (nI z16) z17 z18 z19))] ++ va_pl L M_56) := hD
        have hq := Eq.symm hp_64
        subst hq
        have hI_65 : (0 : Int) ≤ (k1 : Int32).toInt := inltI rfl rfl c_7
        have hI_66 : (k1 : Int32).toInt < ((z2 : Nat) : Int) := inleI (nI_toInt (by omega)) rfl c_8
        have hI_67 : ((v17 : Nat) : Int) ≠ (0 : Int) := ineI (nI_toInt (by omega)) rfl c_18
        have hyes : okH z2 k1 := by unfold okH; refine ⟨?_, ?_⟩ <;> first | omega | assumption
        have hA9 : HA (ax M b13 2) (ax M b13 3) := hAT.1
        have hB9 : HB (((v17 - 1) : Nat) : Int) (((v20 - 1) : Nat) : Int) (ax M b13 3) (ax M b13 43) := (HB.undoM hAT.2.1 hu9 hl9 (by omega)).1
        have hC9 : HC (fx M b13 10) (ax M b13 22) (ax M b13 23) := hAT.2.2.1
        have hD9 : HD (fx M b13 0) (fx M b13 11) (fx M b13 15) (ax M b13 34) (ax M b13 41) := hAT.2.2.2.1
        have hE9 : HE (fx M b13 0) (fx M b13 1) (fx M b13 12) (fx M b13 13) (ax M b13 37) := hAT.2.2.2.2
        have hH9 : HI (va_up (va_up (fx M b13) 16 (((v17 - 1) : Nat) : Int)) 14 (((v20 - 1) : Nat) : Int)) (ax M b13) := ⟨hA9, hB9, hC9, hD9, hE9⟩
        have hGI9 : GI K L z1 z2 M_56 := GI.fin hW0 i1 b2 hGI hact hV (hF.at i1 (by decide)) hH9
        have e43 : SY (k1 : Int32).toNatClampNeg 43 (SX (k1 : Int32).toNatClampNeg 16 - 1).toNat = (-1) := by rw [← hZk.2, show (SX (k1 : Int32).toNatClampNeg 16 - 1).toNat = v17 - 1 by omega]; exact hl9
        have hc2 : okH z2 k1 ∧ SX (k1 : Int32).toNatClampNeg 16 ≠ 0 := ⟨hyes, by omega⟩
        rw [hQ]
        exact W.iret (v := 1) hx hb hr (fun t ht hW9 => ⟨⟨1, M_56, rfl, ⟨hW, hF, hG, ⟨hGI9, (by unfold sxUd syUd; rw [if_pos hc2, if_pos hc2, if_pos e43, if_pos e43]; have hQ9 := ZSx.fin hW0 i1 b2 hZS hGI.1 hkn hb9 hV (hF.at i1 (by decide)) (by rw [hZk.1, show ((v17 - 1 : Nat) : Int) = SX (k1 : Int32).toNatClampNeg 16 - 1 by omega, show ((v20 - 1 : Nat) : Int) = SX (k1 : Int32).toNatClampNeg 14 - 1 by omega]) (hZk.2); rw [va_upJ] at hQ9; exact hQ9)⟩, (by unfold anUd; rw [if_pos hyes, if_neg (by omega)])⟩, ⟨0, by rw [ht]; exact hP, hD⟩⟩, hS.F ht⟩) hS.2.2 dX13_undo_92
      · rw [ec_44]
        refine lv_istore_n (lv' := [(3, .int (nI c_42)), (2, .ref b13), (0, .ref za), (1, .int k1)]) hx hb dX13_undo_58 rfl hl (by decide) rfl (fun ls hl => ?_)
        refine lv_iload_n hx hb dX13_undo_59 rfl (lv_at hl 0 rfl) ?_
        refine lv_iconst (v := (-1)) hx hb dX13_undo_60 (by decide) ?_
        refine lv_icmp_ne (tgt := 77) hx hb dX13_undo_61 (by decide) (fun _ => ?_) (fun c_68 => absurd c_68 (nI_ne_m1 (by omega)))
        have hu9 : fx M b13 16 = (((v17 - 1) + 1 : Nat) : Int) := by rw [hx16]; omega
        have hl9 : ax M b13 43 (v17 - 1) = (nI c_42) := by
          have h := ec_44
          rw [nI_cl (by omega)] at h
          rw [hy43]; exact h
        have hc1 : 1 ≤ (ax M b13 3 c_42).toInt := HB.undoP hAT.2.1 hu9 (by omega) hl9
        refine lv_aload_n hx hb dX13_undo_77 rfl (lv_at hl 1 rfl) ?_
        refine pg_getN (D := D) (ci := 12) (v := .ref v23) (C := RX12) (T := TX12) (N := 51) hx hb hg inG12 hown hK hP hb_15.1 hM_36 rfl 3 (by decide) (hN.use (Cond.fieldLinkNest RX13 157 RX12 "told" "[I" RX13) 12 rfl rfl) (fun _ h9 => h9) hv_33 dX13_undo_78 ?_
        refine lv_iload_n hx hb dX13_undo_81 rfl (lv_at hl 0 rfl) ?_
        refine lv_dup2_11 hx hb dX13_undo_82 rfl rfl ?_
        have hi_69 : vp_in (nI c_42) 1000 := (inbN c_42 1000 (by omega) (by omega))
        refine pg_iald hx hb hK hP hc23.1 0 hM_39 rfl hi_69 dX13_undo_83 ?_
        have hp_70 := hf24 _ (vp_lt hi_69)
        obtain ⟨c_71, hc_72, ec_73⟩ := hp_70
        rw [ec_73]
        refine lv_iconst (v := 1) hx hb dX13_undo_84 (by decide) ?_
        have ht1 : 1 ≤ c_71 := by
          have h := hc1
          have h2 := ec_73
          rw [nI_cl (by omega)] at h2
          rw [hy3, h2, nI_toInt (by omega)] at h
          omega
        refine lv_isub hx hb dX13_undo_85 ?_
        refine lv_topi (fun f_74 ef_74 => ?_)
        obtain rfl : f_74 = (nI (c_71 - 1)) := ef_74.trans (nI_prd (by omega))
        refine pg_iast hx hb hK hP hD hS hc23.1 0 hM_39 rfl (inbN c_42 1000 (by omega) (by omega)) dX13_undo_86 (fun H_75 locs hP hD hS => ?_)
        obtain ⟨M_76, eM_76⟩ : ∃ M1 : Hp, M1 = va_up M_35 v23 (.inl (cy 14, 1000, .inl (upd f24 ((nI c_42) : Int32).toNatClampNeg (nI (c_71 - 1))))) := ⟨_, rfl⟩
        have hy3 : (ax M b13 3) = f24 := (congrFun hV.2.2.1 3).symm.trans (ax_of hM_36 (by decide) hv_33 hM_39)
        have hV : VW K L M M_76 b13 (va_up (fx M b13) 16 (((v17 - 1) : Nat) : Int)) (va_up (ax M b13) 3 (upd (ax M b13 3) ((nI c_42) : Int32).toNatClampNeg (nI (c_71 - 1)))) := by rw [eM_76]; exact hV.ast (j := 3) hW hb_15 hM_36 (by decide) hv_33 hc23 hM_39
        have hP : va_P D vwCl ([(za, (b13_0 0 z1 (nI z2) (nI z3) z4 z5 z6 z7 z8 z9 (nI z10) z11 z12 z13 z14 z15 (nI z16) z17 z18 z19))] ++ va_pl L M_76) H_75 := by rw [eM_76]; exact hP
        have hD : va_D A ([(za, (b13_0 0 z1 (nI z2) (nI z3) z4 z5 z6 z7 z8 z9 (nI z10) z11 z12 z13 z14 z15 (nI z16) z17 z18 z19))] ++ va_pl L M_76) := by rw [eM_76]; exact hD
        have hW : WOM cy K L M_76 := by rw [eM_76]; exact hW.up_35 hc23 ⟨_, rfl, (updP (P := fun z => ∃ c : Nat, c < 7 ∧ z = nI c) hf24 ⟨(c_71 - 1), by omega, rfl⟩)⟩
        have hF : fr K L [12, 35] M M_76 := by rw [eM_76]; exact hF.up hc23 (by decide)
        have hG : fG K L [14, 16] M M_76 := by rw [eM_76]; exact hG.arr hc23 (by decide)
        have hM_77 : M_76 v23 = .inl (cy 14, 1000, .inl (upd f24 ((nI c_42) : Int32).toNatClampNeg (nI (c_71 - 1)))) := by rw [eM_76]; exact va_up_self _ _ _
        have hM_78 : M_76 b13 = .inr (12, fs16.set 16 (.int (nI (v17 - 1)))) := by rw [eM_76, va_up_ne _ _ (hb_15.neT hc23 (by decide))]; exact hM_36
        have hM_79 : M_76 z1 = .inl (cy 23, 8, .inr (.inr (.inr (.inr (f11))))) := by rw [eM_76, va_up_ne _ _ (i1.neT hc23 (by decide))]; exact hM_37
        have hM_80 : M_76 v21 = .inl (cy 14, 60, .inl (f22)) := by rw [eM_76, va_up_ne _ _ (hc21.neT hc23 (by decide))]; exact hM_38
        have hf_82 : ∀ j, j < 1000 → ∃ c : Nat, c < 7 ∧ (upd f24 ((nI c_42) : Int32).toNatClampNeg (nI (c_71 - 1))) j = nI c := (updP (P := fun z => ∃ c : Nat, c < 7 ∧ z = nI c) hf24 ⟨(c_71 - 1), by omega, rfl⟩)
        obtain ⟨f_81, ef_81⟩ : ∃ f : Nat → Int32, f = upd f24 ((nI c_42) : Int32).toNatClampNeg (nI (c_71 - 1)) := ⟨_, rfl⟩
        rw [← ef_81] at hM_77 hf_82
        refine lv_aload_n hx hb dX13_undo_87 rfl (lv_at hl 2 rfl) ?_
        refine lv_iconst (v := 1) hx hb dX13_undo_88 (by decide) ?_
        have hPc := hP.sub (ws' := [(za, (b13_0 0 z1 (nI z2) (nI z3) z4 z5 z6 z7 z8 z9 (nI z10) z11 z12 z13 z14 z15 (nI z16) z17 z18 z19))]) [0] rfl
        have hDc := hD.sub (ws' := [(za, (b13_0 0 z1 (nI z2) (nI z3) z4 z5 z6 z7 z8 z9 (nI z10) z11 z12 z13 z14 z15 (nI z16) z17 z18 z19))]) [0] (by decide) rfl
        have hKc := hK.sub (tys' := []) [] rfl
        have hFc := va_free (wc := [(za, (b13_0 0 z1 (nI z2) (nI z3) z4 z5 z6 z7 z8 z9 (nI z10) z11 z12 z13 z14 z15 (nI z16) z17 z18 z19))]) hD hS hA [0] rfl
        refine va_calli (va_runV (As := [.int 1]) (rest := []) ⟨hx, hb, hml, hown, hg⟩ (m_done l D H_75.size za 0 z1 (nI z2) (nI z3) z4 z5 z6 z7 z8 z9 (nI z10) z11 z12 z13 z14 z15 (nI z16) z17 z18 z19 1) (cwV 1 hg (gV wd_730 wd_731 wd_732 wd_717 wd_733) rfl rfl rfl (by decide +kernel) ⟨(Nat.le_trans (Nat.le_of_ble_eq_true rfl) hRf), (Nat.le_trans (Nat.le_of_ble_eq_true rfl) hRl)⟩) ⟨Pr.blind, va_recv hK hP (ci := 13) (q0 := 0) rfl rfl, fun U hU hW => ⟨rfl, Pr.at hPc hKc hDc hN hU hW⟩⟩ rfl rfl hl.1 rfl (lv_room (Nat.le_of_ble_eq_true rfl)) dX13_undo_89 ⟨(Nat.le_trans (Nat.le_of_ble_eq_true rfl) hRc), (Nat.le_trans (Nat.le_of_ble_eq_true rfl) hRs)⟩) hS (fun q _ h => hFc q h) hFc (fun r_84 M_85 t H_83 locs ht hvm hw hB hz1 hk1 hS => ?_)
        have hp_86 := hw
        obtain ⟨hP1, hK1, hD1⟩ := hB
        rw [ht] at hP1
        obtain ⟨hP, hD⟩ := va_joinQ (X := [(za, (b13_0 0 z1 (nI z2) (nI z3) z4 z5 z6 z7 z8 z9 (nI z10) z11 z12 z13 z14 z15 (nI z16) z17 z18 z19))]) (cx := [(za, (b13_0 0 z1 (nI z2) (nI z3) z4 z5 z6 z7 z8 z9 (nI z10) z11 z12 z13 z14 z15 (nI z16) z17 z18 z19))]) (wr := []) (w1 := [(za, (b13_0 0 z1 (nI z2) (nI z3) 0 (-1) z6 z7 z8 z9 (nI z10) z11 z12 z13 z14 z15 (nI z16) z17 z18 z19))]) (pl := va_pl L M_76) hP hD [0] [] rfl rfl (by decide) (by decide) hk1 hFc hP1 hD1
        have hP : va_P D vwCl ([(za, (b13_0 0 z1 (nI z2) (nI z3) 0 (-1) z6 z7 z8 z9 (nI z10) z11 z12 z13 z14 z15 (nI z16) z17 z18 z19))] ++ va_pl L M_76) H_83 := hP
        have hD : va_D A ([(za, (b13_0 0 z1 (nI z2) (nI z3) 0 (-1) z6 z7 z8 z9 (nI z10) z11 z12 z13 z14 z15 (nI z16) z17 z18 z19))] ++ va_pl L M_76) := hD
        have hq := Eq.symm hp_86
        subst hq
        have hI_87 : (0 : Int) ≤ (k1 : Int32).toInt := inltI rfl rfl c_7
        have hI_88 : (k1 : Int32).toInt < ((z2 : Nat) : Int) := inleI (nI_toInt (by omega)) rfl c_8
        have hI_89 : ((v17 : Nat) : Int) ≠ (0 : Int) := ineI (nI_toInt (by omega)) rfl c_18
        have hyes : okH z2 k1 := by unfold okH; refine ⟨?_, ?_⟩ <;> first | omega | assumption
        have hA9 : HA (ax M b13 2) (upd (ax M b13 3) ((nI c_42) : Int32).toNatClampNeg (nI (c_71 - 1))) := HA.dec hAT.1 (by rw [nI_cl (by omega)]; omega) hy3 ec_73 (by omega) (by omega)
        have hB9 : HB (((v17 - 1) : Nat) : Int) (fx M b13 14) (upd (ax M b13 3) ((nI c_42) : Int32).toNatClampNeg (nI (c_71 - 1))) (ax M b13 43) := HB.undoD hAT.2.1 hu9 (by omega) (nI_cl (by omega)) hl9 (by rw [hy3, ec_73, nI_toInt (by omega), nI_toInt (by omega)]; omega)
        have hC9 : HC (fx M b13 10) (ax M b13 22) (ax M b13 23) := hAT.2.2.1
        have hD9 : HD (fx M b13 0) (fx M b13 11) (fx M b13 15) (ax M b13 34) (ax M b13 41) := hAT.2.2.2.1
        have hE9 : HE (fx M b13 0) (fx M b13 1) (fx M b13 12) (fx M b13 13) (ax M b13 37) := hAT.2.2.2.2
        have hH9 : HI (va_up (fx M b13) 16 (((v17 - 1) : Nat) : Int)) (va_up (ax M b13) 3 (upd (ax M b13 3) ((nI c_42) : Int32).toNatClampNeg (nI (c_71 - 1)))) := ⟨hA9, hB9, hC9, hD9, hE9⟩
        have hGI9 : GI K L z1 z2 M_76 := GI.fin hW0 i1 b2 hGI hact hV (hF.at i1 (by decide)) hH9
        have e43 : SY (k1 : Int32).toNatClampNeg 43 (SX (k1 : Int32).toNatClampNeg 16 - 1).toNat = (nI c_42) := by rw [← hZk.2, show (SX (k1 : Int32).toNatClampNeg 16 - 1).toNat = v17 - 1 by omega]; exact hl9
        have hc2 : okH z2 k1 ∧ SX (k1 : Int32).toNatClampNeg 16 ≠ 0 := ⟨hyes, by omega⟩
        have hne : ¬ SY (k1 : Int32).toNatClampNeg 43 (SX (k1 : Int32).toNatClampNeg 16 - 1).toNat = -1 := by rw [e43]; exact nI_ne_m1 (by omega)
        have e3 : SY (k1 : Int32).toNatClampNeg 3 (nI c_42).toNatClampNeg - 1 = nI (c_71 - 1) := by rw [← hZk.2, hy3, ec_73]; exact nI_prd (by omega)
        rw [hQ]
        exact W.iret (v := 1) hx hb hr (fun t ht hW9 => ⟨⟨1, M_76, rfl, ⟨hW, hF, hG, ⟨hGI9, (by unfold sxUd syUd; rw [if_pos hc2, if_pos hc2, if_neg hne, if_neg hne, e43, e3]; exact ZSx.fin hW0 i1 b2 hZS hGI.1 hkn hb9 hV (hF.at i1 (by decide)) (by rw [hZk.1, show ((v17 - 1 : Nat) : Int) = SX (k1 : Int32).toNatClampNeg 16 - 1 by omega]) (by rw [hZk.2]))⟩, (by unfold anUd; rw [if_pos hyes, if_neg (by omega)])⟩, ⟨0, by rw [ht]; exact hP, hD⟩⟩, hS.F ht⟩) hS.2.2 dX13_undo_92
    · have hz := rfl (a := 0)
      have n_90 : v17 = 0 := (iEQ (a := v17) (b := 0) (by omega) (by omega)).mp c_18
      refine lv_aload_n hx hb dX13_undo_33 rfl (lv_at hl 1 rfl) ?_
      refine lv_iconst (v := 0) hx hb dX13_undo_34 (by decide) ?_
      have hPc := hP.sub (ws' := [(za, (b13_0 0 z1 (nI z2) (nI z3) z4 z5 z6 z7 z8 z9 (nI z10) z11 z12 z13 z14 z15 (nI z16) z17 z18 z19))]) [0] rfl
      have hDc := hD.sub (ws' := [(za, (b13_0 0 z1 (nI z2) (nI z3) z4 z5 z6 z7 z8 z9 (nI z10) z11 z12 z13 z14 z15 (nI z16) z17 z18 z19))]) [0] (by decide) rfl
      have hKc := hK.sub (tys' := []) [] rfl
      have hFc := va_free (wc := [(za, (b13_0 0 z1 (nI z2) (nI z3) z4 z5 z6 z7 z8 z9 (nI z10) z11 z12 z13 z14 z15 (nI z16) z17 z18 z19))]) hD hS hA [0] rfl
      refine va_calli (va_runV (As := [.int 0]) (rest := []) ⟨hx, hb, hml, hown, hg⟩ (m_done l D H_2.size za 0 z1 (nI z2) (nI z3) z4 z5 z6 z7 z8 z9 (nI z10) z11 z12 z13 z14 z15 (nI z16) z17 z18 z19 0) (cwV 1 hg (gV wd_730 wd_731 wd_732 wd_717 wd_733) rfl rfl rfl (by decide +kernel) ⟨(Nat.le_trans (Nat.le_of_ble_eq_true rfl) hRf), (Nat.le_trans (Nat.le_of_ble_eq_true rfl) hRl)⟩) ⟨Pr.blind, va_recv hK hP (ci := 13) (q0 := 0) rfl rfl, fun U hU hW => ⟨rfl, Pr.at hPc hKc hDc hN hU hW⟩⟩ rfl rfl hl.1 rfl (lv_room (Nat.le_of_ble_eq_true rfl)) dX13_undo_35 ⟨(Nat.le_trans (Nat.le_of_ble_eq_true rfl) hRc), (Nat.le_trans (Nat.le_of_ble_eq_true rfl) hRs)⟩) hS (fun q _ h => hFc q h) hFc (fun r_92 M_93 t H_91 locs ht hvm hw hB hz1 hk1 hS => ?_)
      have hp_94 := hw
      obtain ⟨hP1, hK1, hD1⟩ := hB
      rw [ht] at hP1
      obtain ⟨hP, hD⟩ := va_joinQ (X := [(za, (b13_0 0 z1 (nI z2) (nI z3) z4 z5 z6 z7 z8 z9 (nI z10) z11 z12 z13 z14 z15 (nI z16) z17 z18 z19))]) (cx := [(za, (b13_0 0 z1 (nI z2) (nI z3) z4 z5 z6 z7 z8 z9 (nI z10) z11 z12 z13 z14 z15 (nI z16) z17 z18 z19))]) (wr := []) (w1 := [(za, (b13_0 0 z1 (nI z2) (nI z3) 0 (-1) z6 z7 z8 z9 (nI z10) z11 z12 z13 z14 z15 (nI z16) z17 z18 z19))]) (pl := va_pl L M) hP hD [0] [] rfl rfl (by decide) (by decide) hk1 hFc hP1 hD1
      have hP : va_P D vwCl ([(za, (b13_0 0 z1 (nI z2) (nI z3) 0 (-1) z6 z7 z8 z9 (nI z10) z11 z12 z13 z14 z15 (nI z16) z17 z18 z19))] ++ va_pl L M) H_91 := hP
      have hD : va_D A ([(za, (b13_0 0 z1 (nI z2) (nI z3) 0 (-1) z6 z7 z8 z9 (nI z10) z11 z12 z13 z14 z15 (nI z16) z17 z18 z19))] ++ va_pl L M) := hD
      have hq := Eq.symm hp_94
      subst hq
      have hI_95 : (0 : Int) ≤ (k1 : Int32).toInt := inltI rfl rfl c_7
      have hI_96 : (k1 : Int32).toInt < ((z2 : Nat) : Int) := inleI (nI_toInt (by omega)) rfl c_8
      have hI_97 : ((v17 : Nat) : Int) = (0 : Int) := ieqI (nI_toInt (by omega)) rfl c_18
      have hyes : okH z2 k1 := by unfold okH; refine ⟨?_, ?_⟩ <;> first | omega | assumption
      rw [hQ]
      exact W.iret (v := 0) hx hb hr (fun t ht hW9 => ⟨⟨0, M, rfl, ⟨hW, hF, hG, ⟨hGI, (by unfold sxUd syUd; rw [if_neg (fun w9 => w9.2 (by omega)), if_neg (fun w9 => w9.2 (by omega))]; exact hZS)⟩, (by unfold anUd; rw [if_pos hyes, if_pos (by omega)])⟩, ⟨0, by rw [ht]; exact hP, hD⟩⟩, hS.F ht⟩) hS.2.2 dX13_undo_38
  · have hz := rfl (a := 0)
    refine lv_if_ne (tgt := 19) hx hb dX13_undo_10 (by decide) (fun c_98 => absurd c_98 (by decide)) (fun _ => ?_)
    refine lv_aload_n hx hb dX13_undo_13 rfl (lv_at hl 0 rfl) ?_
    refine lv_iconst (v := 1) hx hb dX13_undo_14 (by decide) ?_
    have hPc := hP.sub (ws' := [(za, (b13_0 0 z1 (nI z2) (nI z3) z4 z5 z6 z7 z8 z9 (nI z10) z11 z12 z13 z14 z15 (nI z16) z17 z18 z19))]) [0] rfl
    have hDc := hD.sub (ws' := [(za, (b13_0 0 z1 (nI z2) (nI z3) z4 z5 z6 z7 z8 z9 (nI z10) z11 z12 z13 z14 z15 (nI z16) z17 z18 z19))]) [0] (by decide) rfl
    have hKc := hK.sub (tys' := []) [] rfl
    have hFc := va_free (wc := [(za, (b13_0 0 z1 (nI z2) (nI z3) z4 z5 z6 z7 z8 z9 (nI z10) z11 z12 z13 z14 z15 (nI z16) z17 z18 z19))]) hD hS hA [0] rfl
    refine va_calli (va_runV (As := [.int 1]) (rest := []) ⟨hx, hb, hml, hown, hg⟩ (m_refused l D H_2.size za 0 z1 (nI z2) (nI z3) z4 z5 z6 z7 z8 z9 (nI z10) z11 z12 z13 z14 z15 (nI z16) z17 z18 z19 1) (cwV 1 hg (gV wd_725 wd_726 wd_727 wd_717 wd_728) rfl rfl rfl (by decide +kernel) ⟨(Nat.le_trans (Nat.le_of_ble_eq_true rfl) hRf), (Nat.le_trans (Nat.le_of_ble_eq_true rfl) hRl)⟩) ⟨Pr.blind, va_recv hK hP (ci := 13) (q0 := 0) rfl rfl, fun U hU hW => ⟨rfl, Pr.at hPc hKc hDc hN hU hW⟩⟩ rfl rfl hl.1 rfl (lv_room (Nat.le_of_ble_eq_true rfl)) dX13_undo_15 ⟨(Nat.le_trans (Nat.le_of_ble_eq_true rfl) hRc), (Nat.le_trans (Nat.le_of_ble_eq_true rfl) hRs)⟩) hS (fun q _ h => hFc q h) hFc (fun r_100 M_101 t H_99 locs ht hvm hw hB hz1 hk1 hS => ?_)
    have hp_102 := hw
    obtain ⟨hP1, hK1, hD1⟩ := hB
    rw [ht] at hP1
    obtain ⟨hP, hD⟩ := va_joinQ (X := [(za, (b13_0 0 z1 (nI z2) (nI z3) z4 z5 z6 z7 z8 z9 (nI z10) z11 z12 z13 z14 z15 (nI z16) z17 z18 z19))]) (cx := [(za, (b13_0 0 z1 (nI z2) (nI z3) z4 z5 z6 z7 z8 z9 (nI z10) z11 z12 z13 z14 z15 (nI z16) z17 z18 z19))]) (wr := []) (w1 := [(za, (b13_0 0 z1 (nI z2) (nI z3) 1 (-1) z6 z7 z8 z9 (nI z10) z11 z12 z13 z14 z15 (nI z16) z17 z18 z19))]) (pl := va_pl L M) hP hD [0] [] rfl rfl (by decide) (by decide) hk1 hFc hP1 hD1
    have hP : va_P D vwCl ([(za, (b13_0 0 z1 (nI z2) (nI z3) 1 (-1) z6 z7 z8 z9 (nI z10) z11 z12 z13 z14 z15 (nI z16) z17 z18 z19))] ++ va_pl L M) H_99 := hP
    have hD : va_D A ([(za, (b13_0 0 z1 (nI z2) (nI z3) 1 (-1) z6 z7 z8 z9 (nI z10) z11 z12 z13 z14 z15 (nI z16) z17 z18 z19))] ++ va_pl L M) := hD
    have hq := Eq.symm hp_102
    subst hq
    have hno : ¬ okH z2 k1 := fun q9 => by unfold okH at q9; first | omega | (obtain ⟨_, _⟩ := q9; first | omega | contradiction)
    rw [hQ]
    exact W.iret (v := (-1)) hx hb hr (fun t ht hW9 => ⟨⟨(-1), M, rfl, ⟨hW, hF, hG, ⟨hGI, (by unfold sxUd syUd; rw [if_neg (fun w9 => hno w9.1), if_neg (fun w9 => hno w9.1)]; exact hZS)⟩, (by unfold anUd; rw [if_neg hno])⟩, ⟨1, by rw [ht]; exact hP, hD⟩⟩, hS.F ht⟩) hS.2.2 dX13_undo_18
