set_option maxHeartbeats 4000000 in
set_option maxRecDepth 100000 in
theorem z_close (l : Launch) (D : va_G) (cy : Nat → ClassId) (K : Kp) (L : List Nat) (M : Hp) (sz : Nat) (za : Nat) (z0 : Int32) (z1 : Nat) (z2 : Nat) (z3 : Nat) (z4 : Int32) (z5 : Int32) (z6 : Nat) (z7 : Nat) (z8 : Nat) (z9 : Nat) (z10 : Nat) (z11 : Nat) (z12 : Nat) (z13 : Nat) (z14 : Nat) (z15 : Nat) (z16 : Nat) (z17 : Nat) (z18 : Int32) (z19 : Nat) (k1 : Int32) (SX : Nat → Nat → Int) (SY : Nat → Nat → Nat → Int32) (PK : Nat → Int32) (PT : Nat → Int32) (hW : WOM cy K L M) (i1 : isk K L z1 23 8) (b2 : z2 ≤ 8) (b3 : z3 ≤ 40) (i6 : isk K L z6 47 40) (i7 : isk K L z7 48 40) (i8 : isk K L z8 49 8) (i9 : isk K L z9 50 8) (b10 : z10 ≤ 8) (i11 : isk K L z11 32 24) (i12 : isk K L z12 14 24) (i13 : isk K L z13 15 24) (i14 : isk K L z14 15 24) (i15 : isk K L z15 15 24) (b16 : z16 ≤ 24) (i17 : isk K L z17 14 24) (i19 : isk K L z19 15 25) (hGI : GI K L z1 z2 M) (hZS : ZSx z1 z2 SX SY M) (hR5 : R5 z6 z7 M) (hZP : ZP z6 z7 PK PT M) : Met l yX13_close (wsM yX13_close cX13_close 8 (some .int)) ({ frames := 6, cells := 0, slots := 0, locals := 165 }) (va_Pc [.ref za, .int k1] (PG D cy [(za, (b13_0 z0 z1 (nI z2) (nI z3) z4 z5 z6 z7 z8 z9 (nI z10) z11 z12 z13 z14 z15 (nI z16) z17 z18 z19))] L M sz)) (va_Qi (fun (r : Int32) (M9 : Hp) => WOM cy K L M9 ∧ fr K L [12, 14, 15, 32, 42, 45, 46, 79, 80, 81, 83] M M9 ∧ fG K L [1, 7, 8, 13, 14, 15, 16, 17, 18] M M9 ∧ (GI K L z1 z2 M9 ∧ ∃ (X9 : Nat → Int) (Y9 : Nat → Nat → Int32), (okCl z2 PK PT SX SY k1 → CLF (enD (SX k1.toNatClampNeg) (SY k1.toNatClampNeg)) (SX k1.toNatClampNeg) (SY k1.toNatClampNeg) X9 Y9) ∧ ZSx z1 z2 (sxCl z2 PK PT SX SY k1 X9) (syCl z2 PK PT SX SY k1 Y9) M9) ∧ ((r = anCl z2 PK PT SX SY k1))) (fun M9 t => ∃ (w4 : Int32) (w5 : Int32) (w16 : Nat), w16 ≤ 24 ∧ WHR z2 PK PT SX SY k1 w5 ∧ PQ D [(za, (b13_0 0 z1 (nI z2) (nI z3) w4 w5 z6 z7 z8 z9 (nI z10) z11 z12 z13 z14 z15 (nI w16) z17 z18 z19))] L M9 (va_A ([(za, (b13_0 z0 z1 (nI z2) (nI z3) z4 z5 z6 z7 z8 z9 (nI z10) z11 z12 z13 z14 z15 (nI z16) z17 z18 z19))] ++ va_pl L M) sz) t) (va_A ([(za, (b13_0 z0 z1 (nI z2) (nI z3) z4 z5 z6 z7 z8 z9 (nI z10) z11 z12 z13 z14 z15 (nI z16) z17 z18 z19))] ++ va_pl L M) sz)) 0 0 (va_A ([(za, (b13_0 z0 z1 (nI z2) (nI z3) z4 z5 z6 z7 z8 z9 (nI z10) z11 z12 z13 z14 z15 (nI z16) z17 z18 z19))] ++ va_pl L M) sz) := by
  refine Met.ofW (cc := cX13_close) (maxL := 8) (ret := (some .int)) (by decide) rfl ?_
  intro p e s m args below meth c s₁ B hml hv
  obtain ⟨rfl, hsz, hP, hK, hD0, hN⟩ := hv
  have hx := B.exec
  have hb := B.bytes
  have hr := B.returns
  have hts := atoms_spec (ws := (wsM yX13_close cX13_close 8 (some .int))) B.pre
  have hg : ∀ w ∈ lw_good, w.before _ s = true := fun w h => hts w (List.mem_cons_of_mem _ h)
  have hown : s.vm.findClass RX13 = some m.cls := findClass_of_methodNamed B.named
  have hlocks := B.notSynchronized
  subst hsz
  have hD := hD0.self (sz := s.heap.size)
  generalize hAe : va_A ([(za, (b13_0 z0 z1 (nI z2) (nI z3) z4 z5 z6 z7 z8 z9 (nI z10) z11 z12 z13 z14 z15 (nI z16) z17 z18 z19))] ++ va_pl L M) s.heap.size = A at hD ⊢
  have hA : ∀ q : Nat, s.heap.size ≤ q → A q := fun q h => by rw [← hAe]; exact Or.inr h
  have hS : va_S A s.heap s.heap [] := va_S.rf
  have hl := lv_entry ([.ref za, .int k1]) (n := 8) (Nat.le_of_ble_eq_true rfl)
  rw [lg_entry_eq]
  generalize (lg_sl ([.ref za, .int k1]) ++ List.replicate (8 - (lg_sl ([.ref za, .int k1])).length) Slot.unset).toArray = ls at hl ⊢
  refine W.nameQ (fun Q hQ => ?_)
  refine W.nameR (fun R hR => ?_)
  have hRf : 6 ≤ R.frames := by rw [hR]; exact Nat.le_of_ble_eq_true rfl
  have hRl : 165 ≤ R.locals := by rw [hR]; exact Nat.le_of_ble_eq_true rfl
  have hRc : 0 ≤ R.cells := by rw [hR]; exact Nat.le_of_ble_eq_true rfl
  have hRs : 0 ≤ R.slots := by rw [hR]; exact Nat.le_of_ble_eq_true rfl
  have hF : fr K L [12, 14, 15, 32, 42, 45, 46, 79, 80, 81, 83] M M := fr.rf
  have hG : fG K L [1, 7, 8, 13, 14, 15, 16, 17, 18] M M := fG.rf
  have hl : lv_has ls 8 [(0, .ref za), (1, .int k1)] := hl
  have hW0 := hW
  refine lv_aload_n hx hb dX13_close_0 rfl (lv_at hl 0 rfl) ?_
  refine lv_iconst (v := 0) hx hb dX13_close_1 (by decide) ?_
  refine va_put (D := D) (ci := 13) (v := .int 0) (ty := .int) (C := RX13) (T := TX13) (N := 20) hx hb hg inG13 tyX13 tyX13_ok nmX13 hown hK hP hD hS 0 rfl rfl 0 (by decide) (hg _ wd_720) (fun _ h9 => h9) rfl (by decide +kernel) rfl rfl (Nat.le_of_ble_eq_true rfl) dX13_close_2 (fun H_1 locs hP hD hS => ?_)
  have hP : va_P D vwCl ([(za, (b13_0 0 z1 (nI z2) (nI z3) z4 z5 z6 z7 z8 z9 (nI z10) z11 z12 z13 z14 z15 (nI z16) z17 z18 z19))] ++ va_pl L M) H_1 := hP
  have hD : va_D A ([(za, (b13_0 0 z1 (nI z2) (nI z3) z4 z5 z6 z7 z8 z9 (nI z10) z11 z12 z13 z14 z15 (nI z16) z17 z18 z19))] ++ va_pl L M) := hD
  refine lv_aload_n hx hb dX13_close_5 rfl (lv_at hl 0 rfl) ?_
  refine lv_iload_n hx hb dX13_close_6 rfl (lv_at hl 1 rfl) ?_
  have hPc : va_P D vwCl ([(za, (b13_0 0 z1 (nI z2) (nI z3) z4 z5 z6 z7 z8 z9 (nI z10) z11 z12 z13 z14 z15 (nI z16) z17 z18 z19))] ++ va_pl L M) H_1 := hP
  have hDc : va_D A ([(za, (b13_0 0 z1 (nI z2) (nI z3) z4 z5 z6 z7 z8 z9 (nI z10) z11 z12 z13 z14 z15 (nI z16) z17 z18 z19))] ++ va_pl L M) := hD
  have hFc : ∀ q, va_A ([(za, (b13_0 0 z1 (nI z2) (nI z3) z4 z5 z6 z7 z8 z9 (nI z10) z11 z12 z13 z14 z15 (nI z16) z17 z18 z19))] ++ va_pl L M) H_1.size q → A q := pg_free hDc hS hA
  refine va_calli (va_runV (As := [.int k1]) (rest := []) ⟨hx, hb, hml, hown, hg⟩ (f_isHouse l D cy K L M H_1.size za 0 z1 z2 z3 z4 z5 z6 z7 z8 z9 z10 z11 z12 z13 z14 z15 z16 z17 z18 z19 k1  hW i1 b2 b3 i6 i7 i8 i9 b10 i11 i12 i13 i14 i15 b16 i17 i19) (cwV 1 hg (gV wd_714 wd_715 wd_716 wd_717 wd_718) rfl rfl rfl (by decide +kernel) ⟨(Nat.le_trans (Nat.le_of_ble_eq_true rfl) hRf), (Nat.le_trans (Nat.le_of_ble_eq_true rfl) hRl)⟩) ⟨PG.blind, va_recv hK hP (ci := 13) (q0 := 0) rfl rfl, fun U hU hW => ⟨rfl, PG.at hPc hK hDc hN hU hW⟩⟩ rfl rfl hl.1 rfl (lv_room (Nat.le_of_ble_eq_true rfl)) dX13_close_7 ⟨(Nat.le_trans (Nat.le_of_ble_eq_true rfl) hRc), (Nat.le_trans (Nat.le_of_ble_eq_true rfl) hRs)⟩) hS (fun q _ h => hFc q h) hFc (fun r_3 M_4 t H_2 locs ht hvm hw hB hz1 hk1 hS => ?_)
  have hp_5 := hw
  obtain ⟨hP1, hD1⟩ := hB
  rw [ht] at hP1
  have hP : va_P D vwCl ([(za, (b13_0 0 z1 (nI z2) (nI z3) z4 z5 z6 z7 z8 z9 (nI z10) z11 z12 z13 z14 z15 (nI z16) z17 z18 z19))] ++ va_pl L M) H_2 := hP1
  have hD : va_D A ([(za, (b13_0 0 z1 (nI z2) (nI z3) z4 z5 z6 z7 z8 z9 (nI z10) z11 z12 z13 z14 z15 (nI z16) z17 z18 z19))] ++ va_pl L M) := hD1.mono hFc
  rcases hp_5 with ⟨rfl, c_6, c_7, c_8⟩ | ⟨rfl, c_9⟩
  · have hz := rfl (a := 0)
    refine lv_if_ne (tgt := 19) hx hb dX13_close_10 (by decide) (fun _ => ?_) (fun c_10 => absurd c_10 (by decide))
    refine lv_aload_n hx hb dX13_close_19 rfl (lv_at hl 0 rfl) ?_
    refine va_get (D := D) (ci := 13) (v := .ref z1) (C := RX13) (T := TX13) (N := 20) hx hb hg inG13 hown hK hP 0 rfl rfl 1 (by decide) (hg _ wd_739) (fun _ h9 => h9) rfl dX13_close_20 ?_
    refine lv_iload_n hx hb dX13_close_23 rfl (lv_at hl 1 rfl) ?_
    obtain ⟨f11, hM11, hf11⟩ := hW.open_23 i1
    have hi_12 : vp_in k1 8 := (inbW (a := z2) (by omega) (inb k1 z2 (by omega) c_7 c_8))
    refine pg_aldq hx hb hK hP i1.1 9 hM11 rfl hi_12 dX13_close_24 ?_
    obtain ⟨b13, eb_14, hb_15⟩ := hf11 _ (vp_lt hi_12)
    rw [eb_14]
    have hact : ACT z1 z2 b13 M := ⟨(k1 : Int32).toNatClampNeg, vp_lt (inb k1 z2 (by omega) c_7 c_8), by rw [show RFc (M z1) = f11 from by rw [hM11]; rfl]; exact eb_14⟩
    have hAT := GI.at hGI hact
    have hV : VW K L M M b13 (fx M b13) (ax M b13) := VW.rf b13 hGI.2.2.2
    refine lv_astore_n (lv' := [(2, .ref b13), (0, .ref za), (1, .int k1)]) hx hb dX13_close_25 rfl hl (by decide) rfl (fun ls hl => ?_)
    have hb9 : RFc (M z1) (k1 : Int32).toNatClampNeg = some b13 := by rw [show RFc (M z1) = f11 from by rw [hM11]; rfl]; exact eb_14
    have hkn : (k1 : Int32).toNatClampNeg < z2 := vp_lt (inb k1 z2 (by omega) c_7 c_8)
    have hZk := hZS _ b13 hkn hb9
    have hz0 : fx M b13 0 = SX (k1 : Int32).toNatClampNeg 0 := congrFun hZk.1 0
    have hz1 : fx M b13 1 = SX (k1 : Int32).toNatClampNeg 1 := congrFun hZk.1 1
    have hz10 : fx M b13 10 = SX (k1 : Int32).toNatClampNeg 10 := congrFun hZk.1 10
    have hz11 : fx M b13 11 = SX (k1 : Int32).toNatClampNeg 11 := congrFun hZk.1 11
    have hz12 : fx M b13 12 = SX (k1 : Int32).toNatClampNeg 12 := congrFun hZk.1 12
    have hz13 : fx M b13 13 = SX (k1 : Int32).toNatClampNeg 13 := congrFun hZk.1 13
    have hz14 : fx M b13 14 = SX (k1 : Int32).toNatClampNeg 14 := congrFun hZk.1 14
    have hz15 : fx M b13 15 = SX (k1 : Int32).toNatClampNeg 15 := congrFun hZk.1 15
    have hz16 : fx M b13 16 = SX (k1 : Int32).toNatClampNeg 16 := congrFun hZk.1 16
    obtain ⟨fs16, hM16, hn16, hl16⟩ := hW.open_12 hb_15
    obtain ⟨v17, hv17, hc17⟩ : ∃ v : Nat, fs16[0]? = some (.int (nI v) : Value) ∧ v ≤ 999 := hl16 0 (by decide)
    have hx0 : (fx M b13 0) = ((v17 : Nat) : Int) := (congrFun hV.2.1 0).symm.trans ((fx_of hM16 rfl hv17).trans (nI_toInt (by omega)))
    obtain ⟨v18, hv18, hc18⟩ : ∃ v : Int32, fs16[1]? = some (.int v : Value) ∧ (v = (-1) ∨ ∃ c : Nat, c < 1000 ∧ v = nI c) := hl16 1 (by decide)
    have hx1 : (fx M b13 1) = (v18 : Int32).toInt := (congrFun hV.2.1 1).symm.trans (fx_of hM16 rfl hv18)
    obtain ⟨v19, hv19, hc19⟩ : ∃ v : Nat, fs16[11]? = some (.int (nI v) : Value) ∧ v ≤ 16 := hl16 11 (by decide)
    have hx11 : (fx M b13 11) = ((v19 : Nat) : Int) := (congrFun hV.2.1 11).symm.trans ((fx_of hM16 rfl hv19).trans (nI_toInt (by omega)))
    obtain ⟨v20, hv20, hc20⟩ : ∃ v : Nat, fs16[12]? = some (.int (nI v) : Value) ∧ v ≤ 12 := hl16 12 (by decide)
    have hx12 : (fx M b13 12) = ((v20 : Nat) : Int) := (congrFun hV.2.1 12).symm.trans ((fx_of hM16 rfl hv20).trans (nI_toInt (by omega)))
    obtain ⟨v21, hv21, hc21⟩ : ∃ v : Nat, fs16[13]? = some (.int (nI v) : Value) ∧ v ≤ 12 := hl16 13 (by decide)
    have hx13 : (fx M b13 13) = ((v21 : Nat) : Int) := (congrFun hV.2.1 13).symm.trans ((fx_of hM16 rfl hv21).trans (nI_toInt (by omega)))
    obtain ⟨v22, hv22, hc22⟩ : ∃ v : Nat, fs16[37]? = some (.ref v : Value) ∧ isk K L v 38 12 := hl16 37 (by decide)
    obtain ⟨f23, hM23, hf23⟩ := hW.open_38 hc22
    have hy37 : (ax M b13 37) = f23 := (congrFun hV.2.2.1 37).symm.trans (ax_of hM16 (by decide) hv22 hM23)
    have hb13 := hx13
    have hb12 := hx12
    have hb0 := hx0
    have hb37 := hy37
    refine lv_aload_n hx hb dX13_close_26 rfl (lv_at hl 0 rfl) ?_
    refine pg_getN (D := D) (ci := 12) (v := .int (nI v21)) (C := RX12) (T := TX12) (N := 51) hx hb hg inG12 hown hK hP hb_15.1 hM16 rfl 13 (by decide) (hN.use (Cond.fieldLinkNest RX13 244 RX12 "closed" "I" RX13) 22 rfl rfl) (fun _ h9 => h9) hv21 dX13_close_27 ?_
    refine lv_aload_n hx hb dX13_close_30 rfl (lv_at hl 0 rfl) ?_
    refine pg_getN (D := D) (ci := 12) (v := .int (nI v20)) (C := RX12) (T := TX12) (N := 51) hx hb hg inG12 hown hK hP hb_15.1 hM16 rfl 12 (by decide) (hN.use (Cond.fieldLinkNest RX13 233 RX12 "years" "I" RX13) 21 rfl rfl) (fun _ h9 => h9) hv20 dX13_close_31 ?_
    refine lv_icmp_ne (tgt := 44) hx hb dX13_close_34 (by decide) (fun c_24 => ?_) (fun c_24 => ?_)
    · have hz := rfl (a := 0)
      have n_25 : ¬ (v21 = v20) := fun q => c_24 ((iEQ (a := v21) (b := v20) (by omega) (by omega)).mpr q)
      refine lv_aload_n hx hb dX13_close_44 rfl (lv_at hl 0 rfl) ?_
      refine pg_getN (D := D) (ci := 12) (v := .int (nI v19)) (C := RX12) (T := TX12) (N := 51) hx hb hg inG12 hown hK hP hb_15.1 hM16 rfl 11 (by decide) (hN.use (Cond.fieldLinkNest RX13 142 RX12 "rules" "I" RX13) 20 rfl rfl) (fun _ h9 => h9) hv19 dX13_close_45 ?_
      refine lv_if_ne (tgt := 57) hx hb dX13_close_48 (by decide) (fun c_26 => ?_) (fun c_26 => ?_)
      · have hz := rfl (a := 0)
        have n_27 : ¬ (v19 = 0) := fun q => c_26 ((iEQ (a := v19) (b := 0) (by omega) (by omega)).mpr q)
        refine lv_aload_n hx hb dX13_close_57 rfl (lv_at hl 0 rfl) ?_
        refine pg_getN (D := D) (ci := 12) (v := .int v18) (C := RX12) (T := TX12) (N := 51) hx hb hg inG12 hown hK hP hb_15.1 hM16 rfl 1 (by decide) (hN.use (Cond.fieldLinkNest RX13 80 RX12 "to" "I" RX13) 10 rfl rfl) (fun _ h9 => h9) hv18 dX13_close_58 ?_
        rcases hc18 with rfl | ⟨c_28, hc_29, rfl⟩
        · have hz := rfl (a := 0)
          refine lv_iconst (v := 1) hx hb dX13_close_61 (by decide) ?_
          refine lv_iadd hx hb dX13_close_62 ?_
          refine lv_topi (fun f_30 ef_30 => ?_)
          obtain rfl : f_30 = 0 := by rw [ef_30]; decide
          refine lv_istore_n (lv' := [(3, .int 0), (2, .ref b13), (0, .ref za), (1, .int k1)]) hx hb dX13_close_63 rfl hl (by decide) rfl (fun ls hl => ?_)
          have hlt13 : v21 < v20 := by have h := hAT.2.2.2.2.1; omega
          refine lv_aload_n hx hb dX13_close_64 rfl (lv_at hl 1 rfl) ?_
          refine pg_getN (D := D) (ci := 12) (v := .ref v22) (C := RX12) (T := TX12) (N := 51) hx hb hg inG12 hown hK hP hb_15.1 hM16 rfl 37 (by decide) (hN.use (Cond.fieldLinkNest RX13 236 RX12 "end" "[I" RX13) 46 rfl rfl) (fun _ h9 => h9) hv22 dX13_close_65 ?_
          refine lv_aload_n hx hb dX13_close_68 rfl (lv_at hl 1 rfl) ?_
          refine pg_getN (D := D) (ci := 12) (v := .int (nI v21)) (C := RX12) (T := TX12) (N := 51) hx hb hg inG12 hown hK hP hb_15.1 hM16 rfl 13 (by decide) (hN.use (Cond.fieldLinkNest RX13 244 RX12 "closed" "I" RX13) 22 rfl rfl) (fun _ h9 => h9) hv21 dX13_close_69 ?_
          have hi_31 : vp_in (nI v21) 12 := (inbN v21 12 (by omega) (by omega))
          refine pg_iald hx hb hK hP hc22.1 0 hM23 rfl hi_31 dX13_close_72 ?_
          have hp_32 := hf23 _ (vp_lt hi_31)
          obtain ⟨c_33, hc_34, ec_35⟩ := hp_32
          rw [ec_35]
          refine lv_istore (lv' := [(4, .int (nI c_33)), (3, .int 0), (2, .ref b13), (0, .ref za), (1, .int k1)]) hx hb dX13_close_73 hl (by decide) rfl (fun ls hl => ?_)
          have hx1b : fx M b13 1 = ((0 : Nat) : Int) - 1 := by rw [hx1]; first | decide | (rw [nI_toInt (by omega)]; omega)
          obtain ⟨hq1, hq2, hq3, hq4⟩ := heC hAT.2.2.2.2 hb13 hb12 (by omega) (by omega) hb37 (nI_cl (by omega)) ec_35 (by omega)
          have h11 : 1 ≤ fx M b13 11 := by omega
          have hT37 : (ax M b13 37 v21).toInt = ((c_33 : Nat) : Int) := by
            have h := ec_35
            rw [nI_cl (by omega)] at h
            rw [hb37, h, nI_toInt (by omega)]
          have hEd : enD (SX (k1 : Int32).toNatClampNeg) (SY (k1 : Int32).toNatClampNeg) = ((c_33 : Nat) : Int) := by unfold enD; rw [← hZk.2, show (SX (k1 : Int32).toNatClampNeg 13).toNat = v21 by omega]; exact hT37
          refine lv_iload_n hx hb dX13_close_75 rfl (lv_at hl 1 rfl) ?_
          refine lv_istore (lv' := [(5, .int 0), (4, .int (nI c_33)), (3, .int 0), (2, .ref b13), (0, .ref za), (1, .int k1)]) hx hb dX13_close_76 hl (by decide) rfl (fun ls hl => ?_)
          have key_36 : ∀ (fu_38 : Nat) (v5w39 : Nat) (M_43 : Hp) (H_44 : Heap) (locs : List Loc) (ls : Array Slot), 1001 - v5w39 < fu_38 → M_43 b13 = .inr (12, fs16) → v5w39 ≤ 1000 → (∀ d : Nat, SX (k1 : Int32).toNatClampNeg 1 < (d : Int) → d < v5w39 → ¬ opD (SY (k1 : Int32).toNatClampNeg) d) → SX (k1 : Int32).toNatClampNeg 1 < ((v5w39 : Nat) : Int) → WOM cy K L M_43 → fr K L [12, 14, 15, 32, 42, 45, 46, 79, 80, 81, 83] M M_43 → fG K L [1, 7, 8, 13, 14, 15, 16, 17, 18] M M_43 → VW K L M M_43 b13 (fx M b13) (ax M b13) → va_P D vwCl ([(za, (b13_0 0 z1 (nI z2) (nI z3) z4 z5 z6 z7 z8 z9 (nI z10) z11 z12 z13 z14 z15 (nI z16) z17 z18 z19))] ++ va_pl L M_43) H_44 → va_D A ([(za, (b13_0 0 z1 (nI z2) (nI z3) z4 z5 z6 z7 z8 z9 (nI z10) z11 z12 z13 z14 z15 (nI z16) z17 z18 z19))] ++ va_pl L M_43) → va_S A s.heap H_44 locs → lv_has ls 8 [(5, .int (nI v5w39)), (4, .int (nI c_33)), (3, .int 0), (2, .ref b13), (0, .ref za), (1, .int k1)] → W p l e R s m ([.ref za, .int k1] : List Value).toArray below meth c H_44 locs 0 0 Q (F0 m 78 ls []) := by
            intro fu_38
            induction fu_38 with
            | zero => intro v5w39 M_43 H_44 locs ls h; exact absurd h (Nat.not_lt_zero _)
            | succ fu_38 ih_37 =>
              intro v5w39 M_43 H_44 locs ls hfu hM_45 hx_40 hx_41 hx_42 hW hF hG hV hP hD hS hl
              refine lv_iload hx hb dX13_close_78 (lv_at hl 0 rfl) ?_
              refine lv_iload hx hb dX13_close_80 (lv_at hl 1 rfl) ?_
              refine lv_icmp_gt (tgt := 108) hx hb dX13_close_82 (by decide) (fun c_46 => ?_) (fun c_46 => ?_)
              · have hz := rfl (a := 0)
                have n_47 : c_33 < v5w39 := (iLT (a := c_33) (b := v5w39) (by omega) (by omega)).mp c_46
                have hall := hx_41
                have hv5 : c_33 < v5w39 := by omega
                have hI_48 : (0 : Int) ≤ (k1 : Int32).toInt := inltI rfl rfl c_7
                have hI_49 : (k1 : Int32).toInt < ((z2 : Nat) : Int) := inleI (nI_toInt (by omega)) rfl c_8
                have hI_50 : ((v21 : Nat) : Int) ≠ ((v20 : Nat) : Int) := ineI (nI_toInt (by omega)) (nI_toInt (by omega)) c_24
                have hI_51 : ((v19 : Nat) : Int) ≠ (0 : Int) := ineI (nI_toInt (by omega)) rfl c_26
                have hI_52 : ((c_33 : Nat) : Int) < ((v5w39 : Nat) : Int) := iltI (nI_toInt (by omega)) (nI_toInt (by omega)) c_46
                have hZSw := ZSx.fin hW0 i1 b2 hZS hGI.1 hkn hb9 hV (hF.at i1 (by decide)) hZk.1 hZk.2
                rw [va_upJ, va_upJ] at hZSw
                have hZPw := ZP.mv hZP i6 i7 hF (by decide) (by decide)
                refine lv_aload_n hx hb dX13_close_108 rfl (lv_at hl 4 rfl) ?_
                refine lv_iload_n hx hb dX13_close_109 rfl (lv_at hl 5 rfl) ?_
                refine lv_iload hx hb dX13_close_110 (lv_at hl 1 rfl) ?_
                have hPc : va_P D vwCl ([(za, (b13_0 0 z1 (nI z2) (nI z3) z4 z5 z6 z7 z8 z9 (nI z10) z11 z12 z13 z14 z15 (nI z16) z17 z18 z19))] ++ va_pl L M_43) H_44 := hP
                have hDc : va_D A ([(za, (b13_0 0 z1 (nI z2) (nI z3) z4 z5 z6 z7 z8 z9 (nI z10) z11 z12 z13 z14 z15 (nI z16) z17 z18 z19))] ++ va_pl L M_43) := hD
                have hFc : ∀ q, va_A ([(za, (b13_0 0 z1 (nI z2) (nI z3) z4 z5 z6 z7 z8 z9 (nI z10) z11 z12 z13 z14 z15 (nI z16) z17 z18 z19))] ++ va_pl L M_43) H_44.size q → A q := pg_free hDc hS hA
                refine va_calli (va_runV (As := [.int k1, .int (nI c_33)]) (rest := []) ⟨hx, hb, hml, hown, hg⟩ (z_behind l D cy K L M_43 H_44.size za 0 z1 z2 z3 z4 z5 z6 z7 z8 z9 z10 z11 z12 z13 z14 z15 z16 z17 z18 z19 k1 (nI c_33) SX SY PK PT  hW i1 b2 b3 i6 i7 i8 i9 b10 i11 i12 i13 i14 i15 b16 i17 i19 hZSw hZPw (by omega)) (cwV 2 hg (gV wd_853 wd_854 wd_855 wd_717 wd_856) rfl rfl rfl (by decide +kernel) ⟨(Nat.le_trans (Nat.le_of_ble_eq_true rfl) hRf), (Nat.le_trans (Nat.le_of_ble_eq_true rfl) hRl)⟩) ⟨PG.blind, va_recv hK hP (ci := 13) (q0 := 0) rfl rfl, fun U hU hW => ⟨rfl, PG.at hPc hK hDc hN hU hW⟩⟩ rfl rfl hl.1 rfl (lv_room (Nat.le_of_ble_eq_true rfl)) dX13_close_112 ⟨(Nat.le_trans (Nat.le_of_ble_eq_true rfl) hRc), (Nat.le_trans (Nat.le_of_ble_eq_true rfl) hRs)⟩) hS (fun q _ h => hFc q h) hFc (fun r_54 M_55 t H_53 locs ht hvm hw hB hz1 hk1 hS => ?_)
                have hp_56 := hw
                obtain ⟨hP1, hD1⟩ := hB
                rw [ht] at hP1
                have hP : va_P D vwCl ([(za, (b13_0 0 z1 (nI z2) (nI z3) z4 z5 z6 z7 z8 z9 (nI z10) z11 z12 z13 z14 z15 (nI z16) z17 z18 z19))] ++ va_pl L M_43) H_53 := hP1
                have hD : va_D A ([(za, (b13_0 0 z1 (nI z2) (nI z3) z4 z5 z6 z7 z8 z9 (nI z10) z11 z12 z13 z14 z15 (nI z16) z17 z18 z19))] ++ va_pl L M_43) := hD1.mono hFc
                rcases hp_56 with ⟨rfl, c_57⟩ | ⟨j_58, rfl, c_59, c_60, c_61, c_62⟩
                · have hz := rfl (a := 0)
                  refine lv_istore (lv' := [(5, .int (-1)), (4, .int (nI c_33)), (3, .int 0), (2, .ref b13), (0, .ref za), (1, .int k1)]) hx hb dX13_close_115 hl (by decide) rfl (fun ls hl => ?_)
                  refine lv_iload hx hb dX13_close_117 (lv_at hl 0 rfl) ?_
                  refine lv_iconst (v := (-1)) hx hb dX13_close_119 (by decide) ?_
                  refine lv_icmp_eq (tgt := 132) hx hb dX13_close_120 (by decide) (fun _ => ?_) (fun c_63 => absurd c_63 (by decide))
                  refine lv_aload_n hx hb dX13_close_132 rfl (lv_at hl 3 rfl) ?_
                  refine lv_iconst (v := 0) hx hb dX13_close_133 (by decide) ?_
                  refine pg_putN (D := D) (ci := 12) (v := .int 0) (ty := .int) (C := RX12) (T := TX12) (N := 51) hx hb hg inG12 tyX12 tyX12_ok nmX12 hown hK hP hD hS hb_15.1 hM_45 rfl 17 (by decide) (hN.use (Cond.fieldLinkNest RX13 256 RX12 "stretches" "I" RX13) 26 rfl rfl) (fun _ h9 => h9) rfl (by decide +kernel) rfl rfl (by rw [hn16]; decide) dX13_close_134 (fun H_64 locs hP hD hS => ?_)
                  have hs_67 : (fs16.set 17 (.int 0))[17]? = some (.int (nI 0)) := List.getElem?_set_self (by rw [hn16]; decide)
                  have hk_66 := fld12_set (k := 17) (w := .int 0) hl16 (show fld12 K L 17 (fs16.set 17 (.int 0)) from ⟨0, hs_67, by omega⟩)
                  have hn_68 : (fs16.set 17 (.int 0)).length = 51 := by rw [List.length_set]; exact hn16
                  have hv_69 : (fs16.set 17 (.int 0))[0]? = some (.int (nI v17)) := by rw [List.getElem?_set_ne (by decide)]; exact hv17
                  have hv_70 : (fs16.set 17 (.int 0))[1]? = some (.int (-1)) := by rw [List.getElem?_set_ne (by decide)]; exact hv18
                  have hv_71 : (fs16.set 17 (.int 0))[11]? = some (.int (nI v19)) := by rw [List.getElem?_set_ne (by decide)]; exact hv19
                  have hv_72 : (fs16.set 17 (.int 0))[12]? = some (.int (nI v20)) := by rw [List.getElem?_set_ne (by decide)]; exact hv20
                  have hv_73 : (fs16.set 17 (.int 0))[13]? = some (.int (nI v21)) := by rw [List.getElem?_set_ne (by decide)]; exact hv21
                  have hv_74 : (fs16.set 17 (.int 0))[37]? = some (.ref v22) := by rw [List.getElem?_set_ne (by decide)]; exact hv22
                  have hb_75 : 0 ≤ 120 := by omega
                  obtain ⟨M_76, eM_76⟩ : ∃ M1 : Hp, M1 = va_up M_43 b13 (.inr (12, fs16.set 17 (.int 0))) := ⟨_, rfl⟩
                  have hV : VW K L M M_76 b13 (va_up (fx M b13) 17 (0 : Int)) (ax M b13) := by rw [eM_76]; exact hV.put hW hb_15 hM_45 hn16 rfl (by decide) rfl (by decide)
                  have hP : va_P D vwCl ([(za, (b13_0 0 z1 (nI z2) (nI z3) z4 z5 z6 z7 z8 z9 (nI z10) z11 z12 z13 z14 z15 (nI z16) z17 z18 z19))] ++ va_pl L M_76) H_64 := by rw [eM_76]; exact hP
                  have hD : va_D A ([(za, (b13_0 0 z1 (nI z2) (nI z3) z4 z5 z6 z7 z8 z9 (nI z10) z11 z12 z13 z14 z15 (nI z16) z17 z18 z19))] ++ va_pl L M_76) := by rw [eM_76]; exact hD
                  have hW : WOM cy K L M_76 := by rw [eM_76]; exact hW.up_12 hb_15 ⟨_, rfl, hn_68, hk_66⟩
                  have hF : fr K L [12, 14, 15, 32, 42, 45, 46, 79, 80, 81, 83] M M_76 := by rw [eM_76]; exact hF.up hb_15 (by decide)
                  have hG : fG K L [1, 7, 8, 13, 14, 15, 16, 17, 18] M M_76 := by rw [eM_76]; exact hG.up hM_45 (by decide)
                  have hM_77 : M_76 b13 = .inr (12, fs16.set 17 (.int 0)) := by rw [eM_76]; exact va_up_self _ _ _
                  refine lv_iconst (v := 0) hx hb dX13_close_137 (by decide) ?_
                  refine lv_istore (lv' := [(6, .int 0), (5, .int (-1)), (4, .int (nI c_33)), (3, .int 0), (2, .ref b13), (0, .ref za), (1, .int k1)]) hx hb dX13_close_138 hl (by decide) rfl (fun ls hl => ?_)
                  have key_78 : ∀ (fu_80 : Nat) (v6w81 : Nat) (M_83 : Hp) (H_84 : Heap) (locs : List Loc) (ls : Array Slot), 24 - v6w81 < fu_80 → M_83 b13 = .inr (12, fs16.set 17 (.int 0)) → v6w81 ≤ 24 → WOM cy K L M_83 → fr K L [12, 14, 15, 32, 42, 45, 46, 79, 80, 81, 83] M M_83 → fG K L [1, 7, 8, 13, 14, 15, 16, 17, 18] M M_83 → VW K L M M_83 b13 (va_up (fx M b13) 17 (0 : Int)) (ax M b13) → va_P D vwCl ([(za, (b13_0 0 z1 (nI z2) (nI z3) z4 z5 z6 z7 z8 z9 (nI z10) z11 z12 z13 z14 z15 (nI z16) z17 z18 z19))] ++ va_pl L M_83) H_84 → va_D A ([(za, (b13_0 0 z1 (nI z2) (nI z3) z4 z5 z6 z7 z8 z9 (nI z10) z11 z12 z13 z14 z15 (nI z16) z17 z18 z19))] ++ va_pl L M_83) → va_S A s.heap H_84 locs → lv_has ls 8 [(6, .int (nI v6w81)), (5, .int (-1)), (4, .int (nI c_33)), (3, .int 0), (2, .ref b13), (0, .ref za), (1, .int k1)] → W p l e R s m ([.ref za, .int k1] : List Value).toArray below meth c H_84 locs 0 0 Q (F0 m 140 ls []) := by
                    intro fu_80
                    induction fu_80 with
                    | zero => intro v6w81 M_83 H_84 locs ls h; exact absurd h (Nat.not_lt_zero _)
                    | succ fu_80 ih_79 =>
                      intro v6w81 M_83 H_84 locs ls hfu hM_85 hx_82 hW hF hG hV hP hD hS hl
                      refine lv_iload hx hb dX13_close_140 (lv_at hl 0 rfl) ?_
                      refine lv_bipush (v := 24) hx hb dX13_close_142 (by decide) ?_
                      refine lv_icmp_ge (tgt := 161) hx hb dX13_close_144 (by decide) (fun c_86 => ?_) (fun c_86 => ?_)
                      · have hz := rfl (a := 0)
                        have n_87 : 24 ≤ v6w81 := (iLE (a := 24) (b := v6w81) (by omega) (by omega)).mp c_86
                        refine lv_iload_n hx hb dX13_close_161 rfl (lv_at hl 3 rfl) ?_
                        refine lv_istore (lv' := [(6, .int 0), (5, .int (-1)), (4, .int (nI c_33)), (3, .int 0), (2, .ref b13), (0, .ref za), (1, .int k1)]) hx hb dX13_close_162 hl (by decide) rfl (fun ls hl => ?_)
                        have key_88 : ∀ (fu_90 : Nat) (v6w91 : Nat) (gnw91 : Nat) (gpw91 : Nat → Int32) (gqw91 : Nat → Int32) (M_94 : Hp) (H_95 : Heap) (locs : List Loc) (ls : Array Slot), 1001 - v6w91 < fu_90 → v6w91 ≤ c_33 + 1 → SD 0 gnw91 v6w91 gpw91 gqw91 → WOM cy K L M_94 → fr K L [12, 14, 15, 32, 42, 45, 46, 79, 80, 81, 83] M M_94 → fG K L [1, 7, 8, 13, 14, 15, 16, 17, 18] M M_94 → VW K L M M_94 b13 (va_up (fx M b13) 17 ((gnw91 : Nat) : Int)) (va_up (va_up (ax M b13) 44 gpw91) 45 gqw91) → va_P D vwCl ([(za, (b13_0 0 z1 (nI z2) (nI z3) z4 z5 z6 z7 z8 z9 (nI z10) z11 z12 z13 z14 z15 (nI z16) z17 z18 z19))] ++ va_pl L M_94) H_95 → va_D A ([(za, (b13_0 0 z1 (nI z2) (nI z3) z4 z5 z6 z7 z8 z9 (nI z10) z11 z12 z13 z14 z15 (nI z16) z17 z18 z19))] ++ va_pl L M_94) → va_S A s.heap H_95 locs → lv_has ls 8 [(6, .int (nI v6w91)), (5, .int (-1)), (4, .int (nI c_33)), (3, .int 0), (2, .ref b13), (0, .ref za), (1, .int k1)] → W p l e R s m ([.ref za, .int k1] : List Value).toArray below meth c H_95 locs 0 0 Q (F0 m 164 ls []) := by
                          intro fu_90
                          induction fu_90 with
                          | zero => intro v6w91 gnw91 gpw91 gqw91 M_94 H_95 locs ls h; exact absurd h (Nat.not_lt_zero _)
                          | succ fu_90 ih_89 =>
                            intro v6w91 gnw91 gpw91 gqw91 M_94 H_95 locs ls hfu hx_92 hx_93 hW hF hG hV hP hD hS hl
                            refine lv_iload hx hb dX13_close_164 (lv_at hl 0 rfl) ?_
                            refine lv_iload hx hb dX13_close_166 (lv_at hl 2 rfl) ?_
                            refine lv_icmp_gt (tgt := 238) hx hb dX13_close_168 (by decide) (fun c_96 => ?_) (fun c_96 => ?_)
                            · have hz := rfl (a := 0)
                              have n_97 : c_33 < v6w91 := (iLT (a := c_33) (b := v6w91) (by omega) (by omega)).mp c_96
                              obtain ⟨fs98, hM98, hn98, hl98⟩ := hW.open_12 hb_15
                              obtain ⟨v99, hv99, hc99⟩ : ∃ v : Nat, fs98[17]? = some (.int (nI v) : Value) ∧ v ≤ 120 := hl98 17 (by decide)
                              have hx17 : ((gnw91 : Nat) : Int) = ((v99 : Nat) : Int) := (congrFun hV.2.1 17).symm.trans ((fx_of hM98 rfl hv99).trans (nI_toInt (by omega)))
                              have hSD := hx_93
                              obtain ⟨hs1, hs2, hs3, hs4⟩ := hx_93
                              have hNn : 1 ≤ gnw91 ∧ 1 ≤ (gqw91 0).toInt := by rcases hs3 with q | q <;> first | exact q | omega
                              have hN1 := hNn.1
                              have hs45 := hNn.2
                              refine lv_aload_n hx hb dX13_close_238 rfl (lv_at hl 4 rfl) ?_
                              refine pg_getN (D := D) (ci := 12) (v := .int (nI v99)) (C := RX12) (T := TX12) (N := 51) hx hb hg inG12 hown hK hP hb_15.1 hM98 rfl 17 (by decide) (hN.use (Cond.fieldLinkNest RX13 256 RX12 "stretches" "I" RX13) 26 rfl rfl) (fun _ h9 => h9) hv99 dX13_close_239 ?_
                              refine lv_istore (lv' := [(6, .int (nI v99)), (5, .int (-1)), (4, .int (nI c_33)), (3, .int 0), (2, .ref b13), (0, .ref za), (1, .int k1)]) hx hb dX13_close_242 hl (by decide) rfl (fun ls hl => ?_)
                              refine lv_aload_n hx hb dX13_close_244 rfl (lv_at hl 5 rfl) ?_
                              refine lv_aload_n hx hb dX13_close_245 rfl (lv_at hl 4 rfl) ?_
                              refine lv_iload hx hb dX13_close_246 (lv_at hl 0 rfl) ?_
                              have hPc : va_P D vwCl ([(za, (b13_0 0 z1 (nI z2) (nI z3) z4 z5 z6 z7 z8 z9 (nI z10) z11 z12 z13 z14 z15 (nI z16) z17 z18 z19))] ++ va_pl L M_94) H_95 := hP
                              have hDc : va_D A ([(za, (b13_0 0 z1 (nI z2) (nI z3) z4 z5 z6 z7 z8 z9 (nI z10) z11 z12 z13 z14 z15 (nI z16) z17 z18 z19))] ++ va_pl L M_94) := hD
                              have hFc : ∀ q, va_A ([(za, (b13_0 0 z1 (nI z2) (nI z3) z4 z5 z6 z7 z8 z9 (nI z10) z11 z12 z13 z14 z15 (nI z16) z17 z18 z19))] ++ va_pl L M_94) H_95.size q → A q := pg_free hDc hS hA
                              refine va_callv (va_runV (As := [.ref b13, .int (nI v99)]) (rest := []) ⟨hx, hb, hml, hown, hg⟩ (g_X13_looses l D cy K L M_94 H_95.size za 0 z1 z2 z3 z4 z5 z6 z7 z8 z9 z10 z11 z12 z13 z14 z15 z16 z17 z18 z19 b13 v99  hW i1 b2 b3 i6 i7 i8 i9 b10 i11 i12 i13 i14 i15 b16 i17 i19 hb_15 (by omega) hV.2.2.2 (by omega) (by rw [hV.2.2.1]; exact hs45)) (cwV 2 hg (gV wd_857 wd_858 wd_859 wd_717 wd_860) rfl rfl rfl (by decide +kernel) ⟨(Nat.le_trans (Nat.le_of_ble_eq_true rfl) hRf), (Nat.le_trans (Nat.le_of_ble_eq_true rfl) hRl)⟩) ⟨PG.blind, va_recv hK hP (ci := 13) (q0 := 0) rfl rfl, fun U hU hW => ⟨rfl, PG.at hPc hK hDc hN hU hW⟩⟩ rfl rfl hl.1 rfl (lv_room (Nat.le_of_ble_eq_true rfl)) dX13_close_248 ⟨(Nat.le_trans (Nat.le_of_ble_eq_true rfl) hRc), (Nat.le_trans (Nat.le_of_ble_eq_true rfl) hRs)⟩) hS (fun q _ h => hFc q h) hFc (fun M_102 t H_100 locs ht hvm hw hB hz1 hk1 hS => ?_)
                              have hWb := hW
                              obtain ⟨hW, hF2, hG2, hp_103⟩ := hw
                              obtain ⟨hP1, hD1⟩ := hB
                              rw [ht] at hP1
                              have hP : va_P D vwCl ([(za, (b13_0 0 z1 (nI z2) (nI z3) z4 z5 z6 z7 z8 z9 (nI z10) z11 z12 z13 z14 z15 (nI z16) z17 z18 z19))] ++ va_pl L M_102) H_100 := hP1
                              have hD : va_D A ([(za, (b13_0 0 z1 (nI z2) (nI z3) z4 z5 z6 z7 z8 z9 (nI z10) z11 z12 z13 z14 z15 (nI z16) z17 z18 z19))] ++ va_pl L M_102) := hD1.mono hFc
                              have hM_104 : M_102 b13 = .inr (12, fs98) := (hF2.at hb_15 (by decide)).trans hM98
                              have hF : fr K L [12, 14, 15, 32, 42, 45, 46, 79, 80, 81, 83] M M_102 := hF.tr hF2 (by decide)
                              have hG : fG K L [1, 7, 8, 13, 14, 15, 16, 17, 18] M M_102 := hG.tr hWb hG2 (by decide)
                              have hV : VW K L M M_102 b13 (va_up (fx M b13) 17 ((gnw91 : Nat) : Int)) (va_up (va_up (ax M b13) 44 gpw91) 45 gqw91) := hV.cal hWb hW hF2 hG2 (by decide) (by decide) hb_15
                              refine lv_iconst (v := 0) hx hb dX13_close_251 (by decide) ?_
                              refine lv_istore (lv' := [(7, .int 0), (6, .int (nI v99)), (5, .int (-1)), (4, .int (nI c_33)), (3, .int 0), (2, .ref b13), (0, .ref za), (1, .int k1)]) hx hb dX13_close_252 hl (by decide) rfl (fun ls hl => ?_)
                              have key_105 : ∀ (fu_107 : Nat) (v7w108 : Nat) (zgw108 : Nat) (M_111 : Hp) (H_112 : Heap) (locs : List Loc) (ls : Array Slot), 1001 - v7w108 < fu_107 → v7w108 ≤ v99 → zgw108 ≤ 24 → WOM cy K L M_111 → fr K L [12, 14, 15, 32, 42, 45, 46, 79, 80, 81, 83] M M_111 → fG K L [1, 7, 8, 13, 14, 15, 16, 17, 18] M M_111 → VW K L M M_111 b13 (va_up (fx M b13) 17 ((gnw91 : Nat) : Int)) (va_up (va_up (ax M b13) 44 gpw91) 45 gqw91) → va_P D vwCl ([(za, (b13_0 0 z1 (nI z2) (nI z3) z4 z5 z6 z7 z8 z9 (nI z10) z11 z12 z13 z14 z15 (nI zgw108) z17 z18 z19))] ++ va_pl L M_111) H_112 → va_D A ([(za, (b13_0 0 z1 (nI z2) (nI z3) z4 z5 z6 z7 z8 z9 (nI z10) z11 z12 z13 z14 z15 (nI zgw108) z17 z18 z19))] ++ va_pl L M_111) → va_S A s.heap H_112 locs → lv_has ls 8 [(7, .int (nI v7w108)), (6, .int (nI v99)), (5, .int (-1)), (4, .int (nI c_33)), (3, .int 0), (2, .ref b13), (0, .ref za), (1, .int k1)] → W p l e R s m ([.ref za, .int k1] : List Value).toArray below meth c H_112 locs 0 0 Q (F0 m 254 ls []) := by
                                intro fu_107
                                induction fu_107 with
                                | zero => intro v7w108 zgw108 M_111 H_112 locs ls h; exact absurd h (Nat.not_lt_zero _)
                                | succ fu_107 ih_106 =>
                                  intro v7w108 zgw108 M_111 H_112 locs ls hfu hx_109 hx_110 hW hF hG hV hP hD hS hl
                                  refine lv_iload hx hb dX13_close_254 (lv_at hl 0 rfl) ?_
                                  refine lv_iload hx hb dX13_close_256 (lv_at hl 1 rfl) ?_
                                  refine lv_icmp_ge (tgt := 275) hx hb dX13_close_258 (by decide) (fun c_113 => ?_) (fun c_113 => ?_)
                                  · have hz := rfl (a := 0)
                                    have n_114 : v99 ≤ v7w108 := (iLE (a := v99) (b := v7w108) (by omega) (by omega)).mp c_113
                                    refine lv_iconst (v := 0) hx hb dX13_close_275 (by decide) ?_
                                    refine lv_istore (lv' := [(7, .int 0), (6, .int (nI v99)), (5, .int (-1)), (4, .int (nI c_33)), (3, .int 0), (2, .ref b13), (0, .ref za), (1, .int k1)]) hx hb dX13_close_276 hl (by decide) rfl (fun ls hl => ?_)
                                    have key_115 : ∀ (fu_117 : Nat) (v7w118 : Nat) (zgw118 : Nat) (gnw118 : Nat) (gpw118 : Nat → Int32) (gqw118 : Nat → Int32) (M_122 : Hp) (H_123 : Heap) (locs : List Loc) (ls : Array Slot), 24 - v7w118 < fu_117 → v7w118 ≤ 20 → zgw118 ≤ 24 → gnw118 ≤ 100 + v7w118 → WOM cy K L M_122 → fr K L [12, 14, 15, 32, 42, 45, 46, 79, 80, 81, 83] M M_122 → fG K L [1, 7, 8, 13, 14, 15, 16, 17, 18] M M_122 → VW K L M M_122 b13 (va_up (fx M b13) 17 ((gnw118 : Nat) : Int)) (va_up (va_up (ax M b13) 44 gpw118) 45 gqw118) → va_P D vwCl ([(za, (b13_0 0 z1 (nI z2) (nI z3) z4 z5 z6 z7 z8 z9 (nI z10) z11 z12 z13 z14 z15 (nI zgw118) z17 z18 z19))] ++ va_pl L M_122) H_123 → va_D A ([(za, (b13_0 0 z1 (nI z2) (nI z3) z4 z5 z6 z7 z8 z9 (nI z10) z11 z12 z13 z14 z15 (nI zgw118) z17 z18 z19))] ++ va_pl L M_122) → va_S A s.heap H_123 locs → lv_has ls 8 [(7, .int (nI v7w118)), (6, .int (nI v99)), (5, .int (-1)), (4, .int (nI c_33)), (3, .int 0), (2, .ref b13), (0, .ref za), (1, .int k1)] → W p l e R s m ([.ref za, .int k1] : List Value).toArray below meth c H_123 locs 0 0 Q (F0 m 278 ls []) := by
                                      intro fu_117
                                      induction fu_117 with
                                      | zero => intro v7w118 zgw118 gnw118 gpw118 gqw118 M_122 H_123 locs ls h; exact absurd h (Nat.not_lt_zero _)
                                      | succ fu_117 ih_116 =>
                                        intro v7w118 zgw118 gnw118 gpw118 gqw118 M_122 H_123 locs ls hfu hx_119 hx_120 hx_121 hW hF hG hV hP hD hS hl
                                        refine lv_iload hx hb dX13_close_278 (lv_at hl 0 rfl) ?_
                                        refine lv_aload_n hx hb dX13_close_280 rfl (lv_at hl 5 rfl) ?_
                                        obtain ⟨fs124, hM124, hn124, hl124⟩ := hW.open_12 hb_15
                                        obtain ⟨v125, hv125, hc125⟩ : ∃ v : Nat, fs124[15]? = some (.int (nI v) : Value) ∧ v ≤ 20 := hl124 15 (by decide)
                                        refine pg_getN (D := D) (ci := 12) (v := .int (nI v125)) (C := RX12) (T := TX12) (N := 51) hx hb hg inG12 hown hK hP hb_15.1 hM124 rfl 15 (by decide) (hN.use (Cond.fieldLinkNest RX13 279 RX12 "mends" "I" RX13) 24 rfl rfl) (fun _ h9 => h9) hv125 dX13_close_281 ?_
                                        refine lv_icmp_ge (tgt := 300) hx hb dX13_close_284 (by decide) (fun c_126 => ?_) (fun c_126 => ?_)
                                        · have hz := rfl (a := 0)
                                          have n_127 : v125 ≤ v7w118 := (iLE (a := v125) (b := v7w118) (by omega) (by omega)).mp c_126
                                          refine lv_aload_n hx hb dX13_close_300 rfl (lv_at hl 5 rfl) ?_
                                          refine lv_iload_n hx hb dX13_close_301 rfl (lv_at hl 4 rfl) ?_
                                          refine lv_iload hx hb dX13_close_302 (lv_at hl 3 rfl) ?_
                                          have hPc : va_P D vwCl ([] ++ va_pl L M_122) H_123 := hP.part (cx := []) [] rfl
                                          have hDc : va_D A ([] ++ va_pl L M_122) := hD.part (cx := []) [] (by decide) rfl
                                          have hFc : ∀ q, va_A ([] ++ va_pl L M_122) H_123.size q → A q := pg_free hDc hS hA
                                          refine va_callv (va_runS (As := [.ref b13, .int 0, .int (nI c_33)]) (rest := []) ⟨hx, hb, hml, hown, hg⟩ (r_settled2 l D cy K L M_122 H_123.size b13 0 (nI c_33)  hW hb_15 hV.2.2.2) (va_cwS 3 hg (gS wd_861 wd_862 wd_717 wd_863) rfl rfl rfl (by decide +kernel) ⟨(Nat.le_trans (Nat.le_of_ble_eq_true rfl) hRf), (Nat.le_trans (Nat.le_of_ble_eq_true rfl) hRl)⟩) ⟨PG.blind, fun U hU hW => ⟨rfl, PG.at hPc hK hDc hN hU hW⟩⟩ rfl rfl hl.1 rfl (lv_room (Nat.le_of_ble_eq_true rfl)) dX13_close_304 ⟨(Nat.le_trans (Nat.le_of_ble_eq_true rfl) hRc), (Nat.le_trans (Nat.le_of_ble_eq_true rfl) hRs)⟩) hS (fun q _ h => hFc q h) hFc (fun M_130 t H_128 locs ht hvm hw hB hz1 hk1 hS => ?_)
                                          have hWb := hW
                                          obtain ⟨hW, hF2, hG2, hVP, hp_131⟩ := hw
                                          obtain ⟨hP1, hD1⟩ := hB
                                          rw [ht] at hP1
                                          obtain ⟨hP, hD⟩ := va_joinP (X := [(za, (b13_0 0 z1 (nI z2) (nI z3) z4 z5 z6 z7 z8 z9 (nI z10) z11 z12 z13 z14 z15 (nI zgw118) z17 z18 z19))]) (cx := []) (wr := [(za, (b13_0 0 z1 (nI z2) (nI z3) z4 z5 z6 z7 z8 z9 (nI z10) z11 z12 z13 z14 z15 (nI zgw118) z17 z18 z19))]) (rx := []) (pl := va_pl L M_122) (pl1 := va_pl L M_130) hP hD [] [0] rfl rfl (by decide) (by decide) hk1 hFc hP1 hD1
                                          have hP : va_P D vwCl ([(za, (b13_0 0 z1 (nI z2) (nI z3) z4 z5 z6 z7 z8 z9 (nI z10) z11 z12 z13 z14 z15 (nI zgw118) z17 z18 z19))] ++ va_pl L M_130) H_128 := hP
                                          have hD : va_D A ([(za, (b13_0 0 z1 (nI z2) (nI z3) z4 z5 z6 z7 z8 z9 (nI z10) z11 z12 z13 z14 z15 (nI zgw118) z17 z18 z19))] ++ va_pl L M_130) := hD
                                          obtain ⟨fs132, hM132, hn132, hl132⟩ := hW.open_12 hb_15
                                          have hv_133 : fs132[15]? = some (.int (nI v125) : Value) := (hG2 _ hb_15 _ _ hM124 hM132 15 (by decide)).trans hv125
                                          have hF : fr K L [12, 14, 15, 32, 42, 45, 46, 79, 80, 81, 83] M M_130 := hF.tr hF2 (by decide)
                                          have hG : fG K L [1, 7, 8, 13, 14, 15, 16, 17, 18] M M_130 := hG.tr hWb hG2 (by decide)
                                          obtain ⟨n_134, p_135, q_136, r_137, n_138, h8, hle8, htr8, hV2⟩ := hVP
                                          rw [hV.2.1] at h8
                                          rw [hV.2.2.1] at htr8
                                          rw [hV.2.1, hV.2.2.1] at hV2
                                          have hn14 : (0 : Int) ≤ ((n_134 : Nat) : Int) := by omega
                                          have hV : VW K L M M_130 b13 (va_up (va_up (fx M b13) 17 ((gnw118 : Nat) : Int)) 14 ((n_134 : Nat) : Int)) (va_up (va_up (va_up (va_up (va_up (ax M b13) 44 gpw118) 45 gqw118) 38 p_135) 39 q_136) 40 r_137) := hV.tr hV2
                                          have h8s : fx M b13 14 = ((n_138 : Nat) : Int) := h8
                                          refine lv_aload_n hx hb dX13_close_307 rfl (lv_at hl 5 rfl) ?_
                                          refine lv_lconst (v := 0) hx hb dX13_close_308 (by decide) ?_
                                          refine pg_putN (D := D) (ci := 12) (v := .long 0) (ty := .long) (C := RX12) (T := TX12) (N := 51) hx hb hg inG12 tyX12 tyX12_ok nmX12 hown hK hP hD hS hb_15.1 hM132 rfl 7 (by decide) (hN.use (Cond.fieldLinkNest RX13 179 RX12 "loose" "J" RX13) 16 rfl rfl) (fun _ h9 => h9) rfl (by decide +kernel) rfl rfl (by rw [hn132]; decide) dX13_close_309 (fun H_139 locs hP hD hS => ?_)
                                          have hs_142 : (fs132.set 7 (.long 0))[7]? = some (.long 0) := List.getElem?_set_self (by rw [hn132]; decide)
                                          have hk_141 := fld12_set (k := 7) (w := .long 0) hl132 (show fld12 K L 7 (fs132.set 7 (.long 0)) from ⟨0, hs_142⟩)
                                          have hn_143 : (fs132.set 7 (.long 0)).length = 51 := by rw [List.length_set]; exact hn132
                                          have hv_144 : (fs132.set 7 (.long 0))[15]? = some (.int (nI v125)) := by rw [List.getElem?_set_ne (by decide)]; exact hv_133
                                          obtain ⟨M_145, eM_145⟩ : ∃ M1 : Hp, M1 = va_up M_130 b13 (.inr (12, fs132.set 7 (.long 0))) := ⟨_, rfl⟩
                                          have hV : VW K L M M_145 b13 (va_up (va_up (fx M b13) 17 ((gnw118 : Nat) : Int)) 14 ((n_134 : Nat) : Int)) (va_up (va_up (va_up (va_up (va_up (ax M b13) 44 gpw118) 45 gqw118) 38 p_135) 39 q_136) 40 r_137) := by rw [eM_145]; exact hV.put0 hW hb_15 hM132 rfl rfl
                                          have hP : va_P D vwCl ([(za, (b13_0 0 z1 (nI z2) (nI z3) z4 z5 z6 z7 z8 z9 (nI z10) z11 z12 z13 z14 z15 (nI zgw118) z17 z18 z19))] ++ va_pl L M_145) H_139 := by rw [eM_145]; exact hP
                                          have hD : va_D A ([(za, (b13_0 0 z1 (nI z2) (nI z3) z4 z5 z6 z7 z8 z9 (nI z10) z11 z12 z13 z14 z15 (nI zgw118) z17 z18 z19))] ++ va_pl L M_145) := by rw [eM_145]; exact hD
                                          have hW : WOM cy K L M_145 := by rw [eM_145]; exact hW.up_12 hb_15 ⟨_, rfl, hn_143, hk_141⟩
                                          have hF : fr K L [12, 14, 15, 32, 42, 45, 46, 79, 80, 81, 83] M M_145 := by rw [eM_145]; exact hF.up hb_15 (by decide)
                                          have hG : fG K L [1, 7, 8, 13, 14, 15, 16, 17, 18] M M_145 := by rw [eM_145]; exact hG.up hM132 (by decide)
                                          have hM_146 : M_145 b13 = .inr (12, fs132.set 7 (.long 0)) := by rw [eM_145]; exact va_up_self _ _ _
                                          refine lv_aload_n hx hb dX13_close_312 rfl (lv_at hl 5 rfl) ?_
                                          refine lv_iconst (v := 0) hx hb dX13_close_313 (by decide) ?_
                                          refine pg_putN (D := D) (ci := 12) (v := .int 0) (ty := .int) (C := RX12) (T := TX12) (N := 51) hx hb hg inG12 tyX12 tyX12_ok nmX12 hown hK hP hD hS hb_15.1 hM_146 rfl 15 (by decide) (hN.use (Cond.fieldLinkNest RX13 279 RX12 "mends" "I" RX13) 24 rfl rfl) (fun _ h9 => h9) rfl (by decide +kernel) rfl rfl (by rw [hn_143]; decide) dX13_close_314 (fun H_147 locs hP hD hS => ?_)
                                          have hs_150 : ((fs132.set 7 (.long 0)).set 15 (.int 0))[15]? = some (.int (nI 0)) := List.getElem?_set_self (by rw [hn_143]; decide)
                                          have hk_149 := fld12_set (k := 15) (w := .int 0) hk_141 (show fld12 K L 15 ((fs132.set 7 (.long 0)).set 15 (.int 0)) from ⟨0, hs_150, by omega⟩)
                                          have hn_151 : ((fs132.set 7 (.long 0)).set 15 (.int 0)).length = 51 := by rw [List.length_set]; exact hn_143
                                          have hv_152 : ((fs132.set 7 (.long 0)).set 15 (.int 0))[7]? = some (.long 0) := by rw [List.getElem?_set_ne (by decide)]; exact hs_142
                                          have hb_153 : 0 ≤ 20 := by omega
                                          obtain ⟨M_154, eM_154⟩ : ∃ M1 : Hp, M1 = va_up M_145 b13 (.inr (12, (fs132.set 7 (.long 0)).set 15 (.int 0))) := ⟨_, rfl⟩
                                          have hx15 : (fx M b13 15) = ((v125 : Nat) : Int) := (congrFun hV.2.1 15).symm.trans ((fx_of hM_146 rfl hv_144).trans (nI_toInt (by omega)))
                                          have hV : VW K L M M_154 b13 (va_up (va_up (va_up (fx M b13) 17 ((gnw118 : Nat) : Int)) 14 ((n_134 : Nat) : Int)) 15 (0 : Int)) (va_up (va_up (va_up (va_up (va_up (ax M b13) 44 gpw118) 45 gqw118) 38 p_135) 39 q_136) 40 r_137) := by rw [eM_154]; exact hV.put hW hb_15 hM_146 hn_143 rfl (by decide) rfl (by decide)
                                          have hP : va_P D vwCl ([(za, (b13_0 0 z1 (nI z2) (nI z3) z4 z5 z6 z7 z8 z9 (nI z10) z11 z12 z13 z14 z15 (nI zgw118) z17 z18 z19))] ++ va_pl L M_154) H_147 := by rw [eM_154]; exact hP
                                          have hD : va_D A ([(za, (b13_0 0 z1 (nI z2) (nI z3) z4 z5 z6 z7 z8 z9 (nI z10) z11 z12 z13 z14 z15 (nI zgw118) z17 z18 z19))] ++ va_pl L M_154) := by rw [eM_154]; exact hD
                                          have hW : WOM cy K L M_154 := by rw [eM_154]; exact hW.up_12 hb_15 ⟨_, rfl, hn_151, hk_149⟩
                                          have hF : fr K L [12, 14, 15, 32, 42, 45, 46, 79, 80, 81, 83] M M_154 := by rw [eM_154]; exact hF.up hb_15 (by decide)
                                          have hG : fG K L [1, 7, 8, 13, 14, 15, 16, 17, 18] M M_154 := by rw [eM_154]; exact hG.up hM_146 (by decide)
                                          have hM_155 : M_154 b13 = .inr (12, (fs132.set 7 (.long 0)).set 15 (.int 0)) := by rw [eM_154]; exact va_up_self _ _ _
                                          refine lv_aload_n hx hb dX13_close_317 rfl (lv_at hl 5 rfl) ?_
                                          refine lv_iconst (v := 0) hx hb dX13_close_318 (by decide) ?_
                                          refine pg_putN (D := D) (ci := 12) (v := .int 0) (ty := .int) (C := RX12) (T := TX12) (N := 51) hx hb hg inG12 tyX12 tyX12_ok nmX12 hown hK hP hD hS hb_15.1 hM_155 rfl 16 (by decide) (hN.use (Cond.fieldLinkNest RX13 161 RX12 "undone" "I" RX13) 25 rfl rfl) (fun _ h9 => h9) rfl (by decide +kernel) rfl rfl (by rw [hn_151]; decide) dX13_close_319 (fun H_156 locs hP hD hS => ?_)
                                          have hs_159 : (((fs132.set 7 (.long 0)).set 15 (.int 0)).set 16 (.int 0))[16]? = some (.int (nI 0)) := List.getElem?_set_self (by rw [hn_151]; decide)
                                          have hk_158 := fld12_set (k := 16) (w := .int 0) hk_149 (show fld12 K L 16 (((fs132.set 7 (.long 0)).set 15 (.int 0)).set 16 (.int 0)) from ⟨0, hs_159, by omega⟩)
                                          have hn_160 : (((fs132.set 7 (.long 0)).set 15 (.int 0)).set 16 (.int 0)).length = 51 := by rw [List.length_set]; exact hn_151
                                          have hv_161 : (((fs132.set 7 (.long 0)).set 15 (.int 0)).set 16 (.int 0))[7]? = some (.long 0) := by rw [List.getElem?_set_ne (by decide)]; exact hv_152
                                          have hv_162 : (((fs132.set 7 (.long 0)).set 15 (.int 0)).set 16 (.int 0))[15]? = some (.int (nI 0)) := by rw [List.getElem?_set_ne (by decide)]; exact hs_150
                                          have hb_163 : 0 ≤ 60 := by omega
                                          obtain ⟨M_164, eM_164⟩ : ∃ M1 : Hp, M1 = va_up M_154 b13 (.inr (12, ((fs132.set 7 (.long 0)).set 15 (.int 0)).set 16 (.int 0))) := ⟨_, rfl⟩
                                          have hV : VW K L M M_164 b13 (va_up (va_up (va_up (va_up (fx M b13) 17 ((gnw118 : Nat) : Int)) 14 ((n_134 : Nat) : Int)) 15 (0 : Int)) 16 (0 : Int)) (va_up (va_up (va_up (va_up (va_up (ax M b13) 44 gpw118) 45 gqw118) 38 p_135) 39 q_136) 40 r_137) := by rw [eM_164]; exact hV.put hW hb_15 hM_155 hn_151 rfl (by decide) rfl (by decide)
                                          have hP : va_P D vwCl ([(za, (b13_0 0 z1 (nI z2) (nI z3) z4 z5 z6 z7 z8 z9 (nI z10) z11 z12 z13 z14 z15 (nI zgw118) z17 z18 z19))] ++ va_pl L M_164) H_156 := by rw [eM_164]; exact hP
                                          have hD : va_D A ([(za, (b13_0 0 z1 (nI z2) (nI z3) z4 z5 z6 z7 z8 z9 (nI z10) z11 z12 z13 z14 z15 (nI zgw118) z17 z18 z19))] ++ va_pl L M_164) := by rw [eM_164]; exact hD
                                          have hW : WOM cy K L M_164 := by rw [eM_164]; exact hW.up_12 hb_15 ⟨_, rfl, hn_160, hk_158⟩
                                          have hF : fr K L [12, 14, 15, 32, 42, 45, 46, 79, 80, 81, 83] M M_164 := by rw [eM_164]; exact hF.up hb_15 (by decide)
                                          have hG : fG K L [1, 7, 8, 13, 14, 15, 16, 17, 18] M M_164 := by rw [eM_164]; exact hG.up hM_155 (by decide)
                                          have hM_165 : M_164 b13 = .inr (12, ((fs132.set 7 (.long 0)).set 15 (.int 0)).set 16 (.int 0)) := by rw [eM_164]; exact va_up_self _ _ _
                                          refine lv_aload_n hx hb dX13_close_322 rfl (lv_at hl 5 rfl) ?_
                                          refine lv_iload hx hb dX13_close_323 (lv_at hl 3 rfl) ?_
                                          refine pg_putN (D := D) (ci := 12) (v := .int (nI c_33)) (ty := .int) (C := RX12) (T := TX12) (N := 51) hx hb hg inG12 tyX12 tyX12_ok nmX12 hown hK hP hD hS hb_15.1 hM_165 rfl 1 (by decide) (hN.use (Cond.fieldLinkNest RX13 80 RX12 "to" "I" RX13) 10 rfl rfl) (fun _ h9 => h9) rfl (by decide +kernel) rfl rfl (by rw [hn_160]; decide) dX13_close_325 (fun H_166 locs hP hD hS => ?_)
                                          have hs_169 : ((((fs132.set 7 (.long 0)).set 15 (.int 0)).set 16 (.int 0)).set 1 (.int (nI c_33)))[1]? = some (.int (nI c_33)) := List.getElem?_set_self (by rw [hn_160]; decide)
                                          have hk_168 := fld12_set (k := 1) (w := .int (nI c_33)) hk_158 (show fld12 K L 1 ((((fs132.set 7 (.long 0)).set 15 (.int 0)).set 16 (.int 0)).set 1 (.int (nI c_33))) from ⟨(nI c_33), hs_169, Or.inr ⟨c_33, by omega, rfl⟩⟩)
                                          have hn_170 : ((((fs132.set 7 (.long 0)).set 15 (.int 0)).set 16 (.int 0)).set 1 (.int (nI c_33))).length = 51 := by rw [List.length_set]; exact hn_160
                                          have hv_171 : ((((fs132.set 7 (.long 0)).set 15 (.int 0)).set 16 (.int 0)).set 1 (.int (nI c_33)))[7]? = some (.long 0) := by rw [List.getElem?_set_ne (by decide)]; exact hv_161
                                          have hv_172 : ((((fs132.set 7 (.long 0)).set 15 (.int 0)).set 16 (.int 0)).set 1 (.int (nI c_33)))[15]? = some (.int (nI 0)) := by rw [List.getElem?_set_ne (by decide)]; exact hv_162
                                          have hv_173 : ((((fs132.set 7 (.long 0)).set 15 (.int 0)).set 16 (.int 0)).set 1 (.int (nI c_33)))[16]? = some (.int (nI 0)) := by rw [List.getElem?_set_ne (by decide)]; exact hs_159
                                          obtain ⟨M_174, eM_174⟩ : ∃ M1 : Hp, M1 = va_up M_164 b13 (.inr (12, (((fs132.set 7 (.long 0)).set 15 (.int 0)).set 16 (.int 0)).set 1 (.int (nI c_33)))) := ⟨_, rfl⟩
                                          have hV : VW K L M M_174 b13 (va_up (va_up (va_up (va_up (va_up (fx M b13) 17 ((gnw118 : Nat) : Int)) 14 ((n_134 : Nat) : Int)) 15 (0 : Int)) 16 (0 : Int)) 1 ((c_33 : Nat) : Int)) (va_up (va_up (va_up (va_up (va_up (ax M b13) 44 gpw118) 45 gqw118) 38 p_135) 39 q_136) 40 r_137) := by rw [eM_174]; exact hV.put hW hb_15 hM_165 hn_160 rfl (by decide) rfl (nI_toInt (by omega))
                                          have hP : va_P D vwCl ([(za, (b13_0 0 z1 (nI z2) (nI z3) z4 z5 z6 z7 z8 z9 (nI z10) z11 z12 z13 z14 z15 (nI zgw118) z17 z18 z19))] ++ va_pl L M_174) H_166 := by rw [eM_174]; exact hP
                                          have hD : va_D A ([(za, (b13_0 0 z1 (nI z2) (nI z3) z4 z5 z6 z7 z8 z9 (nI z10) z11 z12 z13 z14 z15 (nI zgw118) z17 z18 z19))] ++ va_pl L M_174) := by rw [eM_174]; exact hD
                                          have hW : WOM cy K L M_174 := by rw [eM_174]; exact hW.up_12 hb_15 ⟨_, rfl, hn_170, hk_168⟩
                                          have hF : fr K L [12, 14, 15, 32, 42, 45, 46, 79, 80, 81, 83] M M_174 := by rw [eM_174]; exact hF.up hb_15 (by decide)
                                          have hG : fG K L [1, 7, 8, 13, 14, 15, 16, 17, 18] M M_174 := by rw [eM_174]; exact hG.up hM_165 (by decide)
                                          have hM_175 : M_174 b13 = .inr (12, (((fs132.set 7 (.long 0)).set 15 (.int 0)).set 16 (.int 0)).set 1 (.int (nI c_33))) := by rw [eM_174]; exact va_up_self _ _ _
                                          refine lv_aload_n hx hb dX13_close_328 rfl (lv_at hl 5 rfl) ?_
                                          refine lv_dup hx hb dX13_close_329 rfl ?_
                                          obtain ⟨v176, hv176, hc176⟩ : ∃ v : Nat, ((((fs132.set 7 (.long 0)).set 15 (.int 0)).set 16 (.int 0)).set 1 (.int (nI c_33)))[13]? = some (.int (nI v) : Value) ∧ v ≤ 12 := hk_168 13 (by decide)
                                          refine pg_getN (D := D) (ci := 12) (v := .int (nI v176)) (C := RX12) (T := TX12) (N := 51) hx hb hg inG12 hown hK hP hb_15.1 hM_175 rfl 13 (by decide) (hN.use (Cond.fieldLinkNest RX13 244 RX12 "closed" "I" RX13) 22 rfl rfl) (fun _ h9 => h9) hv176 dX13_close_330 ?_
                                          have hx13 : (fx M b13 13) = ((v176 : Nat) : Int) := (congrFun hV.2.1 13).symm.trans ((fx_of hM_175 rfl hv176).trans (nI_toInt (by omega)))
                                          refine lv_iconst (v := 1) hx hb dX13_close_333 (by decide) ?_
                                          refine lv_iadd hx hb dX13_close_334 ?_
                                          refine lv_topi (fun f_177 ef_177 => ?_)
                                          obtain rfl : f_177 = (nI (v176 + 1)) := ef_177.trans (nI_add v176 1)
                                          refine pg_putN (D := D) (ci := 12) (v := .int (nI (v176 + 1))) (ty := .int) (C := RX12) (T := TX12) (N := 51) hx hb hg inG12 tyX12 tyX12_ok nmX12 hown hK hP hD hS hb_15.1 hM_175 rfl 13 (by decide) (hN.use (Cond.fieldLinkNest RX13 244 RX12 "closed" "I" RX13) 22 rfl rfl) (fun _ h9 => h9) rfl (by decide +kernel) rfl rfl (by rw [hn_170]; decide) dX13_close_335 (fun H_178 locs hP hD hS => ?_)
                                          have hs_181 : (((((fs132.set 7 (.long 0)).set 15 (.int 0)).set 16 (.int 0)).set 1 (.int (nI c_33))).set 13 (.int (nI (v176 + 1))))[13]? = some (.int (nI (v176 + 1))) := List.getElem?_set_self (by rw [hn_170]; decide)
                                          have hk_180 := fld12_set (k := 13) (w := .int (nI (v176 + 1))) hk_168 (show fld12 K L 13 (((((fs132.set 7 (.long 0)).set 15 (.int 0)).set 16 (.int 0)).set 1 (.int (nI c_33))).set 13 (.int (nI (v176 + 1)))) from ⟨(v176 + 1), hs_181, by omega⟩)
                                          have hn_182 : (((((fs132.set 7 (.long 0)).set 15 (.int 0)).set 16 (.int 0)).set 1 (.int (nI c_33))).set 13 (.int (nI (v176 + 1)))).length = 51 := by rw [List.length_set]; exact hn_170
                                          have hv_183 : (((((fs132.set 7 (.long 0)).set 15 (.int 0)).set 16 (.int 0)).set 1 (.int (nI c_33))).set 13 (.int (nI (v176 + 1))))[7]? = some (.long 0) := by rw [List.getElem?_set_ne (by decide)]; exact hv_171
                                          have hv_184 : (((((fs132.set 7 (.long 0)).set 15 (.int 0)).set 16 (.int 0)).set 1 (.int (nI c_33))).set 13 (.int (nI (v176 + 1))))[15]? = some (.int (nI 0)) := by rw [List.getElem?_set_ne (by decide)]; exact hv_172
                                          have hv_185 : (((((fs132.set 7 (.long 0)).set 15 (.int 0)).set 16 (.int 0)).set 1 (.int (nI c_33))).set 13 (.int (nI (v176 + 1))))[16]? = some (.int (nI 0)) := by rw [List.getElem?_set_ne (by decide)]; exact hv_173
                                          have hv_186 : (((((fs132.set 7 (.long 0)).set 15 (.int 0)).set 16 (.int 0)).set 1 (.int (nI c_33))).set 13 (.int (nI (v176 + 1))))[1]? = some (.int (nI c_33)) := by rw [List.getElem?_set_ne (by decide)]; exact hs_169
                                          have hb_187 : (v176 + 1) ≤ 12 := by omega
                                          obtain ⟨M_188, eM_188⟩ : ∃ M1 : Hp, M1 = va_up M_174 b13 (.inr (12, ((((fs132.set 7 (.long 0)).set 15 (.int 0)).set 16 (.int 0)).set 1 (.int (nI c_33))).set 13 (.int (nI (v176 + 1))))) := ⟨_, rfl⟩
                                          have hx13 : (fx M b13 13) = ((v176 : Nat) : Int) := (congrFun hV.2.1 13).symm.trans ((fx_of hM_175 rfl hv176).trans (nI_toInt (by omega)))
                                          have hV : VW K L M M_188 b13 (va_up (va_up (va_up (va_up (va_up (va_up (fx M b13) 17 ((gnw118 : Nat) : Int)) 14 ((n_134 : Nat) : Int)) 15 (0 : Int)) 16 (0 : Int)) 1 ((c_33 : Nat) : Int)) 13 (((v176 + 1) : Nat) : Int)) (va_up (va_up (va_up (va_up (va_up (ax M b13) 44 gpw118) 45 gqw118) 38 p_135) 39 q_136) 40 r_137) := by rw [eM_188]; exact hV.put hW hb_15 hM_175 hn_170 rfl (by decide) rfl (nI_toInt (by omega))
                                          have hP : va_P D vwCl ([(za, (b13_0 0 z1 (nI z2) (nI z3) z4 z5 z6 z7 z8 z9 (nI z10) z11 z12 z13 z14 z15 (nI zgw118) z17 z18 z19))] ++ va_pl L M_188) H_178 := by rw [eM_188]; exact hP
                                          have hD : va_D A ([(za, (b13_0 0 z1 (nI z2) (nI z3) z4 z5 z6 z7 z8 z9 (nI z10) z11 z12 z13 z14 z15 (nI zgw118) z17 z18 z19))] ++ va_pl L M_188) := by rw [eM_188]; exact hD
                                          have hW : WOM cy K L M_188 := by rw [eM_188]; exact hW.up_12 hb_15 ⟨_, rfl, hn_182, hk_180⟩
                                          have hF : fr K L [12, 14, 15, 32, 42, 45, 46, 79, 80, 81, 83] M M_188 := by rw [eM_188]; exact hF.up hb_15 (by decide)
                                          have hG : fG K L [1, 7, 8, 13, 14, 15, 16, 17, 18] M M_188 := by rw [eM_188]; exact hG.up hM_175 (by decide)
                                          have hM_189 : M_188 b13 = .inr (12, ((((fs132.set 7 (.long 0)).set 15 (.int 0)).set 16 (.int 0)).set 1 (.int (nI c_33))).set 13 (.int (nI (v176 + 1)))) := by rw [eM_188]; exact va_up_self _ _ _
                                          refine lv_aload_n hx hb dX13_close_338 rfl (lv_at hl 5 rfl) ?_
                                          refine lv_iconst (v := 1) hx hb dX13_close_339 (by decide) ?_
                                          refine pg_putN (D := D) (ci := 12) (v := .int 1) (ty := .boolean) (C := RX12) (T := TX12) (N := 51) hx hb hg inG12 tyX12 tyX12_ok nmX12 hown hK hP hD hS hb_15.1 hM_189 rfl 18 (by decide) (hN.use (Cond.fieldLinkNest RX13 288 RX12 "hasClosed" "Z" RX13) 27 rfl rfl) (fun _ h9 => h9) rfl (by decide +kernel) rfl rfl (by rw [hn_182]; decide) dX13_close_340 (fun H_190 locs hP hD hS => ?_)
                                          have hs_193 : ((((((fs132.set 7 (.long 0)).set 15 (.int 0)).set 16 (.int 0)).set 1 (.int (nI c_33))).set 13 (.int (nI (v176 + 1)))).set 18 (.int 1))[18]? = some (.int 1) := List.getElem?_set_self (by rw [hn_182]; decide)
                                          have hk_192 := fld12_set (k := 18) (w := .int 1) hk_180 (show fld12 K L 18 ((((((fs132.set 7 (.long 0)).set 15 (.int 0)).set 16 (.int 0)).set 1 (.int (nI c_33))).set 13 (.int (nI (v176 + 1)))).set 18 (.int 1)) from ⟨1, hs_193, by decide⟩)
                                          have hn_194 : ((((((fs132.set 7 (.long 0)).set 15 (.int 0)).set 16 (.int 0)).set 1 (.int (nI c_33))).set 13 (.int (nI (v176 + 1)))).set 18 (.int 1)).length = 51 := by rw [List.length_set]; exact hn_182
                                          have hv_195 : ((((((fs132.set 7 (.long 0)).set 15 (.int 0)).set 16 (.int 0)).set 1 (.int (nI c_33))).set 13 (.int (nI (v176 + 1)))).set 18 (.int 1))[7]? = some (.long 0) := by rw [List.getElem?_set_ne (by decide)]; exact hv_183
                                          have hv_196 : ((((((fs132.set 7 (.long 0)).set 15 (.int 0)).set 16 (.int 0)).set 1 (.int (nI c_33))).set 13 (.int (nI (v176 + 1)))).set 18 (.int 1))[15]? = some (.int (nI 0)) := by rw [List.getElem?_set_ne (by decide)]; exact hv_184
                                          have hv_197 : ((((((fs132.set 7 (.long 0)).set 15 (.int 0)).set 16 (.int 0)).set 1 (.int (nI c_33))).set 13 (.int (nI (v176 + 1)))).set 18 (.int 1))[16]? = some (.int (nI 0)) := by rw [List.getElem?_set_ne (by decide)]; exact hv_185
                                          have hv_198 : ((((((fs132.set 7 (.long 0)).set 15 (.int 0)).set 16 (.int 0)).set 1 (.int (nI c_33))).set 13 (.int (nI (v176 + 1)))).set 18 (.int 1))[1]? = some (.int (nI c_33)) := by rw [List.getElem?_set_ne (by decide)]; exact hv_186
                                          have hv_199 : ((((((fs132.set 7 (.long 0)).set 15 (.int 0)).set 16 (.int 0)).set 1 (.int (nI c_33))).set 13 (.int (nI (v176 + 1)))).set 18 (.int 1))[13]? = some (.int (nI (v176 + 1))) := by rw [List.getElem?_set_ne (by decide)]; exact hs_181
                                          obtain ⟨M_200, eM_200⟩ : ∃ M1 : Hp, M1 = va_up M_188 b13 (.inr (12, (((((fs132.set 7 (.long 0)).set 15 (.int 0)).set 16 (.int 0)).set 1 (.int (nI c_33))).set 13 (.int (nI (v176 + 1)))).set 18 (.int 1))) := ⟨_, rfl⟩
                                          have hV : VW K L M M_200 b13 (va_up (va_up (va_up (va_up (va_up (va_up (va_up (fx M b13) 17 ((gnw118 : Nat) : Int)) 14 ((n_134 : Nat) : Int)) 15 (0 : Int)) 16 (0 : Int)) 1 ((c_33 : Nat) : Int)) 13 (((v176 + 1) : Nat) : Int)) 18 (1 : Int)) (va_up (va_up (va_up (va_up (va_up (ax M b13) 44 gpw118) 45 gqw118) 38 p_135) 39 q_136) 40 r_137) := by rw [eM_200]; exact hV.put hW hb_15 hM_189 hn_182 rfl (by decide) rfl (by decide)
                                          have hP : va_P D vwCl ([(za, (b13_0 0 z1 (nI z2) (nI z3) z4 z5 z6 z7 z8 z9 (nI z10) z11 z12 z13 z14 z15 (nI zgw118) z17 z18 z19))] ++ va_pl L M_200) H_190 := by rw [eM_200]; exact hP
                                          have hD : va_D A ([(za, (b13_0 0 z1 (nI z2) (nI z3) z4 z5 z6 z7 z8 z9 (nI z10) z11 z12 z13 z14 z15 (nI zgw118) z17 z18 z19))] ++ va_pl L M_200) := by rw [eM_200]; exact hD
                                          have hW : WOM cy K L M_200 := by rw [eM_200]; exact hW.up_12 hb_15 ⟨_, rfl, hn_194, hk_192⟩
                                          have hF : fr K L [12, 14, 15, 32, 42, 45, 46, 79, 80, 81, 83] M M_200 := by rw [eM_200]; exact hF.up hb_15 (by decide)
                                          have hG : fG K L [1, 7, 8, 13, 14, 15, 16, 17, 18] M M_200 := by rw [eM_200]; exact hG.up hM_189 (by decide)
                                          have hM_201 : M_200 b13 = .inr (12, (((((fs132.set 7 (.long 0)).set 15 (.int 0)).set 16 (.int 0)).set 1 (.int (nI c_33))).set 13 (.int (nI (v176 + 1)))).set 18 (.int 1)) := by rw [eM_200]; exact va_up_self _ _ _
                                          refine lv_aload_n hx hb dX13_close_343 rfl (lv_at hl 6 rfl) ?_
                                          refine lv_aload_n hx hb dX13_close_344 rfl (lv_at hl 5 rfl) ?_
                                          refine lv_iload hx hb dX13_close_345 (lv_at hl 3 rfl) ?_
                                          have hPc : va_P D vwCl ([(za, (b13_0 0 z1 (nI z2) (nI z3) z4 z5 z6 z7 z8 z9 (nI z10) z11 z12 z13 z14 z15 (nI zgw118) z17 z18 z19))] ++ va_pl L M_200) H_190 := hP
                                          have hDc : va_D A ([(za, (b13_0 0 z1 (nI z2) (nI z3) z4 z5 z6 z7 z8 z9 (nI z10) z11 z12 z13 z14 z15 (nI zgw118) z17 z18 z19))] ++ va_pl L M_200) := hD
                                          have hFc : ∀ q, va_A ([(za, (b13_0 0 z1 (nI z2) (nI z3) z4 z5 z6 z7 z8 z9 (nI z10) z11 z12 z13 z14 z15 (nI zgw118) z17 z18 z19))] ++ va_pl L M_200) H_190.size q → A q := pg_free hDc hS hA
                                          refine va_callv (va_runV (As := [.ref b13, .int (nI c_33)]) (rest := []) ⟨hx, hb, hml, hown, hg⟩ (g_X13_incomes l D cy K L M_200 H_190.size za 0 z1 z2 z3 z4 z5 z6 z7 z8 z9 z10 z11 z12 z13 z14 z15 zgw118 z17 z18 z19 b13 c_33  hW i1 b2 b3 i6 i7 i8 i9 b10 i11 i12 i13 i14 i15 (by omega) i17 i19 hb_15 hc_34 (R5.mv hR5 i6 i7 hF (by decide) (by decide))) (cwV 2 hg (gV wd_864 wd_865 wd_866 wd_717 wd_867) rfl rfl rfl (by decide +kernel) ⟨(Nat.le_trans (Nat.le_of_ble_eq_true rfl) hRf), (Nat.le_trans (Nat.le_of_ble_eq_true rfl) hRl)⟩) ⟨PG.blind, va_recv hK hP (ci := 13) (q0 := 0) rfl rfl, fun U hU hW => ⟨rfl, PG.at hPc hK hDc hN hU hW⟩⟩ rfl rfl hl.1 rfl (lv_room (Nat.le_of_ble_eq_true rfl)) dX13_close_347 ⟨(Nat.le_trans (Nat.le_of_ble_eq_true rfl) hRc), (Nat.le_trans (Nat.le_of_ble_eq_true rfl) hRs)⟩) hS (fun q _ h => hFc q h) hFc (fun M_204 t H_202 locs ht hvm hw hB hz1 hk1 hS => ?_)
                                          have hWb := hW
                                          obtain ⟨hW, hF2, hG2, hp_205⟩ := hw
                                          obtain ⟨hP1, hD1⟩ := hB
                                          rw [ht] at hP1
                                          have hP : va_P D vwCl ([(za, (b13_0 0 z1 (nI z2) (nI z3) z4 z5 z6 z7 z8 z9 (nI z10) z11 z12 z13 z14 z15 (nI zgw118) z17 z18 z19))] ++ va_pl L M_204) H_202 := hP1
                                          have hD : va_D A ([(za, (b13_0 0 z1 (nI z2) (nI z3) z4 z5 z6 z7 z8 z9 (nI z10) z11 z12 z13 z14 z15 (nI zgw118) z17 z18 z19))] ++ va_pl L M_204) := hD1.mono hFc
                                          obtain ⟨fs206, hM206, hn206, hl206⟩ := hW.open_12 hb_15
                                          have hv_207 : fs206[15]? = some (.int (nI 0) : Value) := (hG2 _ hb_15 _ _ hM_201 hM206 15 (by decide)).trans hv_196
                                          have hv_208 : fs206[16]? = some (.int (nI 0) : Value) := (hG2 _ hb_15 _ _ hM_201 hM206 16 (by decide)).trans hv_197
                                          have hv_209 : fs206[1]? = some (.int (nI c_33) : Value) := (hG2 _ hb_15 _ _ hM_201 hM206 1 (by decide)).trans hv_198
                                          have hv_210 : fs206[13]? = some (.int (nI (v176 + 1)) : Value) := (hG2 _ hb_15 _ _ hM_201 hM206 13 (by decide)).trans hv_199
                                          have hv_211 : fs206[18]? = some (.int 1 : Value) := (hG2 _ hb_15 _ _ hM_201 hM206 18 (by decide)).trans hs_193
                                          have hF : fr K L [12, 14, 15, 32, 42, 45, 46, 79, 80, 81, 83] M M_204 := hF.tr hF2 (by decide)
                                          have hG : fG K L [1, 7, 8, 13, 14, 15, 16, 17, 18] M M_204 := hG.tr hWb hG2 (by decide)
                                          have hV : VW K L M M_204 b13 (va_up (va_up (va_up (va_up (va_up (va_up (va_up (fx M b13) 17 ((gnw118 : Nat) : Int)) 14 ((n_134 : Nat) : Int)) 15 (0 : Int)) 16 (0 : Int)) 1 ((c_33 : Nat) : Int)) 13 (((v176 + 1) : Nat) : Int)) 18 (1 : Int)) (va_up (va_up (va_up (va_up (va_up (ax M b13) 44 gpw118) 45 gqw118) 38 p_135) 39 q_136) 40 r_137) := hV.cal hWb hW hF2 hG2 (by decide) (by decide) hb_15
                                          refine lv_aload_n hx hb dX13_close_350 rfl (lv_at hl 5 rfl) ?_
                                          refine lv_iload hx hb dX13_close_351 (lv_at hl 3 rfl) ?_
                                          have hPc : va_P D vwCl ([] ++ va_pl L M_204) H_202 := hP.part (cx := []) [] rfl
                                          have hDc : va_D A ([] ++ va_pl L M_204) := hD.part (cx := []) [] (by decide) rfl
                                          have hFc : ∀ q, va_A ([] ++ va_pl L M_204) H_202.size q → A q := pg_free hDc hS hA
                                          refine va_callv (va_runS (As := [.ref b13, .int (nI c_33)]) (rest := []) ⟨hx, hb, hml, hown, hg⟩ (z_ends l D cy K L M_204 H_202.size b13 c_33  hW hb_15 hc_34 hV.2.2.2 (by rw [hV.2.1, hV.2.2.1]; exact hAT.2.2.1)) (va_cwS 2 hg (gS wd_868 wd_869 wd_717 wd_870) rfl rfl rfl (by decide +kernel) ⟨(Nat.le_trans (Nat.le_of_ble_eq_true rfl) hRf), (Nat.le_trans (Nat.le_of_ble_eq_true rfl) hRl)⟩) ⟨PG.blind, fun U hU hW => ⟨rfl, PG.at hPc hK hDc hN hU hW⟩⟩ rfl rfl hl.1 rfl (lv_room (Nat.le_of_ble_eq_true rfl)) dX13_close_353 ⟨(Nat.le_trans (Nat.le_of_ble_eq_true rfl) hRc), (Nat.le_trans (Nat.le_of_ble_eq_true rfl) hRs)⟩) hS (fun q _ h => hFc q h) hFc (fun M_214 t H_212 locs ht hvm hw hB hz1 hk1 hS => ?_)
                                          have hWb := hW
                                          obtain ⟨hW, hF2, hG2, hVP, hp_215⟩ := hw
                                          obtain ⟨hP1, hD1⟩ := hB
                                          rw [ht] at hP1
                                          obtain ⟨hP, hD⟩ := va_joinP (X := [(za, (b13_0 0 z1 (nI z2) (nI z3) z4 z5 z6 z7 z8 z9 (nI z10) z11 z12 z13 z14 z15 (nI zgw118) z17 z18 z19))]) (cx := []) (wr := [(za, (b13_0 0 z1 (nI z2) (nI z3) z4 z5 z6 z7 z8 z9 (nI z10) z11 z12 z13 z14 z15 (nI zgw118) z17 z18 z19))]) (rx := []) (pl := va_pl L M_204) (pl1 := va_pl L M_214) hP hD [] [0] rfl rfl (by decide) (by decide) hk1 hFc hP1 hD1
                                          have hP : va_P D vwCl ([(za, (b13_0 0 z1 (nI z2) (nI z3) z4 z5 z6 z7 z8 z9 (nI z10) z11 z12 z13 z14 z15 (nI zgw118) z17 z18 z19))] ++ va_pl L M_214) H_212 := hP
                                          have hD : va_D A ([(za, (b13_0 0 z1 (nI z2) (nI z3) z4 z5 z6 z7 z8 z9 (nI z10) z11 z12 z13 z14 z15 (nI zgw118) z17 z18 z19))] ++ va_pl L M_214) := hD
                                          have hM_216 : M_214 b13 = .inr (12, fs206) := (hF2.at hb_15 (by decide)).trans hM206
                                          have hF : fr K L [12, 14, 15, 32, 42, 45, 46, 79, 80, 81, 83] M M_214 := hF.tr hF2 (by decide)
                                          have hG : fG K L [1, 7, 8, 13, 14, 15, 16, 17, 18] M M_214 := hG.tr hWb hG2 (by decide)
                                          obtain ⟨g_217, hg23, hV2⟩ := hVP
                                          rw [hV.2.1, hV.2.2.1] at hg23
                                          rw [hV.2.1, hV.2.2.1] at hV2
                                          have hV : VW K L M M_214 b13 (va_up (va_up (va_up (va_up (va_up (va_up (va_up (fx M b13) 17 ((gnw118 : Nat) : Int)) 14 ((n_134 : Nat) : Int)) 15 (0 : Int)) 16 (0 : Int)) 1 ((c_33 : Nat) : Int)) 13 (((v176 + 1) : Nat) : Int)) 18 (1 : Int)) (va_up (va_up (va_up (va_up (va_up (va_up (ax M b13) 44 gpw118) 45 gqw118) 38 p_135) 39 q_136) 40 r_137) 23 g_217) := hV.tr hV2
                                          refine lv_aload_n hx hb dX13_close_356 rfl (lv_at hl 6 rfl) ?_
                                          refine lv_aload_n hx hb dX13_close_357 rfl (lv_at hl 5 rfl) ?_
                                          refine pg_getN (D := D) (ci := 12) (v := .int (nI (v176 + 1))) (C := RX12) (T := TX12) (N := 51) hx hb hg inG12 hown hK hP hb_15.1 hM_216 rfl 13 (by decide) (hN.use (Cond.fieldLinkNest RX13 244 RX12 "closed" "I" RX13) 22 rfl rfl) (fun _ h9 => h9) hv_210 dX13_close_358 ?_
                                          have hx13 : (((v176 + 1) : Nat) : Int) = (((v176 + 1) : Nat) : Int) := (congrFun hV.2.1 13).symm.trans ((fx_of hM_216 rfl hv_210).trans (nI_toInt (by omega)))
                                          refine lv_iconst (v := 1) hx hb dX13_close_361 (by decide) ?_
                                          refine lv_isub hx hb dX13_close_362 ?_
                                          refine lv_topi (fun f_218 ef_218 => ?_)
                                          obtain rfl : f_218 = (nI ((v176 + 1) - 1)) := ef_218.trans (nI_prd (by omega))
                                          have hPc := hP.sub (ws' := [(za, (b13_0 0 z1 (nI z2) (nI z3) z4 z5 z6 z7 z8 z9 (nI z10) z11 z12 z13 z14 z15 (nI zgw118) z17 z18 z19))]) [0] rfl
                                          have hDc := hD.sub (ws' := [(za, (b13_0 0 z1 (nI z2) (nI z3) z4 z5 z6 z7 z8 z9 (nI z10) z11 z12 z13 z14 z15 (nI zgw118) z17 z18 z19))]) [0] (by decide) rfl
                                          have hKc := hK.sub (tys' := []) [] rfl
                                          have hFc := va_free (wc := [(za, (b13_0 0 z1 (nI z2) (nI z3) z4 z5 z6 z7 z8 z9 (nI z10) z11 z12 z13 z14 z15 (nI zgw118) z17 z18 z19))]) hD hS hA [0] rfl
                                          refine va_calli (va_runV (As := [.int (nI ((v176 + 1) - 1))]) (rest := []) ⟨hx, hb, hml, hown, hg⟩ (m_done l D H_212.size za 0 z1 (nI z2) (nI z3) z4 z5 z6 z7 z8 z9 (nI z10) z11 z12 z13 z14 z15 (nI zgw118) z17 z18 z19 (nI ((v176 + 1) - 1))) (cwV 1 hg (gV wd_730 wd_731 wd_732 wd_717 wd_733) rfl rfl rfl (by decide +kernel) ⟨(Nat.le_trans (Nat.le_of_ble_eq_true rfl) hRf), (Nat.le_trans (Nat.le_of_ble_eq_true rfl) hRl)⟩) ⟨Pr.blind, va_recv hK hP (ci := 13) (q0 := 0) rfl rfl, fun U hU hW => ⟨rfl, Pr.at hPc hKc hDc hN hU hW⟩⟩ rfl rfl hl.1 rfl (lv_room (Nat.le_of_ble_eq_true rfl)) dX13_close_363 ⟨(Nat.le_trans (Nat.le_of_ble_eq_true rfl) hRc), (Nat.le_trans (Nat.le_of_ble_eq_true rfl) hRs)⟩) hS (fun q _ h => hFc q h) hFc (fun r_220 M_221 t H_219 locs ht hvm hw hB hz1 hk1 hS => ?_)
                                          have hp_222 := hw
                                          obtain ⟨hP1, hK1, hD1⟩ := hB
                                          rw [ht] at hP1
                                          obtain ⟨hP, hD⟩ := va_joinQ (X := [(za, (b13_0 0 z1 (nI z2) (nI z3) z4 z5 z6 z7 z8 z9 (nI z10) z11 z12 z13 z14 z15 (nI zgw118) z17 z18 z19))]) (cx := [(za, (b13_0 0 z1 (nI z2) (nI z3) z4 z5 z6 z7 z8 z9 (nI z10) z11 z12 z13 z14 z15 (nI zgw118) z17 z18 z19))]) (wr := []) (w1 := [(za, (b13_0 0 z1 (nI z2) (nI z3) 0 (-1) z6 z7 z8 z9 (nI z10) z11 z12 z13 z14 z15 (nI zgw118) z17 z18 z19))]) (pl := va_pl L M_214) hP hD [0] [] rfl rfl (by decide) (by decide) hk1 hFc hP1 hD1
                                          have hP : va_P D vwCl ([(za, (b13_0 0 z1 (nI z2) (nI z3) 0 (-1) z6 z7 z8 z9 (nI z10) z11 z12 z13 z14 z15 (nI zgw118) z17 z18 z19))] ++ va_pl L M_214) H_219 := hP
                                          have hD : va_D A ([(za, (b13_0 0 z1 (nI z2) (nI z3) 0 (-1) z6 z7 z8 z9 (nI z10) z11 z12 z13 z14 z15 (nI zgw118) z17 z18 z19))] ++ va_pl L M_214) := hD
                                          have hq := Eq.symm hp_222
                                          subst hq
                                          have hI_223 : (24 : Int) ≤ ((v6w81 : Nat) : Int) := ileI rfl (nI_toInt (by omega)) c_86
                                          have hI_224 : ((c_33 : Nat) : Int) < ((v6w91 : Nat) : Int) := iltI (nI_toInt (by omega)) (nI_toInt (by omega)) c_96
                                          have hI_225 : ((v99 : Nat) : Int) ≤ ((v7w108 : Nat) : Int) := ileI (nI_toInt (by omega)) (nI_toInt (by omega)) c_113
                                          have hI_226 : ((v125 : Nat) : Int) ≤ ((v7w118 : Nat) : Int) := ileI (nI_toInt (by omega)) (nI_toInt (by omega)) c_126
                                          have hy4 : ∀ d : Nat, SX (k1 : Int32).toNatClampNeg 1 < (d : Int) → (d : Int) ≤ enD (SX (k1 : Int32).toNatClampNeg) (SY (k1 : Int32).toNatClampNeg) → ¬ opD (SY (k1 : Int32).toNatClampNeg) d := fun d h1 h2 => hall d h1 (by rw [hEd] at h2; omega)
                                          have hy5 : ∀ b, b < z2 → ¬ LAG PK PT SX SY (k1 : Int32).toNatClampNeg (enD (SX (k1 : Int32).toNatClampNeg) (SY (k1 : Int32).toNatClampNeg)) b := by rw [hEd]; have h9 := c_57; rw [nI_toInt (by omega)] at h9; exact h9
                                          have hyes : okCl z2 PK PT SX SY k1 := by unfold okCl okH; refine ⟨⟨?_, ?_⟩, ?_, ?_, ?_, ?_⟩ <;> first | omega | assumption
                                          have hA9 : HA (ax M b13 2) (ax M b13 3) := hAT.1
                                          have hB9 : HB (0 : Int) ((n_134 : Nat) : Int) (ax M b13 3) (ax M b13 43) := HB.zero hAT.2.1.nn.1 hn14
                                          have hC9 : HC (fx M b13 10) (ax M b13 22) g_217 := HC.insg hAT.2.2.1 (fun i hi => hg23 i hi)
                                          have hD9 : HD (fx M b13 0) (fx M b13 11) (0 : Int) (ax M b13 34) (ax M b13 41) := HD.clr hAT.2.2.2.1
                                          have hE9 : HE (fx M b13 0) ((c_33 : Nat) : Int) (fx M b13 12) (((v176 + 1) : Nat) : Int) (ax M b13 37) := HE.close hAT.2.2.2.2 hb13 (by omega) (by omega) (by rw [hT37])
                                          have hH9 : HI (va_up (va_up (va_up (va_up (va_up (va_up (va_up (fx M b13) 17 ((gnw118 : Nat) : Int)) 14 ((n_134 : Nat) : Int)) 15 (0 : Int)) 16 (0 : Int)) 1 ((c_33 : Nat) : Int)) 13 (((v176 + 1) : Nat) : Int)) 18 (1 : Int)) (va_up (va_up (va_up (va_up (va_up (va_up (ax M b13) 44 gpw118) 45 gqw118) 38 p_135) 39 q_136) 40 r_137) 23 g_217) := ⟨hA9, hB9, hC9, hD9, hE9⟩
                                          have hGI9 : GI K L z1 z2 M_214 := GI.fin hW0 i1 b2 hGI hact hV (hF.at i1 (by decide)) hH9
                                          have hX1 : (va_up (va_up (va_up (va_up (va_up (va_up (va_up (fx M b13) 17 ((gnw118 : Nat) : Int)) 14 ((n_134 : Nat) : Int)) 15 (0 : Int)) 16 (0 : Int)) 1 ((c_33 : Nat) : Int)) 13 (((v176 + 1) : Nat) : Int)) 18 (1 : Int)) 1 = ((c_33 : Nat) : Int) := rfl
                                          have hX13 : (va_up (va_up (va_up (va_up (va_up (va_up (va_up (fx M b13) 17 ((gnw118 : Nat) : Int)) 14 ((n_134 : Nat) : Int)) 15 (0 : Int)) 16 (0 : Int)) 1 ((c_33 : Nat) : Int)) 13 (((v176 + 1) : Nat) : Int)) 18 (1 : Int)) 13 = SX (k1 : Int32).toNatClampNeg 13 + 1 := by show (((v176 + 1) : Nat) : Int) = _; omega
                                          have hkp : kpF (nI 0) (nI c_33) = clk (SX (k1 : Int32).toNatClampNeg 1) ((c_33 : Nat) : Int) := by funext z9; unfold kpF clk; rw [show (decide (nI 0 ≤ z9.2.1)) = decide (SX (k1 : Int32).toNatClampNeg 1 + 1 ≤ z9.2.1.toInt) from decide_eq_decide.mpr (by rw [Int32.le_iff_toInt_le, nI_toInt (by omega)]; omega), show (decide (z9.2.1 ≤ nI c_33)) = decide (z9.2.1.toInt ≤ ((c_33 : Nat) : Int)) from decide_eq_decide.mpr (by rw [Int32.le_iff_toInt_le, nI_toInt (by omega)])]
                                          have hCLF : CLF (enD (SX (k1 : Int32).toNatClampNeg) (SY (k1 : Int32).toNatClampNeg)) (SX (k1 : Int32).toNatClampNeg) (SY (k1 : Int32).toNatClampNeg) (va_up (va_up (va_up (va_up (va_up (va_up (va_up (fx M b13) 17 ((gnw118 : Nat) : Int)) 14 ((n_134 : Nat) : Int)) 15 (0 : Int)) 16 (0 : Int)) 1 ((c_33 : Nat) : Int)) 13 (((v176 + 1) : Nat) : Int)) 18 (1 : Int)) (va_up (va_up (va_up (va_up (va_up (va_up (ax M b13) 44 gpw118) 45 gqw118) 38 p_135) 39 q_136) 40 r_137) 23 g_217) := by
                                            rw [hEd]
                                            refine ⟨congrFun hZk.1 0, hX1, congrFun hZk.1 10, congrFun hZk.1 11, congrFun hZk.1 12, hX13, rfl, rfl, ⟨n_134, rfl, ?_⟩, fun j q23 q38 q39 q40 q44 q45 => ?_, fun i hi => ?_, fun r i => (lKup _ r i _ _ (by decide)).trans ((lKup _ r i _ _ (by decide)).trans ((lKup _ r i _ _ (by decide)).trans ((lKup _ r i _ _ (by decide)).trans ((lKup _ r i _ _ (by decide)).trans ((lKup _ r i _ _ (by decide)).trans ((lKup _ r i _ _ (by decide)).trans (congrFun hZk.1 _)))))))⟩
                                            · rw [← hkp, show (SX (k1 : Int32).toNatClampNeg 14).toNat = n_138 by omega]; rw [← hZk.2]; exact htr8
                                            · rw [← hZk.2]; simp only [va_up_ne _ _ q23, va_up_ne _ _ q38, va_up_ne _ _ q39, va_up_ne _ _ q40, va_up_ne _ _ q44, va_up_ne _ _ q45]
                                            · rw [← hZk.2]; exact (hg23 i (by show (i : Int) < fx M b13 10; omega))
                                          rw [hQ]
                                          exact W.iret (v := (nI ((v176 + 1) - 1))) hx hb hr (fun t ht hW9 => ⟨⟨(nI ((v176 + 1) - 1)), M_214, rfl, ⟨hW, hF, hG, ⟨hGI9, (va_up (va_up (va_up (va_up (va_up (va_up (va_up (fx M b13) 17 ((gnw118 : Nat) : Int)) 14 ((n_134 : Nat) : Int)) 15 (0 : Int)) 16 (0 : Int)) 1 ((c_33 : Nat) : Int)) 13 (((v176 + 1) : Nat) : Int)) 18 (1 : Int)), (va_up (va_up (va_up (va_up (va_up (va_up (ax M b13) 44 gpw118) 45 gqw118) 38 p_135) 39 q_136) 40 r_137) 23 g_217), fun _ => hCLF, (by unfold sxCl syCl; rw [if_pos hyes, if_pos hyes]; exact ZSx.fin hW0 i1 b2 hZS hGI.1 hkn hb9 hV (hF.at i1 (by decide)) rfl rfl)⟩, (by unfold anCl; rw [if_pos hyes]; exact congrArg nI (by omega))⟩, ⟨0, (-1), zgw118, (by omega), (WHR.ok hyes), by rw [ht]; exact hP, hD⟩⟩, hS.F ht⟩) hS.2.2 dX13_close_366
                                        · have hz := rfl (a := 0)
                                          have n_227 : ¬ (v125 ≤ v7w118) := fun q => c_126 ((iLE (a := v125) (b := v7w118) (by omega) (by omega)).mpr q)
                                          obtain ⟨v228, hv228, hc228⟩ : ∃ v : Nat, fs124[17]? = some (.int (nI v) : Value) ∧ v ≤ 120 := hl124 17 (by decide)
                                          have hx17 : ((gnw118 : Nat) : Int) = ((v228 : Nat) : Int) := (congrFun hV.2.1 17).symm.trans ((fx_of hM124 rfl hv228).trans (nI_toInt (by omega)))
                                          have hx15 : (fx M b13 15) = ((v125 : Nat) : Int) := (congrFun hV.2.1 15).symm.trans ((fx_of hM124 rfl hv125).trans (nI_toInt (by omega)))
                                          refine lv_aload_n hx hb dX13_close_287 rfl (lv_at hl 6 rfl) ?_
                                          refine lv_aload_n hx hb dX13_close_288 rfl (lv_at hl 5 rfl) ?_
                                          refine lv_iload hx hb dX13_close_289 (lv_at hl 0 rfl) ?_
                                          have hPc : va_P D vwCl ([(za, (b13_0 0 z1 (nI z2) (nI z3) z4 z5 z6 z7 z8 z9 (nI z10) z11 z12 z13 z14 z15 (nI zgw118) z17 z18 z19))] ++ va_pl L M_122) H_123 := hP
                                          have hDc : va_D A ([(za, (b13_0 0 z1 (nI z2) (nI z3) z4 z5 z6 z7 z8 z9 (nI z10) z11 z12 z13 z14 z15 (nI zgw118) z17 z18 z19))] ++ va_pl L M_122) := hD
                                          have hFc : ∀ q, va_A ([(za, (b13_0 0 z1 (nI z2) (nI z3) z4 z5 z6 z7 z8 z9 (nI z10) z11 z12 z13 z14 z15 (nI zgw118) z17 z18 z19))] ++ va_pl L M_122) H_123.size q → A q := pg_free hDc hS hA
                                          refine va_callv (va_runV (As := [.ref b13, .int (nI v7w118)]) (rest := []) ⟨hx, hb, hml, hown, hg⟩ (g_X13_mended l D cy K L M_122 H_123.size za 0 z1 z2 z3 z4 z5 z6 z7 z8 z9 z10 z11 z12 z13 z14 z15 zgw118 z17 z18 z19 b13 v7w118  hW i1 b2 b3 i6 i7 i8 i9 b10 i11 i12 i13 i14 i15 (by omega) i17 i19 hb_15 (by omega) hV.2.2.2 ⟨_, _, hM124, hv228, by omega⟩ (by rw [hV.2.1]; exact h11) (by rw [hV.2.1, hV.2.2.1]; exact hAT.2.2.2.1) (by rw [hV.2.1]; show ((v7w118 : Nat) : Int) < fx M b13 15; omega)) (cwV 2 hg (gV wd_871 wd_872 wd_873 wd_717 wd_874) rfl rfl rfl (by decide +kernel) ⟨(Nat.le_trans (Nat.le_of_ble_eq_true rfl) hRf), (Nat.le_trans (Nat.le_of_ble_eq_true rfl) hRl)⟩) ⟨PG.blind, va_recv hK hP (ci := 13) (q0 := 0) rfl rfl, fun U hU hW => ⟨rfl, PG.at hPc hK hDc hN hU hW⟩⟩ rfl rfl hl.1 rfl (lv_room (Nat.le_of_ble_eq_true rfl)) dX13_close_291 ⟨(Nat.le_trans (Nat.le_of_ble_eq_true rfl) hRc), (Nat.le_trans (Nat.le_of_ble_eq_true rfl) hRs)⟩) hS (fun q _ h => hFc q h) hFc (fun M_231 t H_229 locs ht hvm hw hB hz1 hk1 hS => ?_)
                                          have hWb := hW
                                          obtain ⟨hW, hF2, hG2, hVP, hp_232⟩ := hw
                                          obtain ⟨w16_233, hg_234, hP1, hD1⟩ := hB
                                          rw [ht] at hP1
                                          have hP : va_P D vwCl ([(za, (b13_0 0 z1 (nI z2) (nI z3) z4 z5 z6 z7 z8 z9 (nI z10) z11 z12 z13 z14 z15 (nI w16_233) z17 z18 z19))] ++ va_pl L M_231) H_229 := hP1
                                          have hD : va_D A ([(za, (b13_0 0 z1 (nI z2) (nI z3) z4 z5 z6 z7 z8 z9 (nI z10) z11 z12 z13 z14 z15 (nI w16_233) z17 z18 z19))] ++ va_pl L M_231) := hD1.mono hFc
                                          obtain ⟨fs235, hM235, hn235, hl235⟩ := hW.open_12 hb_15
                                          have hv_236 : fs235[15]? = some (.int (nI v125) : Value) := (hG2 _ hb_15 _ _ hM124 hM235 15 (by decide)).trans hv125
                                          have hF : fr K L [12, 14, 15, 32, 42, 45, 46, 79, 80, 81, 83] M M_231 := hF.tr hF2 (by decide)
                                          have hG : fG K L [1, 7, 8, 13, 14, 15, 16, 17, 18] M M_231 := hG.tr hWb hG2 (by decide)
                                          obtain ⟨n_237, g_238, g_239, hn17, hV2⟩ := hVP
                                          rw [hV.2.1] at hn17
                                          rw [hV.2.1, hV.2.2.1] at hV2
                                          have hn17 : ((gnw118 : Nat) : Int) = (n_237 : Int) := hn17
                                          have hV : VW K L M M_231 b13 (va_up (va_up (fx M b13) 17 ((gnw118 : Nat) : Int)) 17 ((n_237 + 1 : Nat) : Int)) (va_up (va_up (va_up (va_up (ax M b13) 44 gpw118) 45 gqw118) 44 g_238) 45 g_239) := hV.tr hV2
                                          refine lv_iinc (v := (nI (v7w118 + 1))) (lv' := [(7, .int (nI (v7w118 + 1))), (6, .int (nI v99)), (5, .int (-1)), (4, .int (nI c_33)), (3, .int 0), (2, .ref b13), (0, .ref za), (1, .int k1)]) hx hb dX13_close_294 hl (k := 0) rfl (nI_1 v7w118) (by decide) rfl (fun ls hl => ?_)
                                          refine lv_goto (tgt := 278) hx hb dX13_close_297 (by decide) ?_
                                          exact ih_116 (v7w118 + 1) w16_233 (n_237 + 1) g_238 g_239 M_231 H_229 _ _ (by omega) (by omega) (by omega) (by omega) hW hF hG (by have h := hV; simp only [va_up_up] at h; rw [va_up_4] at h; exact h) hP hD hS (lv_sub hl [0, 1, 2, 3, 4, 5, 6, 7] rfl)
                                    exact key_115 (24 - 0 + 1) 0 zgw108 gnw91 gpw91 gqw91 M_111 H_112 _ _ (by omega) (by omega) (by omega) (by omega) hW hF hG hV hP hD hS (lv_sub hl [0, 1, 2, 3, 4, 5, 6, 7] rfl)
                                  · have hz := rfl (a := 0)
                                    have n_240 : ¬ (v99 ≤ v7w108) := fun q => c_113 ((iLE (a := v99) (b := v7w108) (by omega) (by omega)).mpr q)
                                    refine lv_aload_n hx hb dX13_close_261 rfl (lv_at hl 6 rfl) ?_
                                    refine lv_aload_n hx hb dX13_close_262 rfl (lv_at hl 5 rfl) ?_
                                    refine lv_iload hx hb dX13_close_263 (lv_at hl 0 rfl) ?_
                                    refine lv_iload_n hx hb dX13_close_265 rfl (lv_at hl 4 rfl) ?_
                                    have hPc : va_P D vwCl ([(za, (b13_0 0 z1 (nI z2) (nI z3) z4 z5 z6 z7 z8 z9 (nI z10) z11 z12 z13 z14 z15 (nI zgw108) z17 z18 z19))] ++ va_pl L M_111) H_112 := hP
                                    have hDc : va_D A ([(za, (b13_0 0 z1 (nI z2) (nI z3) z4 z5 z6 z7 z8 z9 (nI z10) z11 z12 z13 z14 z15 (nI zgw108) z17 z18 z19))] ++ va_pl L M_111) := hD
                                    have hFc : ∀ q, va_A ([(za, (b13_0 0 z1 (nI z2) (nI z3) z4 z5 z6 z7 z8 z9 (nI z10) z11 z12 z13 z14 z15 (nI zgw108) z17 z18 z19))] ++ va_pl L M_111) H_112.size q → A q := pg_free hDc hS hA
                                    refine va_callv (va_runV (As := [.ref b13, .int (nI v7w108), .int 0]) (rest := []) ⟨hx, hb, hml, hown, hg⟩ (g_X13_stretch l D cy K L M_111 H_112.size za 0 z1 z2 z3 z4 z5 z6 z7 z8 z9 z10 z11 z12 z13 z14 z15 zgw108 z17 z18 z19 b13 v7w108 0  hW i1 b2 b3 i6 i7 i8 i9 b10 i11 i12 i13 i14 i15 (by omega) i17 i19 hb_15 (by omega) hV.2.2.2 (by rw [hV.2.1]; exact h11) (by rw [hV.2.1, hV.2.2.1]; exact hAT.2.2.2.1.1 h11) (by have hq9 := hs4 v7w108 (by omega); rw [hV.2.1, hV.2.2.1]; show fx M b13 0 ≤ (gpw91 v7w108).toInt; omega) (by have hq9 := hs4 v7w108 (by omega); rw [hV.2.2.1]; show (gpw91 v7w108).toInt + (gqw91 v7w108).toInt ≤ 1000; omega)) (cwV 3 hg (gV wd_875 wd_876 wd_877 wd_717 wd_878) rfl rfl rfl (by decide +kernel) ⟨(Nat.le_trans (Nat.le_of_ble_eq_true rfl) hRf), (Nat.le_trans (Nat.le_of_ble_eq_true rfl) hRl)⟩) ⟨PG.blind, va_recv hK hP (ci := 13) (q0 := 0) rfl rfl, fun U hU hW => ⟨rfl, PG.at hPc hK hDc hN hU hW⟩⟩ rfl rfl hl.1 rfl (lv_room (Nat.le_of_ble_eq_true rfl)) dX13_close_266 ⟨(Nat.le_trans (Nat.le_of_ble_eq_true rfl) hRc), (Nat.le_trans (Nat.le_of_ble_eq_true rfl) hRs)⟩) hS (fun q _ h => hFc q h) hFc (fun M_243 t H_241 locs ht hvm hw hB hz1 hk1 hS => ?_)
                                    have hWb := hW
                                    obtain ⟨hW, hF2, hG2, hp_244⟩ := hw
                                    obtain ⟨w16_245, hg_246, hP1, hD1⟩ := hB
                                    rw [ht] at hP1
                                    have hP : va_P D vwCl ([(za, (b13_0 0 z1 (nI z2) (nI z3) z4 z5 z6 z7 z8 z9 (nI z10) z11 z12 z13 z14 z15 (nI w16_245) z17 z18 z19))] ++ va_pl L M_243) H_241 := hP1
                                    have hD : va_D A ([(za, (b13_0 0 z1 (nI z2) (nI z3) z4 z5 z6 z7 z8 z9 (nI z10) z11 z12 z13 z14 z15 (nI w16_245) z17 z18 z19))] ++ va_pl L M_243) := hD1.mono hFc
                                    have hF : fr K L [12, 14, 15, 32, 42, 45, 46, 79, 80, 81, 83] M M_243 := hF.tr hF2 (by decide)
                                    have hG : fG K L [1, 7, 8, 13, 14, 15, 16, 17, 18] M M_243 := hG.tr hWb hG2 (by decide)
                                    have hV : VW K L M M_243 b13 (va_up (fx M b13) 17 ((gnw91 : Nat) : Int)) (va_up (va_up (ax M b13) 44 gpw91) 45 gqw91) := hV.cal hWb hW hF2 hG2 (by decide) (by decide) hb_15
                                    refine lv_iinc (v := (nI (v7w108 + 1))) (lv' := [(7, .int (nI (v7w108 + 1))), (6, .int (nI v99)), (5, .int (-1)), (4, .int (nI c_33)), (3, .int 0), (2, .ref b13), (0, .ref za), (1, .int k1)]) hx hb dX13_close_269 hl (k := 0) rfl (nI_1 v7w108) (by decide) rfl (fun ls hl => ?_)
                                    refine lv_goto (tgt := 254) hx hb dX13_close_272 (by decide) ?_
                                    exact ih_106 (v7w108 + 1) w16_245 M_243 H_241 _ _ (by omega) (by omega) (by omega) hW hF hG hV hP hD hS (lv_sub hl [0, 1, 2, 3, 4, 5, 6, 7] rfl)
                              exact key_105 (1001 - 0 + 1) 0 z16 M_102 H_100 _ _ (by omega) (by omega) (by omega) hW hF hG hV hP hD hS (lv_sub hl [0, 1, 2, 3, 4, 5, 6, 7] rfl)
                            · have hz := rfl (a := 0)
                              have n_247 : ¬ (c_33 < v6w91) := fun q => c_96 ((iLT (a := c_33) (b := v6w91) (by omega) (by omega)).mpr q)
                              obtain ⟨fs248, hM248, hn248, hl248⟩ := hW.open_12 hb_15
                              obtain ⟨v249, hv249, hc249⟩ : ∃ v : Nat, fs248[17]? = some (.int (nI v) : Value) ∧ v ≤ 120 := hl248 17 (by decide)
                              have hx17 : ((gnw91 : Nat) : Int) = ((v249 : Nat) : Int) := (congrFun hV.2.1 17).symm.trans ((fx_of hM248 rfl hv249).trans (nI_toInt (by omega)))
                              obtain ⟨v250, hv250, hc250⟩ : ∃ v : Nat, fs248[44]? = some (.ref v : Value) ∧ isk K L v 45 120 := hl248 44 (by decide)
                              obtain ⟨f251, hM251, hf251⟩ := hW.open_45 hc250
                              have hy44 : gpw91 = f251 := (congrFun hV.2.2.1 44).symm.trans (ax_of hM248 (by decide) hv250 hM251)
                              obtain ⟨v252, hv252, hc252⟩ : ∃ v : Nat, fs248[45]? = some (.ref v : Value) ∧ isk K L v 46 120 := hl248 45 (by decide)
                              obtain ⟨f253, hM253, hf253⟩ := hW.open_46 hc252
                              have hy45 : gqw91 = f253 := (congrFun hV.2.2.1 45).symm.trans (ax_of hM248 (by decide) hv252 hM253)
                              have hSD := hx_93
                              obtain ⟨hs1, hs2, hs3, hs4⟩ := hx_93
                              have hgn : v249 = gnw91 := by omega
                              refine lv_iload hx hb dX13_close_171 (lv_at hl 0 rfl) ?_
                              refine lv_iload_n hx hb dX13_close_173 rfl (lv_at hl 3 rfl) ?_
                              refine lv_icmp_eq (tgt := 186) hx hb dX13_close_174 (by decide) (fun c_254 => ?_) (fun c_254 => ?_)
                              · have hz := rfl (a := 0)
                                have n_255 : v6w91 = 0 := (iEQ (a := v6w91) (b := 0) (by omega) (by omega)).mp c_254
                                refine lv_aload_n hx hb dX13_close_186 rfl (lv_at hl 4 rfl) ?_
                                refine pg_getN (D := D) (ci := 12) (v := .ref v250) (C := RX12) (T := TX12) (N := 51) hx hb hg inG12 hown hK hP hb_15.1 hM248 rfl 44 (by decide) (hN.use (Cond.fieldLinkNest RX13 265 RX12 "stretchDay" "[I" RX13) 53 rfl rfl) (fun _ h9 => h9) hv250 dX13_close_187 ?_
                                refine lv_aload_n hx hb dX13_close_190 rfl (lv_at hl 4 rfl) ?_
                                refine pg_getN (D := D) (ci := 12) (v := .int (nI v249)) (C := RX12) (T := TX12) (N := 51) hx hb hg inG12 hown hK hP hb_15.1 hM248 rfl 17 (by decide) (hN.use (Cond.fieldLinkNest RX13 256 RX12 "stretches" "I" RX13) 26 rfl rfl) (fun _ h9 => h9) hv249 dX13_close_191 ?_
                                refine lv_iload hx hb dX13_close_194 (lv_at hl 0 rfl) ?_
                                refine pg_iast hx hb hK hP hD hS hc250.1 0 hM251 rfl (inbN v249 120 (by omega) (by omega)) dX13_close_196 (fun H_256 locs hP hD hS => ?_)
                                obtain ⟨M_257, eM_257⟩ : ∃ M1 : Hp, M1 = va_up M_94 v250 (.inl (cy 14, 120, .inl (upd f251 ((nI v249) : Int32).toNatClampNeg (nI v6w91)))) := ⟨_, rfl⟩
                                have hy44 : gpw91 = f251 := (congrFun hV.2.2.1 44).symm.trans (ax_of hM248 (by decide) hv250 hM251)
                                have hV : VW K L M M_257 b13 (va_up (fx M b13) 17 ((gnw91 : Nat) : Int)) (va_up (va_up (va_up (ax M b13) 44 gpw91) 45 gqw91) 44 (upd gpw91 ((nI v249) : Int32).toNatClampNeg (nI v6w91))) := by rw [eM_257]; exact hV.ast (j := 44) hW hb_15 hM248 (by decide) hv250 hc250 hM251
                                have hP : va_P D vwCl ([(za, (b13_0 0 z1 (nI z2) (nI z3) z4 z5 z6 z7 z8 z9 (nI z10) z11 z12 z13 z14 z15 (nI z16) z17 z18 z19))] ++ va_pl L M_257) H_256 := by rw [eM_257]; exact hP
                                have hD : va_D A ([(za, (b13_0 0 z1 (nI z2) (nI z3) z4 z5 z6 z7 z8 z9 (nI z10) z11 z12 z13 z14 z15 (nI z16) z17 z18 z19))] ++ va_pl L M_257) := by rw [eM_257]; exact hD
                                have hW : WOM cy K L M_257 := by rw [eM_257]; exact hW.up_45 hc250 ⟨_, rfl, (updP (P := fun z => ∃ c : Nat, c < 1000 ∧ z = nI c) hf251 ⟨v6w91, by omega, rfl⟩)⟩
                                have hF : fr K L [12, 14, 15, 32, 42, 45, 46, 79, 80, 81, 83] M M_257 := by rw [eM_257]; exact hF.up hc250 (by decide)
                                have hG : fG K L [1, 7, 8, 13, 14, 15, 16, 17, 18] M M_257 := by rw [eM_257]; exact hG.arr hc250 (by decide)
                                have hM_258 : M_257 v250 = .inl (cy 14, 120, .inl (upd f251 ((nI v249) : Int32).toNatClampNeg (nI v6w91))) := by rw [eM_257]; exact va_up_self _ _ _
                                have hM_259 : M_257 b13 = .inr (12, fs248) := by rw [eM_257, va_up_ne _ _ (hb_15.neT hc250 (by decide))]; exact hM248
                                have hM_260 : M_257 v252 = .inl (cy 14, 120, .inl (f253)) := by rw [eM_257, va_up_ne _ _ (hc252.neT hc250 (by decide))]; exact hM253
                                have hf_262 : ∀ j, j < 120 → ∃ c : Nat, c < 1000 ∧ (upd f251 ((nI v249) : Int32).toNatClampNeg (nI v6w91)) j = nI c := (updP (P := fun z => ∃ c : Nat, c < 1000 ∧ z = nI c) hf251 ⟨v6w91, by omega, rfl⟩)
                                obtain ⟨f_261, ef_261⟩ : ∃ f : Nat → Int32, f = upd f251 ((nI v249) : Int32).toNatClampNeg (nI v6w91) := ⟨_, rfl⟩
                                rw [← ef_261] at hM_258 hf_262
                                refine lv_aload_n hx hb dX13_close_197 rfl (lv_at hl 4 rfl) ?_
                                refine pg_getN (D := D) (ci := 12) (v := .ref v252) (C := RX12) (T := TX12) (N := 51) hx hb hg inG12 hown hK hP hb_15.1 hM_259 rfl 45 (by decide) (hN.use (Cond.fieldLinkNest RX13 268 RX12 "stretchDays" "[I" RX13) 54 rfl rfl) (fun _ h9 => h9) hv252 dX13_close_198 ?_
                                refine lv_aload_n hx hb dX13_close_201 rfl (lv_at hl 4 rfl) ?_
                                refine pg_getN (D := D) (ci := 12) (v := .int (nI v249)) (C := RX12) (T := TX12) (N := 51) hx hb hg inG12 hown hK hP hb_15.1 hM_259 rfl 17 (by decide) (hN.use (Cond.fieldLinkNest RX13 256 RX12 "stretches" "I" RX13) 26 rfl rfl) (fun _ h9 => h9) hv249 dX13_close_202 ?_
                                refine lv_iconst (v := 0) hx hb dX13_close_205 (by decide) ?_
                                refine pg_iast hx hb hK hP hD hS hc252.1 0 hM_260 rfl (inbN v249 120 (by omega) (by omega)) dX13_close_206 (fun H_263 locs hP hD hS => ?_)
                                obtain ⟨M_264, eM_264⟩ : ∃ M1 : Hp, M1 = va_up M_257 v252 (.inl (cy 14, 120, .inl (upd f253 ((nI v249) : Int32).toNatClampNeg 0))) := ⟨_, rfl⟩
                                have hy45 : gqw91 = f253 := (congrFun hV.2.2.1 45).symm.trans (ax_of hM_259 (by decide) hv252 hM_260)
                                have hV : VW K L M M_264 b13 (va_up (fx M b13) 17 ((gnw91 : Nat) : Int)) (va_up (va_up (va_up (va_up (ax M b13) 44 gpw91) 45 gqw91) 44 (upd gpw91 ((nI v249) : Int32).toNatClampNeg (nI v6w91))) 45 (upd gqw91 ((nI v249) : Int32).toNatClampNeg 0)) := by rw [eM_264]; exact hV.ast (j := 45) hW hb_15 hM_259 (by decide) hv252 hc252 hM_260
                                have hP : va_P D vwCl ([(za, (b13_0 0 z1 (nI z2) (nI z3) z4 z5 z6 z7 z8 z9 (nI z10) z11 z12 z13 z14 z15 (nI z16) z17 z18 z19))] ++ va_pl L M_264) H_263 := by rw [eM_264]; exact hP
                                have hD : va_D A ([(za, (b13_0 0 z1 (nI z2) (nI z3) z4 z5 z6 z7 z8 z9 (nI z10) z11 z12 z13 z14 z15 (nI z16) z17 z18 z19))] ++ va_pl L M_264) := by rw [eM_264]; exact hD
                                have hW : WOM cy K L M_264 := by rw [eM_264]; exact hW.up_46 hc252 ⟨_, rfl, (updP (P := fun z => ∃ c : Nat, c < 1001 ∧ z = nI c) hf253 ⟨0, by omega, rfl⟩)⟩
                                have hF : fr K L [12, 14, 15, 32, 42, 45, 46, 79, 80, 81, 83] M M_264 := by rw [eM_264]; exact hF.up hc252 (by decide)
                                have hG : fG K L [1, 7, 8, 13, 14, 15, 16, 17, 18] M M_264 := by rw [eM_264]; exact hG.arr hc252 (by decide)
                                have hM_265 : M_264 v252 = .inl (cy 14, 120, .inl (upd f253 ((nI v249) : Int32).toNatClampNeg 0)) := by rw [eM_264]; exact va_up_self _ _ _
                                have hM_266 : M_264 v250 = .inl (cy 14, 120, .inl (f_261)) := by rw [eM_264, va_up_ne _ _ (hc250.neT hc252 (by decide))]; exact hM_258
                                have hM_267 : M_264 b13 = .inr (12, fs248) := by rw [eM_264, va_up_ne _ _ (hb_15.neT hc252 (by decide))]; exact hM_259
                                have hf_269 : ∀ j, j < 120 → ∃ c : Nat, c < 1001 ∧ (upd f253 ((nI v249) : Int32).toNatClampNeg 0) j = nI c := (updP (P := fun z => ∃ c : Nat, c < 1001 ∧ z = nI c) hf253 ⟨0, by omega, rfl⟩)
                                obtain ⟨f_268, ef_268⟩ : ∃ f : Nat → Int32, f = upd f253 ((nI v249) : Int32).toNatClampNeg 0 := ⟨_, rfl⟩
                                rw [← ef_268] at hM_265 hf_269
                                refine lv_aload_n hx hb dX13_close_207 rfl (lv_at hl 4 rfl) ?_
                                refine lv_dup hx hb dX13_close_208 rfl ?_
                                refine pg_getN (D := D) (ci := 12) (v := .int (nI v249)) (C := RX12) (T := TX12) (N := 51) hx hb hg inG12 hown hK hP hb_15.1 hM_267 rfl 17 (by decide) (hN.use (Cond.fieldLinkNest RX13 256 RX12 "stretches" "I" RX13) 26 rfl rfl) (fun _ h9 => h9) hv249 dX13_close_209 ?_
                                refine lv_iconst (v := 1) hx hb dX13_close_212 (by decide) ?_
                                refine lv_iadd hx hb dX13_close_213 ?_
                                refine lv_topi (fun f_270 ef_270 => ?_)
                                obtain rfl : f_270 = (nI (v249 + 1)) := ef_270.trans (nI_add v249 1)
                                refine pg_putN (D := D) (ci := 12) (v := .int (nI (v249 + 1))) (ty := .int) (C := RX12) (T := TX12) (N := 51) hx hb hg inG12 tyX12 tyX12_ok nmX12 hown hK hP hD hS hb_15.1 hM_267 rfl 17 (by decide) (hN.use (Cond.fieldLinkNest RX13 256 RX12 "stretches" "I" RX13) 26 rfl rfl) (fun _ h9 => h9) rfl (by decide +kernel) rfl rfl (by rw [hn248]; decide) dX13_close_214 (fun H_271 locs hP hD hS => ?_)
                                have hs_274 : (fs248.set 17 (.int (nI (v249 + 1))))[17]? = some (.int (nI (v249 + 1))) := List.getElem?_set_self (by rw [hn248]; decide)
                                have hk_273 := fld12_set (k := 17) (w := .int (nI (v249 + 1))) hl248 (show fld12 K L 17 (fs248.set 17 (.int (nI (v249 + 1)))) from ⟨(v249 + 1), hs_274, by omega⟩)
                                have hn_275 : (fs248.set 17 (.int (nI (v249 + 1)))).length = 51 := by rw [List.length_set]; exact hn248
                                have hv_276 : (fs248.set 17 (.int (nI (v249 + 1))))[44]? = some (.ref v250) := by rw [List.getElem?_set_ne (by decide)]; exact hv250
                                have hv_277 : (fs248.set 17 (.int (nI (v249 + 1))))[45]? = some (.ref v252) := by rw [List.getElem?_set_ne (by decide)]; exact hv252
                                have hb_278 : (v249 + 1) ≤ 120 := by omega
                                obtain ⟨M_279, eM_279⟩ : ∃ M1 : Hp, M1 = va_up M_264 b13 (.inr (12, fs248.set 17 (.int (nI (v249 + 1))))) := ⟨_, rfl⟩
                                have hx17 : ((gnw91 : Nat) : Int) = ((v249 : Nat) : Int) := (congrFun hV.2.1 17).symm.trans ((fx_of hM_267 rfl hv249).trans (nI_toInt (by omega)))
                                have hV : VW K L M M_279 b13 (va_up (va_up (fx M b13) 17 ((gnw91 : Nat) : Int)) 17 (((v249 + 1) : Nat) : Int)) (va_up (va_up (va_up (va_up (ax M b13) 44 gpw91) 45 gqw91) 44 (upd gpw91 ((nI v249) : Int32).toNatClampNeg (nI v6w91))) 45 (upd gqw91 ((nI v249) : Int32).toNatClampNeg 0)) := by rw [eM_279]; exact hV.put hW hb_15 hM_267 hn248 rfl (by decide) rfl (nI_toInt (by omega))
                                have hP : va_P D vwCl ([(za, (b13_0 0 z1 (nI z2) (nI z3) z4 z5 z6 z7 z8 z9 (nI z10) z11 z12 z13 z14 z15 (nI z16) z17 z18 z19))] ++ va_pl L M_279) H_271 := by rw [eM_279]; exact hP
                                have hD : va_D A ([(za, (b13_0 0 z1 (nI z2) (nI z3) z4 z5 z6 z7 z8 z9 (nI z10) z11 z12 z13 z14 z15 (nI z16) z17 z18 z19))] ++ va_pl L M_279) := by rw [eM_279]; exact hD
                                have hW : WOM cy K L M_279 := by rw [eM_279]; exact hW.up_12 hb_15 ⟨_, rfl, hn_275, hk_273⟩
                                have hF : fr K L [12, 14, 15, 32, 42, 45, 46, 79, 80, 81, 83] M M_279 := by rw [eM_279]; exact hF.up hb_15 (by decide)
                                have hG : fG K L [1, 7, 8, 13, 14, 15, 16, 17, 18] M M_279 := by rw [eM_279]; exact hG.up hM_267 (by decide)
                                have hM_280 : M_279 b13 = .inr (12, fs248.set 17 (.int (nI (v249 + 1)))) := by rw [eM_279]; exact va_up_self _ _ _
                                have hM_281 : M_279 v252 = .inl (cy 14, 120, .inl (f_268)) := by rw [eM_279, va_up_ne _ _ (hc252.neT hb_15 (by decide))]; exact hM_265
                                have hM_282 : M_279 v250 = .inl (cy 14, 120, .inl (f_261)) := by rw [eM_279, va_up_ne _ _ (hc250.neT hb_15 (by decide))]; exact hM_266
                                refine lv_aload_n hx hb dX13_close_217 rfl (lv_at hl 4 rfl) ?_
                                refine pg_getN (D := D) (ci := 12) (v := .ref v252) (C := RX12) (T := TX12) (N := 51) hx hb hg inG12 hown hK hP hb_15.1 hM_280 rfl 45 (by decide) (hN.use (Cond.fieldLinkNest RX13 268 RX12 "stretchDays" "[I" RX13) 54 rfl rfl) (fun _ h9 => h9) hv_277 dX13_close_218 ?_
                                refine lv_aload_n hx hb dX13_close_221 rfl (lv_at hl 4 rfl) ?_
                                refine pg_getN (D := D) (ci := 12) (v := .int (nI (v249 + 1))) (C := RX12) (T := TX12) (N := 51) hx hb hg inG12 hown hK hP hb_15.1 hM_280 rfl 17 (by decide) (hN.use (Cond.fieldLinkNest RX13 256 RX12 "stretches" "I" RX13) 26 rfl rfl) (fun _ h9 => h9) hs_274 dX13_close_222 ?_
                                refine lv_iconst (v := 1) hx hb dX13_close_225 (by decide) ?_
                                refine lv_isub hx hb dX13_close_226 ?_
                                refine lv_topi (fun f_283 ef_283 => ?_)
                                obtain rfl : f_283 = (nI ((v249 + 1) - 1)) := ef_283.trans (nI_prd (by omega))
                                refine lv_dup2_11 hx hb dX13_close_227 rfl rfl ?_
                                have hi_284 : vp_in (nI ((v249 + 1) - 1)) 120 := (inbN ((v249 + 1) - 1) 120 (by omega) (by omega))
                                refine pg_iald hx hb hK hP hc252.1 0 hM_281 rfl hi_284 dX13_close_228 ?_
                                have hp_285 := hf_269 _ (vp_lt hi_284)
                                obtain ⟨c_286, hc_287, ec_288⟩ := hp_285
                                rw [ec_288]
                                have hy45 : (upd gqw91 ((nI v249) : Int32).toNatClampNeg 0) = f_268 := (congrFun hV.2.2.1 45).symm.trans (ax_of hM_280 (by decide) hv_277 hM_281)
                                have hec : (upd gqw91 ((nI v249) : Int32).toNatClampNeg 0) ((nI ((v249 + 1) - 1)) : Int32).toNatClampNeg = nI c_286 := by rw [hy45]; exact ec_288
                                have hcc : c_286 = 0 := updz (n := v249) (nI_cl (by omega)) ((nI_cl (by omega)).trans (by omega)) hec (by omega)
                                refine lv_iconst (v := 1) hx hb dX13_close_229 (by decide) ?_
                                refine lv_iadd hx hb dX13_close_230 ?_
                                refine lv_topi (fun f_289 ef_289 => ?_)
                                obtain rfl : f_289 = (nI (c_286 + 1)) := ef_289.trans (nI_add c_286 1)
                                refine pg_iast hx hb hK hP hD hS hc252.1 0 hM_281 rfl (inbN ((v249 + 1) - 1) 120 (by omega) (by omega)) dX13_close_231 (fun H_290 locs hP hD hS => ?_)
                                obtain ⟨M_291, eM_291⟩ : ∃ M1 : Hp, M1 = va_up M_279 v252 (.inl (cy 14, 120, .inl (upd f_268 ((nI ((v249 + 1) - 1)) : Int32).toNatClampNeg (nI (c_286 + 1))))) := ⟨_, rfl⟩
                                have hy45 : (upd gqw91 ((nI v249) : Int32).toNatClampNeg 0) = f_268 := (congrFun hV.2.2.1 45).symm.trans (ax_of hM_280 (by decide) hv_277 hM_281)
                                have hV : VW K L M M_291 b13 (va_up (va_up (fx M b13) 17 ((gnw91 : Nat) : Int)) 17 (((v249 + 1) : Nat) : Int)) (va_up (va_up (va_up (va_up (va_up (ax M b13) 44 gpw91) 45 gqw91) 44 (upd gpw91 ((nI v249) : Int32).toNatClampNeg (nI v6w91))) 45 (upd gqw91 ((nI v249) : Int32).toNatClampNeg 0)) 45 (upd (upd gqw91 ((nI v249) : Int32).toNatClampNeg 0) ((nI ((v249 + 1) - 1)) : Int32).toNatClampNeg (nI (c_286 + 1)))) := by rw [eM_291]; exact hV.ast (j := 45) hW hb_15 hM_280 (by decide) hv_277 hc252 hM_281
                                have hP : va_P D vwCl ([(za, (b13_0 0 z1 (nI z2) (nI z3) z4 z5 z6 z7 z8 z9 (nI z10) z11 z12 z13 z14 z15 (nI z16) z17 z18 z19))] ++ va_pl L M_291) H_290 := by rw [eM_291]; exact hP
                                have hD : va_D A ([(za, (b13_0 0 z1 (nI z2) (nI z3) z4 z5 z6 z7 z8 z9 (nI z10) z11 z12 z13 z14 z15 (nI z16) z17 z18 z19))] ++ va_pl L M_291) := by rw [eM_291]; exact hD
                                have hW : WOM cy K L M_291 := by rw [eM_291]; exact hW.up_46 hc252 ⟨_, rfl, (updP (P := fun z => ∃ c : Nat, c < 1001 ∧ z = nI c) hf_269 ⟨(c_286 + 1), by omega, rfl⟩)⟩
                                have hF : fr K L [12, 14, 15, 32, 42, 45, 46, 79, 80, 81, 83] M M_291 := by rw [eM_291]; exact hF.up hc252 (by decide)
                                have hG : fG K L [1, 7, 8, 13, 14, 15, 16, 17, 18] M M_291 := by rw [eM_291]; exact hG.arr hc252 (by decide)
                                have hM_292 : M_291 v252 = .inl (cy 14, 120, .inl (upd f_268 ((nI ((v249 + 1) - 1)) : Int32).toNatClampNeg (nI (c_286 + 1)))) := by rw [eM_291]; exact va_up_self _ _ _
                                have hM_293 : M_291 b13 = .inr (12, fs248.set 17 (.int (nI (v249 + 1)))) := by rw [eM_291, va_up_ne _ _ (hb_15.neT hc252 (by decide))]; exact hM_280
                                have hM_294 : M_291 v250 = .inl (cy 14, 120, .inl (f_261)) := by rw [eM_291, va_up_ne _ _ (hc250.neT hc252 (by decide))]; exact hM_282
                                have hf_296 : ∀ j, j < 120 → ∃ c : Nat, c < 1001 ∧ (upd f_268 ((nI ((v249 + 1) - 1)) : Int32).toNatClampNeg (nI (c_286 + 1))) j = nI c := (updP (P := fun z => ∃ c : Nat, c < 1001 ∧ z = nI c) hf_269 ⟨(c_286 + 1), by omega, rfl⟩)
                                obtain ⟨f_295, ef_295⟩ : ∃ f : Nat → Int32, f = upd f_268 ((nI ((v249 + 1) - 1)) : Int32).toNatClampNeg (nI (c_286 + 1)) := ⟨_, rfl⟩
                                rw [← ef_295] at hM_292 hf_296
                                refine lv_iinc (v := (nI (v6w91 + 1))) (lv' := [(6, .int (nI (v6w91 + 1))), (5, .int (-1)), (4, .int (nI c_33)), (3, .int 0), (2, .ref b13), (0, .ref za), (1, .int k1)]) hx hb dX13_close_232 hl (k := 0) rfl (nI_1 v6w91) (by decide) rfl (fun ls hl => ?_)
                                refine lv_goto (tgt := 164) hx hb dX13_close_235 (by decide) ?_
                                exact ih_89 (v6w91 + 1) (v249 + 1) (upd gpw91 ((nI v249) : Int32).toNatClampNeg (nI v6w91)) (upd (upd gqw91 ((nI v249) : Int32).toNatClampNeg 0) ((nI ((v249 + 1) - 1)) : Int32).toNatClampNeg (nI (c_286 + 1))) M_291 H_290 _ _ (by omega) (by omega) (by have h := SD.new hSD (by omega) (show (nI v249).toNatClampNeg = gnw91 from (nI_cl (by omega)).trans (by omega)) (show (nI ((v249 + 1) - 1)).toNatClampNeg = gnw91 from (nI_cl (by omega)).trans (by omega)) hcc; rw [← hgn] at h; exact h) hW hF hG (by have h := hV; simp only [va_up_up] at h; rw [va_up_4] at h; exact h) hP hD hS (lv_sub hl [0, 1, 2, 3, 4, 5, 6] rfl)
                              · have hz := rfl (a := 0)
                                have n_297 : ¬ (v6w91 = 0) := fun q => c_254 ((iEQ (a := v6w91) (b := 0) (by omega) (by omega)).mpr q)
                                refine lv_aload_n hx hb dX13_close_177 rfl (lv_at hl 4 rfl) ?_
                                refine lv_iload hx hb dX13_close_178 (lv_at hl 0 rfl) ?_
                                have hPc : va_P D vwCl ([] ++ va_pl L M_94) H_95 := hP.part (cx := []) [] rfl
                                have hDc : va_D A ([] ++ va_pl L M_94) := hD.part (cx := []) [] (by decide) rfl
                                have hFc : ∀ q, va_A ([] ++ va_pl L M_94) H_95.size q → A q := pg_free hDc hS hA
                                refine va_calli (va_runS (As := [.ref b13, .int (nI v6w91)]) (rest := []) ⟨hx, hb, hml, hown, hg⟩ (r_X13_isParted l D cy K L M_94 H_95.size b13 (nI v6w91)  hW hb_15) (va_cwS 2 hg (gS wd_879 wd_880 wd_717 wd_881) rfl rfl rfl (by decide +kernel) ⟨(Nat.le_trans (Nat.le_of_ble_eq_true rfl) hRf), (Nat.le_trans (Nat.le_of_ble_eq_true rfl) hRl)⟩) ⟨PG.blind, fun U hU hW => ⟨rfl, PG.at hPc hK hDc hN hU hW⟩⟩ rfl rfl hl.1 rfl (lv_room (Nat.le_of_ble_eq_true rfl)) dX13_close_180 ⟨(Nat.le_trans (Nat.le_of_ble_eq_true rfl) hRc), (Nat.le_trans (Nat.le_of_ble_eq_true rfl) hRs)⟩) hS (fun q _ h => hFc q h) hFc (fun r_299 M_300 t H_298 locs ht hvm hw hB hz1 hk1 hS => ?_)
                                have hp_301 := hw
                                obtain ⟨hP1, hD1⟩ := hB
                                rw [ht] at hP1
                                obtain ⟨hP, hD⟩ := va_joinP (X := [(za, (b13_0 0 z1 (nI z2) (nI z3) z4 z5 z6 z7 z8 z9 (nI z10) z11 z12 z13 z14 z15 (nI z16) z17 z18 z19))]) (cx := []) (wr := [(za, (b13_0 0 z1 (nI z2) (nI z3) z4 z5 z6 z7 z8 z9 (nI z10) z11 z12 z13 z14 z15 (nI z16) z17 z18 z19))]) (rx := []) (pl := va_pl L M_94) (pl1 := va_pl L M_94) hP hD [] [0] rfl rfl (by decide) (by decide) hk1 hFc hP1 hD1
                                have hP : va_P D vwCl ([(za, (b13_0 0 z1 (nI z2) (nI z3) z4 z5 z6 z7 z8 z9 (nI z10) z11 z12 z13 z14 z15 (nI z16) z17 z18 z19))] ++ va_pl L M_94) H_298 := hP
                                have hD : va_D A ([(za, (b13_0 0 z1 (nI z2) (nI z3) z4 z5 z6 z7 z8 z9 (nI z10) z11 z12 z13 z14 z15 (nI z16) z17 z18 z19))] ++ va_pl L M_94) := hD
                                rcases hp_301 with rfl | rfl
                                · have hz := rfl (a := 0)
                                  refine lv_if_eq (tgt := 217) hx hb dX13_close_183 (by decide) (fun c_302 => absurd c_302 (by decide)) (fun _ => ?_)
                                  refine lv_aload_n hx hb dX13_close_186 rfl (lv_at hl 4 rfl) ?_
                                  refine pg_getN (D := D) (ci := 12) (v := .ref v250) (C := RX12) (T := TX12) (N := 51) hx hb hg inG12 hown hK hP hb_15.1 hM248 rfl 44 (by decide) (hN.use (Cond.fieldLinkNest RX13 265 RX12 "stretchDay" "[I" RX13) 53 rfl rfl) (fun _ h9 => h9) hv250 dX13_close_187 ?_
                                  refine lv_aload_n hx hb dX13_close_190 rfl (lv_at hl 4 rfl) ?_
                                  refine pg_getN (D := D) (ci := 12) (v := .int (nI v249)) (C := RX12) (T := TX12) (N := 51) hx hb hg inG12 hown hK hP hb_15.1 hM248 rfl 17 (by decide) (hN.use (Cond.fieldLinkNest RX13 256 RX12 "stretches" "I" RX13) 26 rfl rfl) (fun _ h9 => h9) hv249 dX13_close_191 ?_
                                  refine lv_iload hx hb dX13_close_194 (lv_at hl 0 rfl) ?_
                                  refine pg_iast hx hb hK hP hD hS hc250.1 0 hM251 rfl (inbN v249 120 (by omega) (by omega)) dX13_close_196 (fun H_303 locs hP hD hS => ?_)
                                  obtain ⟨M_304, eM_304⟩ : ∃ M1 : Hp, M1 = va_up M_94 v250 (.inl (cy 14, 120, .inl (upd f251 ((nI v249) : Int32).toNatClampNeg (nI v6w91)))) := ⟨_, rfl⟩
                                  have hy44 : gpw91 = f251 := (congrFun hV.2.2.1 44).symm.trans (ax_of hM248 (by decide) hv250 hM251)
                                  have hV : VW K L M M_304 b13 (va_up (fx M b13) 17 ((gnw91 : Nat) : Int)) (va_up (va_up (va_up (ax M b13) 44 gpw91) 45 gqw91) 44 (upd gpw91 ((nI v249) : Int32).toNatClampNeg (nI v6w91))) := by rw [eM_304]; exact hV.ast (j := 44) hW hb_15 hM248 (by decide) hv250 hc250 hM251
                                  have hP : va_P D vwCl ([(za, (b13_0 0 z1 (nI z2) (nI z3) z4 z5 z6 z7 z8 z9 (nI z10) z11 z12 z13 z14 z15 (nI z16) z17 z18 z19))] ++ va_pl L M_304) H_303 := by rw [eM_304]; exact hP
                                  have hD : va_D A ([(za, (b13_0 0 z1 (nI z2) (nI z3) z4 z5 z6 z7 z8 z9 (nI z10) z11 z12 z13 z14 z15 (nI z16) z17 z18 z19))] ++ va_pl L M_304) := by rw [eM_304]; exact hD
                                  have hW : WOM cy K L M_304 := by rw [eM_304]; exact hW.up_45 hc250 ⟨_, rfl, (updP (P := fun z => ∃ c : Nat, c < 1000 ∧ z = nI c) hf251 ⟨v6w91, by omega, rfl⟩)⟩
                                  have hF : fr K L [12, 14, 15, 32, 42, 45, 46, 79, 80, 81, 83] M M_304 := by rw [eM_304]; exact hF.up hc250 (by decide)
                                  have hG : fG K L [1, 7, 8, 13, 14, 15, 16, 17, 18] M M_304 := by rw [eM_304]; exact hG.arr hc250 (by decide)
                                  have hM_305 : M_304 v250 = .inl (cy 14, 120, .inl (upd f251 ((nI v249) : Int32).toNatClampNeg (nI v6w91))) := by rw [eM_304]; exact va_up_self _ _ _
                                  have hM_306 : M_304 b13 = .inr (12, fs248) := by rw [eM_304, va_up_ne _ _ (hb_15.neT hc250 (by decide))]; exact hM248
                                  have hM_307 : M_304 v252 = .inl (cy 14, 120, .inl (f253)) := by rw [eM_304, va_up_ne _ _ (hc252.neT hc250 (by decide))]; exact hM253
                                  have hf_309 : ∀ j, j < 120 → ∃ c : Nat, c < 1000 ∧ (upd f251 ((nI v249) : Int32).toNatClampNeg (nI v6w91)) j = nI c := (updP (P := fun z => ∃ c : Nat, c < 1000 ∧ z = nI c) hf251 ⟨v6w91, by omega, rfl⟩)
                                  obtain ⟨f_308, ef_308⟩ : ∃ f : Nat → Int32, f = upd f251 ((nI v249) : Int32).toNatClampNeg (nI v6w91) := ⟨_, rfl⟩
                                  rw [← ef_308] at hM_305 hf_309
                                  refine lv_aload_n hx hb dX13_close_197 rfl (lv_at hl 4 rfl) ?_
                                  refine pg_getN (D := D) (ci := 12) (v := .ref v252) (C := RX12) (T := TX12) (N := 51) hx hb hg inG12 hown hK hP hb_15.1 hM_306 rfl 45 (by decide) (hN.use (Cond.fieldLinkNest RX13 268 RX12 "stretchDays" "[I" RX13) 54 rfl rfl) (fun _ h9 => h9) hv252 dX13_close_198 ?_
                                  refine lv_aload_n hx hb dX13_close_201 rfl (lv_at hl 4 rfl) ?_
                                  refine pg_getN (D := D) (ci := 12) (v := .int (nI v249)) (C := RX12) (T := TX12) (N := 51) hx hb hg inG12 hown hK hP hb_15.1 hM_306 rfl 17 (by decide) (hN.use (Cond.fieldLinkNest RX13 256 RX12 "stretches" "I" RX13) 26 rfl rfl) (fun _ h9 => h9) hv249 dX13_close_202 ?_
                                  refine lv_iconst (v := 0) hx hb dX13_close_205 (by decide) ?_
                                  refine pg_iast hx hb hK hP hD hS hc252.1 0 hM_307 rfl (inbN v249 120 (by omega) (by omega)) dX13_close_206 (fun H_310 locs hP hD hS => ?_)
                                  obtain ⟨M_311, eM_311⟩ : ∃ M1 : Hp, M1 = va_up M_304 v252 (.inl (cy 14, 120, .inl (upd f253 ((nI v249) : Int32).toNatClampNeg 0))) := ⟨_, rfl⟩
                                  have hy45 : gqw91 = f253 := (congrFun hV.2.2.1 45).symm.trans (ax_of hM_306 (by decide) hv252 hM_307)
                                  have hV : VW K L M M_311 b13 (va_up (fx M b13) 17 ((gnw91 : Nat) : Int)) (va_up (va_up (va_up (va_up (ax M b13) 44 gpw91) 45 gqw91) 44 (upd gpw91 ((nI v249) : Int32).toNatClampNeg (nI v6w91))) 45 (upd gqw91 ((nI v249) : Int32).toNatClampNeg 0)) := by rw [eM_311]; exact hV.ast (j := 45) hW hb_15 hM_306 (by decide) hv252 hc252 hM_307
                                  have hP : va_P D vwCl ([(za, (b13_0 0 z1 (nI z2) (nI z3) z4 z5 z6 z7 z8 z9 (nI z10) z11 z12 z13 z14 z15 (nI z16) z17 z18 z19))] ++ va_pl L M_311) H_310 := by rw [eM_311]; exact hP
                                  have hD : va_D A ([(za, (b13_0 0 z1 (nI z2) (nI z3) z4 z5 z6 z7 z8 z9 (nI z10) z11 z12 z13 z14 z15 (nI z16) z17 z18 z19))] ++ va_pl L M_311) := by rw [eM_311]; exact hD
                                  have hW : WOM cy K L M_311 := by rw [eM_311]; exact hW.up_46 hc252 ⟨_, rfl, (updP (P := fun z => ∃ c : Nat, c < 1001 ∧ z = nI c) hf253 ⟨0, by omega, rfl⟩)⟩
                                  have hF : fr K L [12, 14, 15, 32, 42, 45, 46, 79, 80, 81, 83] M M_311 := by rw [eM_311]; exact hF.up hc252 (by decide)
                                  have hG : fG K L [1, 7, 8, 13, 14, 15, 16, 17, 18] M M_311 := by rw [eM_311]; exact hG.arr hc252 (by decide)
                                  have hM_312 : M_311 v252 = .inl (cy 14, 120, .inl (upd f253 ((nI v249) : Int32).toNatClampNeg 0)) := by rw [eM_311]; exact va_up_self _ _ _
                                  have hM_313 : M_311 v250 = .inl (cy 14, 120, .inl (f_308)) := by rw [eM_311, va_up_ne _ _ (hc250.neT hc252 (by decide))]; exact hM_305
                                  have hM_314 : M_311 b13 = .inr (12, fs248) := by rw [eM_311, va_up_ne _ _ (hb_15.neT hc252 (by decide))]; exact hM_306
                                  have hf_316 : ∀ j, j < 120 → ∃ c : Nat, c < 1001 ∧ (upd f253 ((nI v249) : Int32).toNatClampNeg 0) j = nI c := (updP (P := fun z => ∃ c : Nat, c < 1001 ∧ z = nI c) hf253 ⟨0, by omega, rfl⟩)
                                  obtain ⟨f_315, ef_315⟩ : ∃ f : Nat → Int32, f = upd f253 ((nI v249) : Int32).toNatClampNeg 0 := ⟨_, rfl⟩
                                  rw [← ef_315] at hM_312 hf_316
                                  refine lv_aload_n hx hb dX13_close_207 rfl (lv_at hl 4 rfl) ?_
                                  refine lv_dup hx hb dX13_close_208 rfl ?_
                                  refine pg_getN (D := D) (ci := 12) (v := .int (nI v249)) (C := RX12) (T := TX12) (N := 51) hx hb hg inG12 hown hK hP hb_15.1 hM_314 rfl 17 (by decide) (hN.use (Cond.fieldLinkNest RX13 256 RX12 "stretches" "I" RX13) 26 rfl rfl) (fun _ h9 => h9) hv249 dX13_close_209 ?_
                                  refine lv_iconst (v := 1) hx hb dX13_close_212 (by decide) ?_
                                  refine lv_iadd hx hb dX13_close_213 ?_
                                  refine lv_topi (fun f_317 ef_317 => ?_)
                                  obtain rfl : f_317 = (nI (v249 + 1)) := ef_317.trans (nI_add v249 1)
                                  refine pg_putN (D := D) (ci := 12) (v := .int (nI (v249 + 1))) (ty := .int) (C := RX12) (T := TX12) (N := 51) hx hb hg inG12 tyX12 tyX12_ok nmX12 hown hK hP hD hS hb_15.1 hM_314 rfl 17 (by decide) (hN.use (Cond.fieldLinkNest RX13 256 RX12 "stretches" "I" RX13) 26 rfl rfl) (fun _ h9 => h9) rfl (by decide +kernel) rfl rfl (by rw [hn248]; decide) dX13_close_214 (fun H_318 locs hP hD hS => ?_)
                                  have hs_321 : (fs248.set 17 (.int (nI (v249 + 1))))[17]? = some (.int (nI (v249 + 1))) := List.getElem?_set_self (by rw [hn248]; decide)
                                  have hk_320 := fld12_set (k := 17) (w := .int (nI (v249 + 1))) hl248 (show fld12 K L 17 (fs248.set 17 (.int (nI (v249 + 1)))) from ⟨(v249 + 1), hs_321, by omega⟩)
                                  have hn_322 : (fs248.set 17 (.int (nI (v249 + 1)))).length = 51 := by rw [List.length_set]; exact hn248
                                  have hv_323 : (fs248.set 17 (.int (nI (v249 + 1))))[44]? = some (.ref v250) := by rw [List.getElem?_set_ne (by decide)]; exact hv250
                                  have hv_324 : (fs248.set 17 (.int (nI (v249 + 1))))[45]? = some (.ref v252) := by rw [List.getElem?_set_ne (by decide)]; exact hv252
                                  have hb_325 : (v249 + 1) ≤ 120 := by omega
                                  obtain ⟨M_326, eM_326⟩ : ∃ M1 : Hp, M1 = va_up M_311 b13 (.inr (12, fs248.set 17 (.int (nI (v249 + 1))))) := ⟨_, rfl⟩
                                  have hx17 : ((gnw91 : Nat) : Int) = ((v249 : Nat) : Int) := (congrFun hV.2.1 17).symm.trans ((fx_of hM_314 rfl hv249).trans (nI_toInt (by omega)))
                                  have hV : VW K L M M_326 b13 (va_up (va_up (fx M b13) 17 ((gnw91 : Nat) : Int)) 17 (((v249 + 1) : Nat) : Int)) (va_up (va_up (va_up (va_up (ax M b13) 44 gpw91) 45 gqw91) 44 (upd gpw91 ((nI v249) : Int32).toNatClampNeg (nI v6w91))) 45 (upd gqw91 ((nI v249) : Int32).toNatClampNeg 0)) := by rw [eM_326]; exact hV.put hW hb_15 hM_314 hn248 rfl (by decide) rfl (nI_toInt (by omega))
                                  have hP : va_P D vwCl ([(za, (b13_0 0 z1 (nI z2) (nI z3) z4 z5 z6 z7 z8 z9 (nI z10) z11 z12 z13 z14 z15 (nI z16) z17 z18 z19))] ++ va_pl L M_326) H_318 := by rw [eM_326]; exact hP
                                  have hD : va_D A ([(za, (b13_0 0 z1 (nI z2) (nI z3) z4 z5 z6 z7 z8 z9 (nI z10) z11 z12 z13 z14 z15 (nI z16) z17 z18 z19))] ++ va_pl L M_326) := by rw [eM_326]; exact hD
                                  have hW : WOM cy K L M_326 := by rw [eM_326]; exact hW.up_12 hb_15 ⟨_, rfl, hn_322, hk_320⟩
                                  have hF : fr K L [12, 14, 15, 32, 42, 45, 46, 79, 80, 81, 83] M M_326 := by rw [eM_326]; exact hF.up hb_15 (by decide)
                                  have hG : fG K L [1, 7, 8, 13, 14, 15, 16, 17, 18] M M_326 := by rw [eM_326]; exact hG.up hM_314 (by decide)
                                  have hM_327 : M_326 b13 = .inr (12, fs248.set 17 (.int (nI (v249 + 1)))) := by rw [eM_326]; exact va_up_self _ _ _
                                  have hM_328 : M_326 v252 = .inl (cy 14, 120, .inl (f_315)) := by rw [eM_326, va_up_ne _ _ (hc252.neT hb_15 (by decide))]; exact hM_312
                                  have hM_329 : M_326 v250 = .inl (cy 14, 120, .inl (f_308)) := by rw [eM_326, va_up_ne _ _ (hc250.neT hb_15 (by decide))]; exact hM_313
                                  refine lv_aload_n hx hb dX13_close_217 rfl (lv_at hl 4 rfl) ?_
                                  refine pg_getN (D := D) (ci := 12) (v := .ref v252) (C := RX12) (T := TX12) (N := 51) hx hb hg inG12 hown hK hP hb_15.1 hM_327 rfl 45 (by decide) (hN.use (Cond.fieldLinkNest RX13 268 RX12 "stretchDays" "[I" RX13) 54 rfl rfl) (fun _ h9 => h9) hv_324 dX13_close_218 ?_
                                  refine lv_aload_n hx hb dX13_close_221 rfl (lv_at hl 4 rfl) ?_
                                  refine pg_getN (D := D) (ci := 12) (v := .int (nI (v249 + 1))) (C := RX12) (T := TX12) (N := 51) hx hb hg inG12 hown hK hP hb_15.1 hM_327 rfl 17 (by decide) (hN.use (Cond.fieldLinkNest RX13 256 RX12 "stretches" "I" RX13) 26 rfl rfl) (fun _ h9 => h9) hs_321 dX13_close_222 ?_
                                  refine lv_iconst (v := 1) hx hb dX13_close_225 (by decide) ?_
                                  refine lv_isub hx hb dX13_close_226 ?_
                                  refine lv_topi (fun f_330 ef_330 => ?_)
                                  obtain rfl : f_330 = (nI ((v249 + 1) - 1)) := ef_330.trans (nI_prd (by omega))
                                  refine lv_dup2_11 hx hb dX13_close_227 rfl rfl ?_
                                  have hi_331 : vp_in (nI ((v249 + 1) - 1)) 120 := (inbN ((v249 + 1) - 1) 120 (by omega) (by omega))
                                  refine pg_iald hx hb hK hP hc252.1 0 hM_328 rfl hi_331 dX13_close_228 ?_
                                  have hp_332 := hf_316 _ (vp_lt hi_331)
                                  obtain ⟨c_333, hc_334, ec_335⟩ := hp_332
                                  rw [ec_335]
                                  have hy45 : (upd gqw91 ((nI v249) : Int32).toNatClampNeg 0) = f_315 := (congrFun hV.2.2.1 45).symm.trans (ax_of hM_327 (by decide) hv_324 hM_328)
                                  have hec : (upd gqw91 ((nI v249) : Int32).toNatClampNeg 0) ((nI ((v249 + 1) - 1)) : Int32).toNatClampNeg = nI c_333 := by rw [hy45]; exact ec_335
                                  have hcc : c_333 = 0 := updz (n := v249) (nI_cl (by omega)) ((nI_cl (by omega)).trans (by omega)) hec (by omega)
                                  refine lv_iconst (v := 1) hx hb dX13_close_229 (by decide) ?_
                                  refine lv_iadd hx hb dX13_close_230 ?_
                                  refine lv_topi (fun f_336 ef_336 => ?_)
                                  obtain rfl : f_336 = (nI (c_333 + 1)) := ef_336.trans (nI_add c_333 1)
                                  refine pg_iast hx hb hK hP hD hS hc252.1 0 hM_328 rfl (inbN ((v249 + 1) - 1) 120 (by omega) (by omega)) dX13_close_231 (fun H_337 locs hP hD hS => ?_)
                                  obtain ⟨M_338, eM_338⟩ : ∃ M1 : Hp, M1 = va_up M_326 v252 (.inl (cy 14, 120, .inl (upd f_315 ((nI ((v249 + 1) - 1)) : Int32).toNatClampNeg (nI (c_333 + 1))))) := ⟨_, rfl⟩
                                  have hy45 : (upd gqw91 ((nI v249) : Int32).toNatClampNeg 0) = f_315 := (congrFun hV.2.2.1 45).symm.trans (ax_of hM_327 (by decide) hv_324 hM_328)
                                  have hV : VW K L M M_338 b13 (va_up (va_up (fx M b13) 17 ((gnw91 : Nat) : Int)) 17 (((v249 + 1) : Nat) : Int)) (va_up (va_up (va_up (va_up (va_up (ax M b13) 44 gpw91) 45 gqw91) 44 (upd gpw91 ((nI v249) : Int32).toNatClampNeg (nI v6w91))) 45 (upd gqw91 ((nI v249) : Int32).toNatClampNeg 0)) 45 (upd (upd gqw91 ((nI v249) : Int32).toNatClampNeg 0) ((nI ((v249 + 1) - 1)) : Int32).toNatClampNeg (nI (c_333 + 1)))) := by rw [eM_338]; exact hV.ast (j := 45) hW hb_15 hM_327 (by decide) hv_324 hc252 hM_328
                                  have hP : va_P D vwCl ([(za, (b13_0 0 z1 (nI z2) (nI z3) z4 z5 z6 z7 z8 z9 (nI z10) z11 z12 z13 z14 z15 (nI z16) z17 z18 z19))] ++ va_pl L M_338) H_337 := by rw [eM_338]; exact hP
                                  have hD : va_D A ([(za, (b13_0 0 z1 (nI z2) (nI z3) z4 z5 z6 z7 z8 z9 (nI z10) z11 z12 z13 z14 z15 (nI z16) z17 z18 z19))] ++ va_pl L M_338) := by rw [eM_338]; exact hD
                                  have hW : WOM cy K L M_338 := by rw [eM_338]; exact hW.up_46 hc252 ⟨_, rfl, (updP (P := fun z => ∃ c : Nat, c < 1001 ∧ z = nI c) hf_316 ⟨(c_333 + 1), by omega, rfl⟩)⟩
                                  have hF : fr K L [12, 14, 15, 32, 42, 45, 46, 79, 80, 81, 83] M M_338 := by rw [eM_338]; exact hF.up hc252 (by decide)
                                  have hG : fG K L [1, 7, 8, 13, 14, 15, 16, 17, 18] M M_338 := by rw [eM_338]; exact hG.arr hc252 (by decide)
                                  have hM_339 : M_338 v252 = .inl (cy 14, 120, .inl (upd f_315 ((nI ((v249 + 1) - 1)) : Int32).toNatClampNeg (nI (c_333 + 1)))) := by rw [eM_338]; exact va_up_self _ _ _
                                  have hM_340 : M_338 b13 = .inr (12, fs248.set 17 (.int (nI (v249 + 1)))) := by rw [eM_338, va_up_ne _ _ (hb_15.neT hc252 (by decide))]; exact hM_327
                                  have hM_341 : M_338 v250 = .inl (cy 14, 120, .inl (f_308)) := by rw [eM_338, va_up_ne _ _ (hc250.neT hc252 (by decide))]; exact hM_329
                                  have hf_343 : ∀ j, j < 120 → ∃ c : Nat, c < 1001 ∧ (upd f_315 ((nI ((v249 + 1) - 1)) : Int32).toNatClampNeg (nI (c_333 + 1))) j = nI c := (updP (P := fun z => ∃ c : Nat, c < 1001 ∧ z = nI c) hf_316 ⟨(c_333 + 1), by omega, rfl⟩)
                                  obtain ⟨f_342, ef_342⟩ : ∃ f : Nat → Int32, f = upd f_315 ((nI ((v249 + 1) - 1)) : Int32).toNatClampNeg (nI (c_333 + 1)) := ⟨_, rfl⟩
                                  rw [← ef_342] at hM_339 hf_343
                                  refine lv_iinc (v := (nI (v6w91 + 1))) (lv' := [(6, .int (nI (v6w91 + 1))), (5, .int (-1)), (4, .int (nI c_33)), (3, .int 0), (2, .ref b13), (0, .ref za), (1, .int k1)]) hx hb dX13_close_232 hl (k := 0) rfl (nI_1 v6w91) (by decide) rfl (fun ls hl => ?_)
                                  refine lv_goto (tgt := 164) hx hb dX13_close_235 (by decide) ?_
                                  exact ih_89 (v6w91 + 1) (v249 + 1) (upd gpw91 ((nI v249) : Int32).toNatClampNeg (nI v6w91)) (upd (upd gqw91 ((nI v249) : Int32).toNatClampNeg 0) ((nI ((v249 + 1) - 1)) : Int32).toNatClampNeg (nI (c_333 + 1))) M_338 H_337 _ _ (by omega) (by omega) (by have h := SD.new hSD (by omega) (show (nI v249).toNatClampNeg = gnw91 from (nI_cl (by omega)).trans (by omega)) (show (nI ((v249 + 1) - 1)).toNatClampNeg = gnw91 from (nI_cl (by omega)).trans (by omega)) hcc; rw [← hgn] at h; exact h) hW hF hG (by have h := hV; simp only [va_up_up] at h; rw [va_up_4] at h; exact h) hP hD hS (lv_sub hl [0, 1, 2, 3, 4, 5, 6] rfl)
                                · have hz := rfl (a := 0)
                                  refine lv_if_eq (tgt := 217) hx hb dX13_close_183 (by decide) (fun _ => ?_) (fun c_344 => absurd c_344 (by decide))
                                  refine lv_aload_n hx hb dX13_close_217 rfl (lv_at hl 4 rfl) ?_
                                  refine pg_getN (D := D) (ci := 12) (v := .ref v252) (C := RX12) (T := TX12) (N := 51) hx hb hg inG12 hown hK hP hb_15.1 hM248 rfl 45 (by decide) (hN.use (Cond.fieldLinkNest RX13 268 RX12 "stretchDays" "[I" RX13) 54 rfl rfl) (fun _ h9 => h9) hv252 dX13_close_218 ?_
                                  refine lv_aload_n hx hb dX13_close_221 rfl (lv_at hl 4 rfl) ?_
                                  refine pg_getN (D := D) (ci := 12) (v := .int (nI v249)) (C := RX12) (T := TX12) (N := 51) hx hb hg inG12 hown hK hP hb_15.1 hM248 rfl 17 (by decide) (hN.use (Cond.fieldLinkNest RX13 256 RX12 "stretches" "I" RX13) 26 rfl rfl) (fun _ h9 => h9) hv249 dX13_close_222 ?_
                                  refine lv_iconst (v := 1) hx hb dX13_close_225 (by decide) ?_
                                  refine lv_isub hx hb dX13_close_226 ?_
                                  refine lv_topi (fun f_345 ef_345 => ?_)
                                  obtain rfl : f_345 = (nI (v249 - 1)) := ef_345.trans (nI_prd (by omega))
                                  refine lv_dup2_11 hx hb dX13_close_227 rfl rfl ?_
                                  have hi_346 : vp_in (nI (v249 - 1)) 120 := (inbN (v249 - 1) 120 (by omega) (by omega))
                                  refine pg_iald hx hb hK hP hc252.1 0 hM253 rfl hi_346 dX13_close_228 ?_
                                  have hp_347 := hf253 _ (vp_lt hi_346)
                                  obtain ⟨c_348, hc_349, ec_350⟩ := hp_347
                                  rw [ec_350]
                                  have hy45 : gqw91 = f253 := (congrFun hV.2.2.1 45).symm.trans (ax_of hM248 (by decide) hv252 hM253)
                                  have hec : gqw91 ((nI (v249 - 1)) : Int32).toNatClampNeg = nI c_348 := by rw [hy45]; exact ec_350
                                  have hcc : c_348 ≤ v6w91 := SD.c hSD (by omega) ((nI_cl (by omega)).trans (by omega)) hec (by omega)
                                  refine lv_iconst (v := 1) hx hb dX13_close_229 (by decide) ?_
                                  refine lv_iadd hx hb dX13_close_230 ?_
                                  refine lv_topi (fun f_351 ef_351 => ?_)
                                  obtain rfl : f_351 = (nI (c_348 + 1)) := ef_351.trans (nI_add c_348 1)
                                  refine pg_iast hx hb hK hP hD hS hc252.1 0 hM253 rfl (inbN (v249 - 1) 120 (by omega) (by omega)) dX13_close_231 (fun H_352 locs hP hD hS => ?_)
                                  obtain ⟨M_353, eM_353⟩ : ∃ M1 : Hp, M1 = va_up M_94 v252 (.inl (cy 14, 120, .inl (upd f253 ((nI (v249 - 1)) : Int32).toNatClampNeg (nI (c_348 + 1))))) := ⟨_, rfl⟩
                                  have hy45 : gqw91 = f253 := (congrFun hV.2.2.1 45).symm.trans (ax_of hM248 (by decide) hv252 hM253)
                                  have hV : VW K L M M_353 b13 (va_up (fx M b13) 17 ((gnw91 : Nat) : Int)) (va_up (va_up (va_up (ax M b13) 44 gpw91) 45 gqw91) 45 (upd gqw91 ((nI (v249 - 1)) : Int32).toNatClampNeg (nI (c_348 + 1)))) := by rw [eM_353]; exact hV.ast (j := 45) hW hb_15 hM248 (by decide) hv252 hc252 hM253
                                  have hP : va_P D vwCl ([(za, (b13_0 0 z1 (nI z2) (nI z3) z4 z5 z6 z7 z8 z9 (nI z10) z11 z12 z13 z14 z15 (nI z16) z17 z18 z19))] ++ va_pl L M_353) H_352 := by rw [eM_353]; exact hP
                                  have hD : va_D A ([(za, (b13_0 0 z1 (nI z2) (nI z3) z4 z5 z6 z7 z8 z9 (nI z10) z11 z12 z13 z14 z15 (nI z16) z17 z18 z19))] ++ va_pl L M_353) := by rw [eM_353]; exact hD
                                  have hW : WOM cy K L M_353 := by rw [eM_353]; exact hW.up_46 hc252 ⟨_, rfl, (updP (P := fun z => ∃ c : Nat, c < 1001 ∧ z = nI c) hf253 ⟨(c_348 + 1), by omega, rfl⟩)⟩
                                  have hF : fr K L [12, 14, 15, 32, 42, 45, 46, 79, 80, 81, 83] M M_353 := by rw [eM_353]; exact hF.up hc252 (by decide)
                                  have hG : fG K L [1, 7, 8, 13, 14, 15, 16, 17, 18] M M_353 := by rw [eM_353]; exact hG.arr hc252 (by decide)
                                  have hM_354 : M_353 v252 = .inl (cy 14, 120, .inl (upd f253 ((nI (v249 - 1)) : Int32).toNatClampNeg (nI (c_348 + 1)))) := by rw [eM_353]; exact va_up_self _ _ _
                                  have hM_355 : M_353 b13 = .inr (12, fs248) := by rw [eM_353, va_up_ne _ _ (hb_15.neT hc252 (by decide))]; exact hM248
                                  have hM_356 : M_353 v250 = .inl (cy 14, 120, .inl (f251)) := by rw [eM_353, va_up_ne _ _ (hc250.neT hc252 (by decide))]; exact hM251
                                  have hf_358 : ∀ j, j < 120 → ∃ c : Nat, c < 1001 ∧ (upd f253 ((nI (v249 - 1)) : Int32).toNatClampNeg (nI (c_348 + 1))) j = nI c := (updP (P := fun z => ∃ c : Nat, c < 1001 ∧ z = nI c) hf253 ⟨(c_348 + 1), by omega, rfl⟩)
                                  obtain ⟨f_357, ef_357⟩ : ∃ f : Nat → Int32, f = upd f253 ((nI (v249 - 1)) : Int32).toNatClampNeg (nI (c_348 + 1)) := ⟨_, rfl⟩
                                  rw [← ef_357] at hM_354 hf_358
                                  refine lv_iinc (v := (nI (v6w91 + 1))) (lv' := [(6, .int (nI (v6w91 + 1))), (5, .int (-1)), (4, .int (nI c_33)), (3, .int 0), (2, .ref b13), (0, .ref za), (1, .int k1)]) hx hb dX13_close_232 hl (k := 0) rfl (nI_1 v6w91) (by decide) rfl (fun ls hl => ?_)
                                  refine lv_goto (tgt := 164) hx hb dX13_close_235 (by decide) ?_
                                  exact ih_89 (v6w91 + 1) gnw91 gpw91 (upd gqw91 ((nI (v249 - 1)) : Int32).toNatClampNeg (nI (c_348 + 1))) M_353 H_352 _ _ (by omega) (by omega) (SD.old hSD (by omega) ((nI_cl (by omega)).trans (by omega)) hec (by omega)) hW hF hG (by have h := hV; simp only [va_up_up] at h; exact h) hP hD hS (lv_sub hl [0, 1, 2, 3, 4, 5, 6] rfl)
                        exact key_88 (1001 - 0 + 1) 0 0 (ax M b13 44) (ax M b13 45) M_83 H_84 _ _ (by omega) (by omega) (SD.rf _ _ _) hW hF hG (by rw [va_up_id, va_up_id]; exact hV) hP hD hS (lv_sub hl [0, 1, 2, 3, 4, 5, 6] rfl)
                      · have hz := rfl (a := 0)
                        have n_359 : ¬ (24 ≤ v6w81) := fun q => c_86 ((iLE (a := 24) (b := v6w81) (by omega) (by omega)).mpr q)
                        refine lv_aload_n hx hb dX13_close_147 rfl (lv_at hl 4 rfl) ?_
                        obtain ⟨v360, hv360, hc360⟩ : ∃ v : Nat, (fs16.set 17 (.int 0))[33]? = some (.ref v : Value) ∧ isk K L v 15 24 := hk_66 33 (by decide)
                        refine pg_getN (D := D) (ci := 12) (v := .ref v360) (C := RX12) (T := TX12) (N := 51) hx hb hg inG12 hown hK hP hb_15.1 hM_85 rfl 33 (by decide) (hN.use (Cond.fieldLinkNest RX13 259 RX12 "dues" "[J" RX13) 42 rfl rfl) (fun _ h9 => h9) hv360 dX13_close_148 ?_
                        refine lv_iload hx hb dX13_close_151 (lv_at hl 0 rfl) ?_
                        refine lv_lconst (v := 0) hx hb dX13_close_153 (by decide) ?_
                        obtain ⟨f361, hM361⟩ := hW.open_15 hc360
                        refine pg_last hx hb hK hP hD hS hc360.1 1 hM361 rfl (inbN v6w81 24 (by omega) (by omega)) dX13_close_154 (fun H_362 locs hP hD hS => ?_)
                        obtain ⟨M_363, eM_363⟩ : ∃ M1 : Hp, M1 = va_up M_83 v360 (.inl (cy 15, 24, .inr (.inl (vp_updL f361 ((nI v6w81) : Int32).toNatClampNeg 0)))) := ⟨_, rfl⟩
                        have hV : VW K L M M_363 b13 (va_up (fx M b13) 17 (0 : Int)) (ax M b13) := by rw [eM_363]; exact hV.oth hW hb_15 hc360 (by decide)
                        have hP : va_P D vwCl ([(za, (b13_0 0 z1 (nI z2) (nI z3) z4 z5 z6 z7 z8 z9 (nI z10) z11 z12 z13 z14 z15 (nI z16) z17 z18 z19))] ++ va_pl L M_363) H_362 := by rw [eM_363]; exact hP
                        have hD : va_D A ([(za, (b13_0 0 z1 (nI z2) (nI z3) z4 z5 z6 z7 z8 z9 (nI z10) z11 z12 z13 z14 z15 (nI z16) z17 z18 z19))] ++ va_pl L M_363) := by rw [eM_363]; exact hD
                        have hW : WOM cy K L M_363 := by rw [eM_363]; exact hW.up_15 hc360 ⟨_, rfl⟩
                        have hF : fr K L [12, 14, 15, 32, 42, 45, 46, 79, 80, 81, 83] M M_363 := by rw [eM_363]; exact hF.up hc360 (by decide)
                        have hG : fG K L [1, 7, 8, 13, 14, 15, 16, 17, 18] M M_363 := by rw [eM_363]; exact hG.arr hc360 (by decide)
                        have hM_364 : M_363 v360 = .inl (cy 15, 24, .inr (.inl (vp_updL f361 ((nI v6w81) : Int32).toNatClampNeg 0))) := by rw [eM_363]; exact va_up_self _ _ _
                        have hM_365 : M_363 b13 = .inr (12, fs16.set 17 (.int 0)) := by rw [eM_363, va_up_ne _ _ (hb_15.neT hc360 (by decide))]; exact hM_85
                        obtain ⟨f_366, ef_366⟩ : ∃ f : Nat → Int64, f = vp_updL f361 ((nI v6w81) : Int32).toNatClampNeg 0 := ⟨_, rfl⟩
                        rw [← ef_366] at hM_364
                        refine lv_iinc (v := (nI (v6w81 + 1))) (lv' := [(6, .int (nI (v6w81 + 1))), (5, .int (-1)), (4, .int (nI c_33)), (3, .int 0), (2, .ref b13), (0, .ref za), (1, .int k1)]) hx hb dX13_close_155 hl (k := 0) rfl (nI_1 v6w81) (by decide) rfl (fun ls hl => ?_)
                        refine lv_goto (tgt := 140) hx hb dX13_close_158 (by decide) ?_
                        exact ih_79 (v6w81 + 1) M_363 H_362 _ _ (by omega) hM_365 (by omega) hW hF hG hV hP hD hS (lv_sub hl [0, 1, 2, 3, 4, 5, 6] rfl)
                  exact key_78 (24 - 0 + 1) 0 M_76 H_64 _ _ (by omega) hM_77 (by omega) hW hF hG hV hP hD hS (lv_sub hl [0, 1, 2, 3, 4, 5, 6] rfl)
                · have hz := rfl (a := 0)
                  refine lv_istore (lv' := [(5, .int (nI j_58)), (4, .int (nI c_33)), (3, .int 0), (2, .ref b13), (0, .ref za), (1, .int k1)]) hx hb dX13_close_115 hl (by decide) rfl (fun ls hl => ?_)
                  refine lv_iload hx hb dX13_close_117 (lv_at hl 0 rfl) ?_
                  refine lv_iconst (v := (-1)) hx hb dX13_close_119 (by decide) ?_
                  refine lv_icmp_eq (tgt := 132) hx hb dX13_close_120 (by decide) (fun c_367 => absurd c_367 (nI_ne_m1 (by omega))) (fun _ => ?_)
                  refine lv_aload_n hx hb dX13_close_123 rfl (lv_at hl 4 rfl) ?_
                  refine lv_bipush (v := 7) hx hb dX13_close_124 (by decide) ?_
                  refine lv_iload hx hb dX13_close_126 (lv_at hl 0 rfl) ?_
                  have hPc := hP.sub (ws' := [(za, (b13_0 0 z1 (nI z2) (nI z3) z4 z5 z6 z7 z8 z9 (nI z10) z11 z12 z13 z14 z15 (nI z16) z17 z18 z19))]) [0] rfl
                  have hDc := hD.sub (ws' := [(za, (b13_0 0 z1 (nI z2) (nI z3) z4 z5 z6 z7 z8 z9 (nI z10) z11 z12 z13 z14 z15 (nI z16) z17 z18 z19))]) [0] (by decide) rfl
                  have hKc := hK.sub (tys' := []) [] rfl
                  have hFc := va_free (wc := [(za, (b13_0 0 z1 (nI z2) (nI z3) z4 z5 z6 z7 z8 z9 (nI z10) z11 z12 z13 z14 z15 (nI z16) z17 z18 z19))]) hD hS hA [0] rfl
                  refine va_calli (va_runV (As := [.int 7, .int (nI j_58)]) (rest := []) ⟨hx, hb, hml, hown, hg⟩ (m_refusedAt l D H_53.size za 0 z1 (nI z2) (nI z3) z4 z5 z6 z7 z8 z9 (nI z10) z11 z12 z13 z14 z15 (nI z16) z17 z18 z19 7 (nI j_58)) (cwV 2 hg (gV wd_882 wd_883 wd_884 wd_717 wd_885) rfl rfl rfl (by decide +kernel) ⟨(Nat.le_trans (Nat.le_of_ble_eq_true rfl) hRf), (Nat.le_trans (Nat.le_of_ble_eq_true rfl) hRl)⟩) ⟨Pr.blind, va_recv hK hP (ci := 13) (q0 := 0) rfl rfl, fun U hU hW => ⟨rfl, Pr.at hPc hKc hDc hN hU hW⟩⟩ rfl rfl hl.1 rfl (lv_room (Nat.le_of_ble_eq_true rfl)) dX13_close_128 ⟨(Nat.le_trans (Nat.le_of_ble_eq_true rfl) hRc), (Nat.le_trans (Nat.le_of_ble_eq_true rfl) hRs)⟩) hS (fun q _ h => hFc q h) hFc (fun r_369 M_370 t H_368 locs ht hvm hw hB hz1 hk1 hS => ?_)
                  have hp_371 := hw
                  obtain ⟨hP1, hK1, hD1⟩ := hB
                  rw [ht] at hP1
                  obtain ⟨hP, hD⟩ := va_joinQ (X := [(za, (b13_0 0 z1 (nI z2) (nI z3) z4 z5 z6 z7 z8 z9 (nI z10) z11 z12 z13 z14 z15 (nI z16) z17 z18 z19))]) (cx := [(za, (b13_0 0 z1 (nI z2) (nI z3) z4 z5 z6 z7 z8 z9 (nI z10) z11 z12 z13 z14 z15 (nI z16) z17 z18 z19))]) (wr := []) (w1 := [(za, (b13_0 0 z1 (nI z2) (nI z3) 7 (nI j_58) z6 z7 z8 z9 (nI z10) z11 z12 z13 z14 z15 (nI z16) z17 z18 z19))]) (pl := va_pl L M_43) hP hD [0] [] rfl rfl (by decide) (by decide) hk1 hFc hP1 hD1
                  have hP : va_P D vwCl ([(za, (b13_0 0 z1 (nI z2) (nI z3) 7 (nI j_58) z6 z7 z8 z9 (nI z10) z11 z12 z13 z14 z15 (nI z16) z17 z18 z19))] ++ va_pl L M_43) H_368 := hP
                  have hD : va_D A ([(za, (b13_0 0 z1 (nI z2) (nI z3) 7 (nI j_58) z6 z7 z8 z9 (nI z10) z11 z12 z13 z14 z15 (nI z16) z17 z18 z19))] ++ va_pl L M_43) := hD
                  have hq := Eq.symm hp_371
                  subst hq
                  have hlg7 : ¬ ∀ b, b < z2 → ¬ LAG PK PT SX SY (k1 : Int32).toNatClampNeg (enD (SX (k1 : Int32).toNatClampNeg) (SY (k1 : Int32).toNatClampNeg)) b := fun w9 => w9 _ c_60 (by rw [hEd]; have h9 := c_61; rw [nI_toInt (by omega)] at h9; exact h9)
                  have hno : ¬ okCl z2 PK PT SX SY k1 := fun q9 => by unfold okCl okH at q9; first | omega | (obtain ⟨⟨_, _⟩, _, _, _, _⟩ := q9; first | omega | contradiction)
                  have hA9 : HA (ax M b13 2) (ax M b13 3) := hAT.1
                  have hB9 : HB (fx M b13 16) (fx M b13 14) (ax M b13 3) (ax M b13 43) := hAT.2.1
                  have hC9 : HC (fx M b13 10) (ax M b13 22) (ax M b13 23) := hAT.2.2.1
                  have hD9 : HD (fx M b13 0) (fx M b13 11) (fx M b13 15) (ax M b13 34) (ax M b13 41) := hAT.2.2.2.1
                  have hE9 : HE (fx M b13 0) (fx M b13 1) (fx M b13 12) (fx M b13 13) (ax M b13 37) := hAT.2.2.2.2
                  have hH9 : HI (fx M b13) (ax M b13) := ⟨hA9, hB9, hC9, hD9, hE9⟩
                  have hGI9 : GI K L z1 z2 M_43 := GI.fin hW0 i1 b2 hGI hact hV (hF.at i1 (by decide)) hH9
                  rw [hQ]
                  exact W.iret (v := (-1)) hx hb hr (fun t ht hW9 => ⟨⟨(-1), M_43, rfl, ⟨hW, hF, hG, ⟨hGI9, fun _ => 0, fun _ _ => 0, fun w9 => absurd w9 hno, (by unfold sxCl syCl; rw [if_neg hno, if_neg hno]; have hQ9 := ZSx.fin hW0 i1 b2 hZS hGI.1 hkn hb9 hV (hF.at i1 (by decide)) hZk.1 hZk.2; rw [va_upJ, va_upJ] at hQ9; exact hQ9)⟩, (by unfold anCl; rw [if_neg hno])⟩, ⟨7, (nI j_58), z16, (by omega), (WHR.lg ⟨⟨by omega, by omega⟩, by omega, by omega⟩ (fun d h1 h2 => hall d h1 (by rw [hEd] at h2; omega)) ⟨by omega, by rw [hEd]; have h9 := c_61; rw [nI_toInt (by omega)] at h9; exact h9, by rw [hEd]; have h9 := c_62; rw [nI_toInt (by omega)] at h9; exact h9⟩), by rw [ht]; exact hP, hD⟩⟩, hS.F ht⟩) hS.2.2 dX13_close_131
              · have hz := rfl (a := 0)
                have n_372 : ¬ (c_33 < v5w39) := fun q => c_46 ((iLT (a := c_33) (b := v5w39) (by omega) (by omega)).mpr q)
                refine lv_aload_n hx hb dX13_close_85 rfl (lv_at hl 3 rfl) ?_
                refine lv_iload hx hb dX13_close_86 (lv_at hl 0 rfl) ?_
                have hPc : va_P D vwCl ([] ++ va_pl L M_43) H_44 := hP.part (cx := []) [] rfl
                have hDc : va_D A ([] ++ va_pl L M_43) := hD.part (cx := []) [] (by decide) rfl
                have hFc : ∀ q, va_A ([] ++ va_pl L M_43) H_44.size q → A q := pg_free hDc hS hA
                refine va_calli (va_runV (As := [.int (nI v5w39)]) (rest := []) ⟨hx, hb, hml, hown, hg⟩ (f_isOpen l D cy K L M_43 H_44.size b13 v5w39  hW hb_15 (by omega)) (cwV 1 hg (gV wd_752 wd_753 wd_754 wd_737 wd_755) rfl rfl rfl (by decide +kernel) ⟨(Nat.le_trans (Nat.le_of_ble_eq_true rfl) hRf), (Nat.le_trans (Nat.le_of_ble_eq_true rfl) hRl)⟩) ⟨PG.blind, pg_recv hK hP hb_15.1 hM_45 rfl, fun U hU hW => ⟨rfl, PG.at hPc hK hDc hN hU hW⟩⟩ rfl rfl hl.1 rfl (lv_room (Nat.le_of_ble_eq_true rfl)) dX13_close_88 ⟨(Nat.le_trans (Nat.le_of_ble_eq_true rfl) hRc), (Nat.le_trans (Nat.le_of_ble_eq_true rfl) hRs)⟩) hS (fun q _ h => hFc q h) hFc (fun r_374 M_375 t H_373 locs ht hvm hw hB hz1 hk1 hS => ?_)
                have hp_376 := hw
                obtain ⟨hP1, hD1⟩ := hB
                rw [ht] at hP1
                obtain ⟨hP, hD⟩ := va_joinP (X := [(za, (b13_0 0 z1 (nI z2) (nI z3) z4 z5 z6 z7 z8 z9 (nI z10) z11 z12 z13 z14 z15 (nI z16) z17 z18 z19))]) (cx := []) (wr := [(za, (b13_0 0 z1 (nI z2) (nI z3) z4 z5 z6 z7 z8 z9 (nI z10) z11 z12 z13 z14 z15 (nI z16) z17 z18 z19))]) (rx := []) (pl := va_pl L M_43) (pl1 := va_pl L M_43) hP hD [] [0] rfl rfl (by decide) (by decide) hk1 hFc hP1 hD1
                have hP : va_P D vwCl ([(za, (b13_0 0 z1 (nI z2) (nI z3) z4 z5 z6 z7 z8 z9 (nI z10) z11 z12 z13 z14 z15 (nI z16) z17 z18 z19))] ++ va_pl L M_43) H_373 := hP
                have hD : va_D A ([(za, (b13_0 0 z1 (nI z2) (nI z3) z4 z5 z6 z7 z8 z9 (nI z10) z11 z12 z13 z14 z15 (nI z16) z17 z18 z19))] ++ va_pl L M_43) := hD
                rcases hp_376 with ⟨rfl, c_377⟩ | ⟨rfl, c_378⟩
                · have hz := rfl (a := 0)
                  have hop9 : opD (SY (k1 : Int32).toNatClampNeg) v5w39 := by have h9 := c_377; rw [hV.2.2.1, hZk.2] at h9; exact h9
                  refine lv_if_eq (tgt := 102) hx hb dX13_close_91 (by decide) (fun c_379 => absurd c_379 (by decide)) (fun _ => ?_)
                  refine lv_aload_n hx hb dX13_close_94 rfl (lv_at hl 4 rfl) ?_
                  refine lv_iconst (v := 5) hx hb dX13_close_95 (by decide) ?_
                  refine lv_iload hx hb dX13_close_96 (lv_at hl 0 rfl) ?_
                  have hPc := hP.sub (ws' := [(za, (b13_0 0 z1 (nI z2) (nI z3) z4 z5 z6 z7 z8 z9 (nI z10) z11 z12 z13 z14 z15 (nI z16) z17 z18 z19))]) [0] rfl
                  have hDc := hD.sub (ws' := [(za, (b13_0 0 z1 (nI z2) (nI z3) z4 z5 z6 z7 z8 z9 (nI z10) z11 z12 z13 z14 z15 (nI z16) z17 z18 z19))]) [0] (by decide) rfl
                  have hKc := hK.sub (tys' := []) [] rfl
                  have hFc := va_free (wc := [(za, (b13_0 0 z1 (nI z2) (nI z3) z4 z5 z6 z7 z8 z9 (nI z10) z11 z12 z13 z14 z15 (nI z16) z17 z18 z19))]) hD hS hA [0] rfl
                  refine va_calli (va_runV (As := [.int 5, .int (nI v5w39)]) (rest := []) ⟨hx, hb, hml, hown, hg⟩ (m_refusedAt l D H_373.size za 0 z1 (nI z2) (nI z3) z4 z5 z6 z7 z8 z9 (nI z10) z11 z12 z13 z14 z15 (nI z16) z17 z18 z19 5 (nI v5w39)) (cwV 2 hg (gV wd_882 wd_883 wd_884 wd_717 wd_885) rfl rfl rfl (by decide +kernel) ⟨(Nat.le_trans (Nat.le_of_ble_eq_true rfl) hRf), (Nat.le_trans (Nat.le_of_ble_eq_true rfl) hRl)⟩) ⟨Pr.blind, va_recv hK hP (ci := 13) (q0 := 0) rfl rfl, fun U hU hW => ⟨rfl, Pr.at hPc hKc hDc hN hU hW⟩⟩ rfl rfl hl.1 rfl (lv_room (Nat.le_of_ble_eq_true rfl)) dX13_close_98 ⟨(Nat.le_trans (Nat.le_of_ble_eq_true rfl) hRc), (Nat.le_trans (Nat.le_of_ble_eq_true rfl) hRs)⟩) hS (fun q _ h => hFc q h) hFc (fun r_381 M_382 t H_380 locs ht hvm hw hB hz1 hk1 hS => ?_)
                  have hp_383 := hw
                  obtain ⟨hP1, hK1, hD1⟩ := hB
                  rw [ht] at hP1
                  obtain ⟨hP, hD⟩ := va_joinQ (X := [(za, (b13_0 0 z1 (nI z2) (nI z3) z4 z5 z6 z7 z8 z9 (nI z10) z11 z12 z13 z14 z15 (nI z16) z17 z18 z19))]) (cx := [(za, (b13_0 0 z1 (nI z2) (nI z3) z4 z5 z6 z7 z8 z9 (nI z10) z11 z12 z13 z14 z15 (nI z16) z17 z18 z19))]) (wr := []) (w1 := [(za, (b13_0 0 z1 (nI z2) (nI z3) 5 (nI v5w39) z6 z7 z8 z9 (nI z10) z11 z12 z13 z14 z15 (nI z16) z17 z18 z19))]) (pl := va_pl L M_43) hP hD [0] [] rfl rfl (by decide) (by decide) hk1 hFc hP1 hD1
                  have hP : va_P D vwCl ([(za, (b13_0 0 z1 (nI z2) (nI z3) 5 (nI v5w39) z6 z7 z8 z9 (nI z10) z11 z12 z13 z14 z15 (nI z16) z17 z18 z19))] ++ va_pl L M_43) H_380 := hP
                  have hD : va_D A ([(za, (b13_0 0 z1 (nI z2) (nI z3) 5 (nI v5w39) z6 z7 z8 z9 (nI z10) z11 z12 z13 z14 z15 (nI z16) z17 z18 z19))] ++ va_pl L M_43) := hD
                  have hq := Eq.symm hp_383
                  subst hq
                  have hI_384 : (0 : Int) ≤ (k1 : Int32).toInt := inltI rfl rfl c_7
                  have hI_385 : (k1 : Int32).toInt < ((z2 : Nat) : Int) := inleI (nI_toInt (by omega)) rfl c_8
                  have hI_386 : ((v21 : Nat) : Int) ≠ ((v20 : Nat) : Int) := ineI (nI_toInt (by omega)) (nI_toInt (by omega)) c_24
                  have hI_387 : ((v19 : Nat) : Int) ≠ (0 : Int) := ineI (nI_toInt (by omega)) rfl c_26
                  have hI_388 : ((v5w39 : Nat) : Int) ≤ ((c_33 : Nat) : Int) := inltI (nI_toInt (by omega)) (nI_toInt (by omega)) c_46
                  have hop5 : ¬ (∀ d : Nat, SX (k1 : Int32).toNatClampNeg 1 < (d : Int) → (d : Int) ≤ enD (SX (k1 : Int32).toNatClampNeg) (SY (k1 : Int32).toNatClampNeg) → ¬ opD (SY (k1 : Int32).toNatClampNeg) d) := fun w9 => w9 v5w39 (by omega) (by rw [hEd]; omega) hop9
                  have hno : ¬ okCl z2 PK PT SX SY k1 := fun q9 => by unfold okCl okH at q9; first | omega | (obtain ⟨⟨_, _⟩, _, _, _, _⟩ := q9; first | omega | contradiction)
                  have hA9 : HA (ax M b13 2) (ax M b13 3) := hAT.1
                  have hB9 : HB (fx M b13 16) (fx M b13 14) (ax M b13 3) (ax M b13 43) := hAT.2.1
                  have hC9 : HC (fx M b13 10) (ax M b13 22) (ax M b13 23) := hAT.2.2.1
                  have hD9 : HD (fx M b13 0) (fx M b13 11) (fx M b13 15) (ax M b13 34) (ax M b13 41) := hAT.2.2.2.1
                  have hE9 : HE (fx M b13 0) (fx M b13 1) (fx M b13 12) (fx M b13 13) (ax M b13 37) := hAT.2.2.2.2
                  have hH9 : HI (fx M b13) (ax M b13) := ⟨hA9, hB9, hC9, hD9, hE9⟩
                  have hGI9 : GI K L z1 z2 M_43 := GI.fin hW0 i1 b2 hGI hact hV (hF.at i1 (by decide)) hH9
                  rw [hQ]
                  exact W.iret (v := (-1)) hx hb hr (fun t ht hW9 => ⟨⟨(-1), M_43, rfl, ⟨hW, hF, hG, ⟨hGI9, fun _ => 0, fun _ _ => 0, fun w9 => absurd w9 hno, (by unfold sxCl syCl; rw [if_neg hno, if_neg hno]; have hQ9 := ZSx.fin hW0 i1 b2 hZS hGI.1 hkn hb9 hV (hF.at i1 (by decide)) hZk.1 hZk.2; rw [va_upJ, va_upJ] at hQ9; exact hQ9)⟩, (by unfold anCl; rw [if_neg hno])⟩, ⟨5, (nI v5w39), z16, (by omega), (WHR.op ⟨⟨by omega, by omega⟩, by omega, by omega⟩ ⟨by omega, by rw [hEd]; omega, hop9, fun d h1 h2 => hx_41 d h1 h2⟩), by rw [ht]; exact hP, hD⟩⟩, hS.F ht⟩) hS.2.2 dX13_close_101
                · have hz := rfl (a := 0)
                  have hno9 : ¬ opD (SY (k1 : Int32).toNatClampNeg) v5w39 := by have h9 := c_378; rw [hV.2.2.1, hZk.2] at h9; exact h9
                  refine lv_if_eq (tgt := 102) hx hb dX13_close_91 (by decide) (fun _ => ?_) (fun c_389 => absurd c_389 (by decide))
                  refine lv_iinc (v := (nI (v5w39 + 1))) (lv' := [(5, .int (nI (v5w39 + 1))), (4, .int (nI c_33)), (3, .int 0), (2, .ref b13), (0, .ref za), (1, .int k1)]) hx hb dX13_close_102 hl (k := 0) rfl (nI_1 v5w39) (by decide) rfl (fun ls hl => ?_)
                  refine lv_goto (tgt := 78) hx hb dX13_close_105 (by decide) ?_
                  exact ih_37 (v5w39 + 1) M_43 H_373 _ _ (by omega) hM_45 (by omega) (fun d h1 h2 => by by_cases z9 : ¬ d = v5w39; exact hx_41 d h1 (by omega); rw [Classical.not_not.mp z9]; exact hno9) (by omega) hW hF hG hV hP hD hS (lv_sub hl [0, 1, 2, 3, 4, 5] rfl)
          exact key_36 (1001 - 0 + 1) 0 M H_2 _ _ (by omega) hM16 (by omega) (fun d h1 h2 => by omega) (by omega) hW hF hG hV hP hD hS (lv_sub hl [0, 1, 2, 3, 4, 5] rfl)
        · have hz := rfl (a := 0)
          refine lv_iconst (v := 1) hx hb dX13_close_61 (by decide) ?_
          refine lv_iadd hx hb dX13_close_62 ?_
          refine lv_topi (fun f_390 ef_390 => ?_)
          obtain rfl : f_390 = (nI (c_28 + 1)) := ef_390.trans (nI_add c_28 1)
          refine lv_istore_n (lv' := [(3, .int (nI (c_28 + 1))), (2, .ref b13), (0, .ref za), (1, .int k1)]) hx hb dX13_close_63 rfl hl (by decide) rfl (fun ls hl => ?_)
          have hlt13 : v21 < v20 := by have h := hAT.2.2.2.2.1; omega
          refine lv_aload_n hx hb dX13_close_64 rfl (lv_at hl 1 rfl) ?_
          refine pg_getN (D := D) (ci := 12) (v := .ref v22) (C := RX12) (T := TX12) (N := 51) hx hb hg inG12 hown hK hP hb_15.1 hM16 rfl 37 (by decide) (hN.use (Cond.fieldLinkNest RX13 236 RX12 "end" "[I" RX13) 46 rfl rfl) (fun _ h9 => h9) hv22 dX13_close_65 ?_
          refine lv_aload_n hx hb dX13_close_68 rfl (lv_at hl 1 rfl) ?_
          refine pg_getN (D := D) (ci := 12) (v := .int (nI v21)) (C := RX12) (T := TX12) (N := 51) hx hb hg inG12 hown hK hP hb_15.1 hM16 rfl 13 (by decide) (hN.use (Cond.fieldLinkNest RX13 244 RX12 "closed" "I" RX13) 22 rfl rfl) (fun _ h9 => h9) hv21 dX13_close_69 ?_
          have hi_391 : vp_in (nI v21) 12 := (inbN v21 12 (by omega) (by omega))
          refine pg_iald hx hb hK hP hc22.1 0 hM23 rfl hi_391 dX13_close_72 ?_
          have hp_392 := hf23 _ (vp_lt hi_391)
          obtain ⟨c_393, hc_394, ec_395⟩ := hp_392
          rw [ec_395]
          refine lv_istore (lv' := [(4, .int (nI c_393)), (3, .int (nI (c_28 + 1))), (2, .ref b13), (0, .ref za), (1, .int k1)]) hx hb dX13_close_73 hl (by decide) rfl (fun ls hl => ?_)
          have hx1b : fx M b13 1 = (((c_28 + 1) : Nat) : Int) - 1 := by rw [hx1]; first | decide | (rw [nI_toInt (by omega)]; omega)
          obtain ⟨hq1, hq2, hq3, hq4⟩ := heC hAT.2.2.2.2 hb13 hb12 (by omega) (by omega) hb37 (nI_cl (by omega)) ec_395 (by omega)
          have h11 : 1 ≤ fx M b13 11 := by omega
          have hT37 : (ax M b13 37 v21).toInt = ((c_393 : Nat) : Int) := by
            have h := ec_395
            rw [nI_cl (by omega)] at h
            rw [hb37, h, nI_toInt (by omega)]
          have hEd : enD (SX (k1 : Int32).toNatClampNeg) (SY (k1 : Int32).toNatClampNeg) = ((c_393 : Nat) : Int) := by unfold enD; rw [← hZk.2, show (SX (k1 : Int32).toNatClampNeg 13).toNat = v21 by omega]; exact hT37
          refine lv_iload_n hx hb dX13_close_75 rfl (lv_at hl 1 rfl) ?_
          refine lv_istore (lv' := [(5, .int (nI (c_28 + 1))), (4, .int (nI c_393)), (3, .int (nI (c_28 + 1))), (2, .ref b13), (0, .ref za), (1, .int k1)]) hx hb dX13_close_76 hl (by decide) rfl (fun ls hl => ?_)
          have key_396 : ∀ (fu_398 : Nat) (v5w399 : Nat) (M_403 : Hp) (H_404 : Heap) (locs : List Loc) (ls : Array Slot), 1001 - v5w399 < fu_398 → M_403 b13 = .inr (12, fs16) → v5w399 ≤ 1000 → (∀ d : Nat, SX (k1 : Int32).toNatClampNeg 1 < (d : Int) → d < v5w399 → ¬ opD (SY (k1 : Int32).toNatClampNeg) d) → SX (k1 : Int32).toNatClampNeg 1 < ((v5w399 : Nat) : Int) → WOM cy K L M_403 → fr K L [12, 14, 15, 32, 42, 45, 46, 79, 80, 81, 83] M M_403 → fG K L [1, 7, 8, 13, 14, 15, 16, 17, 18] M M_403 → VW K L M M_403 b13 (fx M b13) (ax M b13) → va_P D vwCl ([(za, (b13_0 0 z1 (nI z2) (nI z3) z4 z5 z6 z7 z8 z9 (nI z10) z11 z12 z13 z14 z15 (nI z16) z17 z18 z19))] ++ va_pl L M_403) H_404 → va_D A ([(za, (b13_0 0 z1 (nI z2) (nI z3) z4 z5 z6 z7 z8 z9 (nI z10) z11 z12 z13 z14 z15 (nI z16) z17 z18 z19))] ++ va_pl L M_403) → va_S A s.heap H_404 locs → lv_has ls 8 [(5, .int (nI v5w399)), (4, .int (nI c_393)), (3, .int (nI (c_28 + 1))), (2, .ref b13), (0, .ref za), (1, .int k1)] → W p l e R s m ([.ref za, .int k1] : List Value).toArray below meth c H_404 locs 0 0 Q (F0 m 78 ls []) := by
            intro fu_398
            induction fu_398 with
            | zero => intro v5w399 M_403 H_404 locs ls h; exact absurd h (Nat.not_lt_zero _)
            | succ fu_398 ih_397 =>
              intro v5w399 M_403 H_404 locs ls hfu hM_405 hx_400 hx_401 hx_402 hW hF hG hV hP hD hS hl
              refine lv_iload hx hb dX13_close_78 (lv_at hl 0 rfl) ?_
              refine lv_iload hx hb dX13_close_80 (lv_at hl 1 rfl) ?_
              refine lv_icmp_gt (tgt := 108) hx hb dX13_close_82 (by decide) (fun c_406 => ?_) (fun c_406 => ?_)
              · have hz := rfl (a := 0)
                have n_407 : c_393 < v5w399 := (iLT (a := c_393) (b := v5w399) (by omega) (by omega)).mp c_406
                have hall := hx_401
                have hv5 : c_393 < v5w399 := by omega
                have hI_408 : (0 : Int) ≤ (k1 : Int32).toInt := inltI rfl rfl c_7
                have hI_409 : (k1 : Int32).toInt < ((z2 : Nat) : Int) := inleI (nI_toInt (by omega)) rfl c_8
                have hI_410 : ((v21 : Nat) : Int) ≠ ((v20 : Nat) : Int) := ineI (nI_toInt (by omega)) (nI_toInt (by omega)) c_24
                have hI_411 : ((v19 : Nat) : Int) ≠ (0 : Int) := ineI (nI_toInt (by omega)) rfl c_26
                have hI_412 : ((c_393 : Nat) : Int) < ((v5w399 : Nat) : Int) := iltI (nI_toInt (by omega)) (nI_toInt (by omega)) c_406
                have hZSw := ZSx.fin hW0 i1 b2 hZS hGI.1 hkn hb9 hV (hF.at i1 (by decide)) hZk.1 hZk.2
                rw [va_upJ, va_upJ] at hZSw
                have hZPw := ZP.mv hZP i6 i7 hF (by decide) (by decide)
                refine lv_aload_n hx hb dX13_close_108 rfl (lv_at hl 4 rfl) ?_
                refine lv_iload_n hx hb dX13_close_109 rfl (lv_at hl 5 rfl) ?_
                refine lv_iload hx hb dX13_close_110 (lv_at hl 1 rfl) ?_
                have hPc : va_P D vwCl ([(za, (b13_0 0 z1 (nI z2) (nI z3) z4 z5 z6 z7 z8 z9 (nI z10) z11 z12 z13 z14 z15 (nI z16) z17 z18 z19))] ++ va_pl L M_403) H_404 := hP
                have hDc : va_D A ([(za, (b13_0 0 z1 (nI z2) (nI z3) z4 z5 z6 z7 z8 z9 (nI z10) z11 z12 z13 z14 z15 (nI z16) z17 z18 z19))] ++ va_pl L M_403) := hD
                have hFc : ∀ q, va_A ([(za, (b13_0 0 z1 (nI z2) (nI z3) z4 z5 z6 z7 z8 z9 (nI z10) z11 z12 z13 z14 z15 (nI z16) z17 z18 z19))] ++ va_pl L M_403) H_404.size q → A q := pg_free hDc hS hA
                refine va_calli (va_runV (As := [.int k1, .int (nI c_393)]) (rest := []) ⟨hx, hb, hml, hown, hg⟩ (z_behind l D cy K L M_403 H_404.size za 0 z1 z2 z3 z4 z5 z6 z7 z8 z9 z10 z11 z12 z13 z14 z15 z16 z17 z18 z19 k1 (nI c_393) SX SY PK PT  hW i1 b2 b3 i6 i7 i8 i9 b10 i11 i12 i13 i14 i15 b16 i17 i19 hZSw hZPw (by omega)) (cwV 2 hg (gV wd_853 wd_854 wd_855 wd_717 wd_856) rfl rfl rfl (by decide +kernel) ⟨(Nat.le_trans (Nat.le_of_ble_eq_true rfl) hRf), (Nat.le_trans (Nat.le_of_ble_eq_true rfl) hRl)⟩) ⟨PG.blind, va_recv hK hP (ci := 13) (q0 := 0) rfl rfl, fun U hU hW => ⟨rfl, PG.at hPc hK hDc hN hU hW⟩⟩ rfl rfl hl.1 rfl (lv_room (Nat.le_of_ble_eq_true rfl)) dX13_close_112 ⟨(Nat.le_trans (Nat.le_of_ble_eq_true rfl) hRc), (Nat.le_trans (Nat.le_of_ble_eq_true rfl) hRs)⟩) hS (fun q _ h => hFc q h) hFc (fun r_414 M_415 t H_413 locs ht hvm hw hB hz1 hk1 hS => ?_)
                have hp_416 := hw
                obtain ⟨hP1, hD1⟩ := hB
                rw [ht] at hP1
                have hP : va_P D vwCl ([(za, (b13_0 0 z1 (nI z2) (nI z3) z4 z5 z6 z7 z8 z9 (nI z10) z11 z12 z13 z14 z15 (nI z16) z17 z18 z19))] ++ va_pl L M_403) H_413 := hP1
                have hD : va_D A ([(za, (b13_0 0 z1 (nI z2) (nI z3) z4 z5 z6 z7 z8 z9 (nI z10) z11 z12 z13 z14 z15 (nI z16) z17 z18 z19))] ++ va_pl L M_403) := hD1.mono hFc
                rcases hp_416 with ⟨rfl, c_417⟩ | ⟨j_418, rfl, c_419, c_420, c_421, c_422⟩
                · have hz := rfl (a := 0)
                  refine lv_istore (lv' := [(5, .int (-1)), (4, .int (nI c_393)), (3, .int (nI (c_28 + 1))), (2, .ref b13), (0, .ref za), (1, .int k1)]) hx hb dX13_close_115 hl (by decide) rfl (fun ls hl => ?_)
                  refine lv_iload hx hb dX13_close_117 (lv_at hl 0 rfl) ?_
                  refine lv_iconst (v := (-1)) hx hb dX13_close_119 (by decide) ?_
                  refine lv_icmp_eq (tgt := 132) hx hb dX13_close_120 (by decide) (fun _ => ?_) (fun c_423 => absurd c_423 (by decide))
                  refine lv_aload_n hx hb dX13_close_132 rfl (lv_at hl 3 rfl) ?_
                  refine lv_iconst (v := 0) hx hb dX13_close_133 (by decide) ?_
                  refine pg_putN (D := D) (ci := 12) (v := .int 0) (ty := .int) (C := RX12) (T := TX12) (N := 51) hx hb hg inG12 tyX12 tyX12_ok nmX12 hown hK hP hD hS hb_15.1 hM_405 rfl 17 (by decide) (hN.use (Cond.fieldLinkNest RX13 256 RX12 "stretches" "I" RX13) 26 rfl rfl) (fun _ h9 => h9) rfl (by decide +kernel) rfl rfl (by rw [hn16]; decide) dX13_close_134 (fun H_424 locs hP hD hS => ?_)
                  have hs_427 : (fs16.set 17 (.int 0))[17]? = some (.int (nI 0)) := List.getElem?_set_self (by rw [hn16]; decide)
                  have hk_426 := fld12_set (k := 17) (w := .int 0) hl16 (show fld12 K L 17 (fs16.set 17 (.int 0)) from ⟨0, hs_427, by omega⟩)
                  have hn_428 : (fs16.set 17 (.int 0)).length = 51 := by rw [List.length_set]; exact hn16
                  have hv_429 : (fs16.set 17 (.int 0))[0]? = some (.int (nI v17)) := by rw [List.getElem?_set_ne (by decide)]; exact hv17
                  have hv_430 : (fs16.set 17 (.int 0))[1]? = some (.int (nI c_28)) := by rw [List.getElem?_set_ne (by decide)]; exact hv18
                  have hv_431 : (fs16.set 17 (.int 0))[11]? = some (.int (nI v19)) := by rw [List.getElem?_set_ne (by decide)]; exact hv19
                  have hv_432 : (fs16.set 17 (.int 0))[12]? = some (.int (nI v20)) := by rw [List.getElem?_set_ne (by decide)]; exact hv20
                  have hv_433 : (fs16.set 17 (.int 0))[13]? = some (.int (nI v21)) := by rw [List.getElem?_set_ne (by decide)]; exact hv21
                  have hv_434 : (fs16.set 17 (.int 0))[37]? = some (.ref v22) := by rw [List.getElem?_set_ne (by decide)]; exact hv22
                  have hb_435 : 0 ≤ 120 := by omega
                  obtain ⟨M_436, eM_436⟩ : ∃ M1 : Hp, M1 = va_up M_403 b13 (.inr (12, fs16.set 17 (.int 0))) := ⟨_, rfl⟩
                  have hV : VW K L M M_436 b13 (va_up (fx M b13) 17 (0 : Int)) (ax M b13) := by rw [eM_436]; exact hV.put hW hb_15 hM_405 hn16 rfl (by decide) rfl (by decide)
                  have hP : va_P D vwCl ([(za, (b13_0 0 z1 (nI z2) (nI z3) z4 z5 z6 z7 z8 z9 (nI z10) z11 z12 z13 z14 z15 (nI z16) z17 z18 z19))] ++ va_pl L M_436) H_424 := by rw [eM_436]; exact hP
                  have hD : va_D A ([(za, (b13_0 0 z1 (nI z2) (nI z3) z4 z5 z6 z7 z8 z9 (nI z10) z11 z12 z13 z14 z15 (nI z16) z17 z18 z19))] ++ va_pl L M_436) := by rw [eM_436]; exact hD
                  have hW : WOM cy K L M_436 := by rw [eM_436]; exact hW.up_12 hb_15 ⟨_, rfl, hn_428, hk_426⟩
                  have hF : fr K L [12, 14, 15, 32, 42, 45, 46, 79, 80, 81, 83] M M_436 := by rw [eM_436]; exact hF.up hb_15 (by decide)
                  have hG : fG K L [1, 7, 8, 13, 14, 15, 16, 17, 18] M M_436 := by rw [eM_436]; exact hG.up hM_405 (by decide)
                  have hM_437 : M_436 b13 = .inr (12, fs16.set 17 (.int 0)) := by rw [eM_436]; exact va_up_self _ _ _
                  refine lv_iconst (v := 0) hx hb dX13_close_137 (by decide) ?_
                  refine lv_istore (lv' := [(6, .int 0), (5, .int (-1)), (4, .int (nI c_393)), (3, .int (nI (c_28 + 1))), (2, .ref b13), (0, .ref za), (1, .int k1)]) hx hb dX13_close_138 hl (by decide) rfl (fun ls hl => ?_)
                  have key_438 : ∀ (fu_440 : Nat) (v6w441 : Nat) (M_443 : Hp) (H_444 : Heap) (locs : List Loc) (ls : Array Slot), 24 - v6w441 < fu_440 → M_443 b13 = .inr (12, fs16.set 17 (.int 0)) → v6w441 ≤ 24 → WOM cy K L M_443 → fr K L [12, 14, 15, 32, 42, 45, 46, 79, 80, 81, 83] M M_443 → fG K L [1, 7, 8, 13, 14, 15, 16, 17, 18] M M_443 → VW K L M M_443 b13 (va_up (fx M b13) 17 (0 : Int)) (ax M b13) → va_P D vwCl ([(za, (b13_0 0 z1 (nI z2) (nI z3) z4 z5 z6 z7 z8 z9 (nI z10) z11 z12 z13 z14 z15 (nI z16) z17 z18 z19))] ++ va_pl L M_443) H_444 → va_D A ([(za, (b13_0 0 z1 (nI z2) (nI z3) z4 z5 z6 z7 z8 z9 (nI z10) z11 z12 z13 z14 z15 (nI z16) z17 z18 z19))] ++ va_pl L M_443) → va_S A s.heap H_444 locs → lv_has ls 8 [(6, .int (nI v6w441)), (5, .int (-1)), (4, .int (nI c_393)), (3, .int (nI (c_28 + 1))), (2, .ref b13), (0, .ref za), (1, .int k1)] → W p l e R s m ([.ref za, .int k1] : List Value).toArray below meth c H_444 locs 0 0 Q (F0 m 140 ls []) := by
                    intro fu_440
                    induction fu_440 with
                    | zero => intro v6w441 M_443 H_444 locs ls h; exact absurd h (Nat.not_lt_zero _)
                    | succ fu_440 ih_439 =>
                      intro v6w441 M_443 H_444 locs ls hfu hM_445 hx_442 hW hF hG hV hP hD hS hl
                      refine lv_iload hx hb dX13_close_140 (lv_at hl 0 rfl) ?_
                      refine lv_bipush (v := 24) hx hb dX13_close_142 (by decide) ?_
                      refine lv_icmp_ge (tgt := 161) hx hb dX13_close_144 (by decide) (fun c_446 => ?_) (fun c_446 => ?_)
                      · have hz := rfl (a := 0)
                        have n_447 : 24 ≤ v6w441 := (iLE (a := 24) (b := v6w441) (by omega) (by omega)).mp c_446
                        refine lv_iload_n hx hb dX13_close_161 rfl (lv_at hl 3 rfl) ?_
                        refine lv_istore (lv' := [(6, .int (nI (c_28 + 1))), (5, .int (-1)), (4, .int (nI c_393)), (3, .int (nI (c_28 + 1))), (2, .ref b13), (0, .ref za), (1, .int k1)]) hx hb dX13_close_162 hl (by decide) rfl (fun ls hl => ?_)
                        have key_448 : ∀ (fu_450 : Nat) (v6w451 : Nat) (gnw451 : Nat) (gpw451 : Nat → Int32) (gqw451 : Nat → Int32) (M_454 : Hp) (H_455 : Heap) (locs : List Loc) (ls : Array Slot), 1001 - v6w451 < fu_450 → v6w451 ≤ c_393 + 1 → SD (c_28 + 1) gnw451 v6w451 gpw451 gqw451 → WOM cy K L M_454 → fr K L [12, 14, 15, 32, 42, 45, 46, 79, 80, 81, 83] M M_454 → fG K L [1, 7, 8, 13, 14, 15, 16, 17, 18] M M_454 → VW K L M M_454 b13 (va_up (fx M b13) 17 ((gnw451 : Nat) : Int)) (va_up (va_up (ax M b13) 44 gpw451) 45 gqw451) → va_P D vwCl ([(za, (b13_0 0 z1 (nI z2) (nI z3) z4 z5 z6 z7 z8 z9 (nI z10) z11 z12 z13 z14 z15 (nI z16) z17 z18 z19))] ++ va_pl L M_454) H_455 → va_D A ([(za, (b13_0 0 z1 (nI z2) (nI z3) z4 z5 z6 z7 z8 z9 (nI z10) z11 z12 z13 z14 z15 (nI z16) z17 z18 z19))] ++ va_pl L M_454) → va_S A s.heap H_455 locs → lv_has ls 8 [(6, .int (nI v6w451)), (5, .int (-1)), (4, .int (nI c_393)), (3, .int (nI (c_28 + 1))), (2, .ref b13), (0, .ref za), (1, .int k1)] → W p l e R s m ([.ref za, .int k1] : List Value).toArray below meth c H_455 locs 0 0 Q (F0 m 164 ls []) := by
                          intro fu_450
                          induction fu_450 with
                          | zero => intro v6w451 gnw451 gpw451 gqw451 M_454 H_455 locs ls h; exact absurd h (Nat.not_lt_zero _)
                          | succ fu_450 ih_449 =>
                            intro v6w451 gnw451 gpw451 gqw451 M_454 H_455 locs ls hfu hx_452 hx_453 hW hF hG hV hP hD hS hl
                            refine lv_iload hx hb dX13_close_164 (lv_at hl 0 rfl) ?_
                            refine lv_iload hx hb dX13_close_166 (lv_at hl 2 rfl) ?_
                            refine lv_icmp_gt (tgt := 238) hx hb dX13_close_168 (by decide) (fun c_456 => ?_) (fun c_456 => ?_)
                            · have hz := rfl (a := 0)
                              have n_457 : c_393 < v6w451 := (iLT (a := c_393) (b := v6w451) (by omega) (by omega)).mp c_456
                              obtain ⟨fs458, hM458, hn458, hl458⟩ := hW.open_12 hb_15
                              obtain ⟨v459, hv459, hc459⟩ : ∃ v : Nat, fs458[17]? = some (.int (nI v) : Value) ∧ v ≤ 120 := hl458 17 (by decide)
                              have hx17 : ((gnw451 : Nat) : Int) = ((v459 : Nat) : Int) := (congrFun hV.2.1 17).symm.trans ((fx_of hM458 rfl hv459).trans (nI_toInt (by omega)))
                              have hSD := hx_453
                              obtain ⟨hs1, hs2, hs3, hs4⟩ := hx_453
                              have hNn : 1 ≤ gnw451 ∧ 1 ≤ (gqw451 0).toInt := by rcases hs3 with q | q <;> first | exact q | omega
                              have hN1 := hNn.1
                              have hs45 := hNn.2
                              refine lv_aload_n hx hb dX13_close_238 rfl (lv_at hl 4 rfl) ?_
                              refine pg_getN (D := D) (ci := 12) (v := .int (nI v459)) (C := RX12) (T := TX12) (N := 51) hx hb hg inG12 hown hK hP hb_15.1 hM458 rfl 17 (by decide) (hN.use (Cond.fieldLinkNest RX13 256 RX12 "stretches" "I" RX13) 26 rfl rfl) (fun _ h9 => h9) hv459 dX13_close_239 ?_
                              refine lv_istore (lv' := [(6, .int (nI v459)), (5, .int (-1)), (4, .int (nI c_393)), (3, .int (nI (c_28 + 1))), (2, .ref b13), (0, .ref za), (1, .int k1)]) hx hb dX13_close_242 hl (by decide) rfl (fun ls hl => ?_)
                              refine lv_aload_n hx hb dX13_close_244 rfl (lv_at hl 5 rfl) ?_
                              refine lv_aload_n hx hb dX13_close_245 rfl (lv_at hl 4 rfl) ?_
                              refine lv_iload hx hb dX13_close_246 (lv_at hl 0 rfl) ?_
                              have hPc : va_P D vwCl ([(za, (b13_0 0 z1 (nI z2) (nI z3) z4 z5 z6 z7 z8 z9 (nI z10) z11 z12 z13 z14 z15 (nI z16) z17 z18 z19))] ++ va_pl L M_454) H_455 := hP
                              have hDc : va_D A ([(za, (b13_0 0 z1 (nI z2) (nI z3) z4 z5 z6 z7 z8 z9 (nI z10) z11 z12 z13 z14 z15 (nI z16) z17 z18 z19))] ++ va_pl L M_454) := hD
                              have hFc : ∀ q, va_A ([(za, (b13_0 0 z1 (nI z2) (nI z3) z4 z5 z6 z7 z8 z9 (nI z10) z11 z12 z13 z14 z15 (nI z16) z17 z18 z19))] ++ va_pl L M_454) H_455.size q → A q := pg_free hDc hS hA
                              refine va_callv (va_runV (As := [.ref b13, .int (nI v459)]) (rest := []) ⟨hx, hb, hml, hown, hg⟩ (g_X13_looses l D cy K L M_454 H_455.size za 0 z1 z2 z3 z4 z5 z6 z7 z8 z9 z10 z11 z12 z13 z14 z15 z16 z17 z18 z19 b13 v459  hW i1 b2 b3 i6 i7 i8 i9 b10 i11 i12 i13 i14 i15 b16 i17 i19 hb_15 (by omega) hV.2.2.2 (by omega) (by rw [hV.2.2.1]; exact hs45)) (cwV 2 hg (gV wd_857 wd_858 wd_859 wd_717 wd_860) rfl rfl rfl (by decide +kernel) ⟨(Nat.le_trans (Nat.le_of_ble_eq_true rfl) hRf), (Nat.le_trans (Nat.le_of_ble_eq_true rfl) hRl)⟩) ⟨PG.blind, va_recv hK hP (ci := 13) (q0 := 0) rfl rfl, fun U hU hW => ⟨rfl, PG.at hPc hK hDc hN hU hW⟩⟩ rfl rfl hl.1 rfl (lv_room (Nat.le_of_ble_eq_true rfl)) dX13_close_248 ⟨(Nat.le_trans (Nat.le_of_ble_eq_true rfl) hRc), (Nat.le_trans (Nat.le_of_ble_eq_true rfl) hRs)⟩) hS (fun q _ h => hFc q h) hFc (fun M_462 t H_460 locs ht hvm hw hB hz1 hk1 hS => ?_)
                              have hWb := hW
                              obtain ⟨hW, hF2, hG2, hp_463⟩ := hw
                              obtain ⟨hP1, hD1⟩ := hB
                              rw [ht] at hP1
                              have hP : va_P D vwCl ([(za, (b13_0 0 z1 (nI z2) (nI z3) z4 z5 z6 z7 z8 z9 (nI z10) z11 z12 z13 z14 z15 (nI z16) z17 z18 z19))] ++ va_pl L M_462) H_460 := hP1
                              have hD : va_D A ([(za, (b13_0 0 z1 (nI z2) (nI z3) z4 z5 z6 z7 z8 z9 (nI z10) z11 z12 z13 z14 z15 (nI z16) z17 z18 z19))] ++ va_pl L M_462) := hD1.mono hFc
                              have hM_464 : M_462 b13 = .inr (12, fs458) := (hF2.at hb_15 (by decide)).trans hM458
                              have hF : fr K L [12, 14, 15, 32, 42, 45, 46, 79, 80, 81, 83] M M_462 := hF.tr hF2 (by decide)
                              have hG : fG K L [1, 7, 8, 13, 14, 15, 16, 17, 18] M M_462 := hG.tr hWb hG2 (by decide)
                              have hV : VW K L M M_462 b13 (va_up (fx M b13) 17 ((gnw451 : Nat) : Int)) (va_up (va_up (ax M b13) 44 gpw451) 45 gqw451) := hV.cal hWb hW hF2 hG2 (by decide) (by decide) hb_15
                              refine lv_iconst (v := 0) hx hb dX13_close_251 (by decide) ?_
                              refine lv_istore (lv' := [(7, .int 0), (6, .int (nI v459)), (5, .int (-1)), (4, .int (nI c_393)), (3, .int (nI (c_28 + 1))), (2, .ref b13), (0, .ref za), (1, .int k1)]) hx hb dX13_close_252 hl (by decide) rfl (fun ls hl => ?_)
                              have key_465 : ∀ (fu_467 : Nat) (v7w468 : Nat) (zgw468 : Nat) (M_471 : Hp) (H_472 : Heap) (locs : List Loc) (ls : Array Slot), 1001 - v7w468 < fu_467 → v7w468 ≤ v459 → zgw468 ≤ 24 → WOM cy K L M_471 → fr K L [12, 14, 15, 32, 42, 45, 46, 79, 80, 81, 83] M M_471 → fG K L [1, 7, 8, 13, 14, 15, 16, 17, 18] M M_471 → VW K L M M_471 b13 (va_up (fx M b13) 17 ((gnw451 : Nat) : Int)) (va_up (va_up (ax M b13) 44 gpw451) 45 gqw451) → va_P D vwCl ([(za, (b13_0 0 z1 (nI z2) (nI z3) z4 z5 z6 z7 z8 z9 (nI z10) z11 z12 z13 z14 z15 (nI zgw468) z17 z18 z19))] ++ va_pl L M_471) H_472 → va_D A ([(za, (b13_0 0 z1 (nI z2) (nI z3) z4 z5 z6 z7 z8 z9 (nI z10) z11 z12 z13 z14 z15 (nI zgw468) z17 z18 z19))] ++ va_pl L M_471) → va_S A s.heap H_472 locs → lv_has ls 8 [(7, .int (nI v7w468)), (6, .int (nI v459)), (5, .int (-1)), (4, .int (nI c_393)), (3, .int (nI (c_28 + 1))), (2, .ref b13), (0, .ref za), (1, .int k1)] → W p l e R s m ([.ref za, .int k1] : List Value).toArray below meth c H_472 locs 0 0 Q (F0 m 254 ls []) := by
                                intro fu_467
                                induction fu_467 with
                                | zero => intro v7w468 zgw468 M_471 H_472 locs ls h; exact absurd h (Nat.not_lt_zero _)
                                | succ fu_467 ih_466 =>
                                  intro v7w468 zgw468 M_471 H_472 locs ls hfu hx_469 hx_470 hW hF hG hV hP hD hS hl
                                  refine lv_iload hx hb dX13_close_254 (lv_at hl 0 rfl) ?_
                                  refine lv_iload hx hb dX13_close_256 (lv_at hl 1 rfl) ?_
                                  refine lv_icmp_ge (tgt := 275) hx hb dX13_close_258 (by decide) (fun c_473 => ?_) (fun c_473 => ?_)
                                  · have hz := rfl (a := 0)
                                    have n_474 : v459 ≤ v7w468 := (iLE (a := v459) (b := v7w468) (by omega) (by omega)).mp c_473
                                    refine lv_iconst (v := 0) hx hb dX13_close_275 (by decide) ?_
                                    refine lv_istore (lv' := [(7, .int 0), (6, .int (nI v459)), (5, .int (-1)), (4, .int (nI c_393)), (3, .int (nI (c_28 + 1))), (2, .ref b13), (0, .ref za), (1, .int k1)]) hx hb dX13_close_276 hl (by decide) rfl (fun ls hl => ?_)
                                    have key_475 : ∀ (fu_477 : Nat) (v7w478 : Nat) (zgw478 : Nat) (gnw478 : Nat) (gpw478 : Nat → Int32) (gqw478 : Nat → Int32) (M_482 : Hp) (H_483 : Heap) (locs : List Loc) (ls : Array Slot), 24 - v7w478 < fu_477 → v7w478 ≤ 20 → zgw478 ≤ 24 → gnw478 ≤ 100 + v7w478 → WOM cy K L M_482 → fr K L [12, 14, 15, 32, 42, 45, 46, 79, 80, 81, 83] M M_482 → fG K L [1, 7, 8, 13, 14, 15, 16, 17, 18] M M_482 → VW K L M M_482 b13 (va_up (fx M b13) 17 ((gnw478 : Nat) : Int)) (va_up (va_up (ax M b13) 44 gpw478) 45 gqw478) → va_P D vwCl ([(za, (b13_0 0 z1 (nI z2) (nI z3) z4 z5 z6 z7 z8 z9 (nI z10) z11 z12 z13 z14 z15 (nI zgw478) z17 z18 z19))] ++ va_pl L M_482) H_483 → va_D A ([(za, (b13_0 0 z1 (nI z2) (nI z3) z4 z5 z6 z7 z8 z9 (nI z10) z11 z12 z13 z14 z15 (nI zgw478) z17 z18 z19))] ++ va_pl L M_482) → va_S A s.heap H_483 locs → lv_has ls 8 [(7, .int (nI v7w478)), (6, .int (nI v459)), (5, .int (-1)), (4, .int (nI c_393)), (3, .int (nI (c_28 + 1))), (2, .ref b13), (0, .ref za), (1, .int k1)] → W p l e R s m ([.ref za, .int k1] : List Value).toArray below meth c H_483 locs 0 0 Q (F0 m 278 ls []) := by
                                      intro fu_477
                                      induction fu_477 with
                                      | zero => intro v7w478 zgw478 gnw478 gpw478 gqw478 M_482 H_483 locs ls h; exact absurd h (Nat.not_lt_zero _)
                                      | succ fu_477 ih_476 =>
                                        intro v7w478 zgw478 gnw478 gpw478 gqw478 M_482 H_483 locs ls hfu hx_479 hx_480 hx_481 hW hF hG hV hP hD hS hl
                                        refine lv_iload hx hb dX13_close_278 (lv_at hl 0 rfl) ?_
                                        refine lv_aload_n hx hb dX13_close_280 rfl (lv_at hl 5 rfl) ?_
                                        obtain ⟨fs484, hM484, hn484, hl484⟩ := hW.open_12 hb_15
                                        obtain ⟨v485, hv485, hc485⟩ : ∃ v : Nat, fs484[15]? = some (.int (nI v) : Value) ∧ v ≤ 20 := hl484 15 (by decide)
                                        refine pg_getN (D := D) (ci := 12) (v := .int (nI v485)) (C := RX12) (T := TX12) (N := 51) hx hb hg inG12 hown hK hP hb_15.1 hM484 rfl 15 (by decide) (hN.use (Cond.fieldLinkNest RX13 279 RX12 "mends" "I" RX13) 24 rfl rfl) (fun _ h9 => h9) hv485 dX13_close_281 ?_
                                        refine lv_icmp_ge (tgt := 300) hx hb dX13_close_284 (by decide) (fun c_486 => ?_) (fun c_486 => ?_)
                                        · have hz := rfl (a := 0)
                                          have n_487 : v485 ≤ v7w478 := (iLE (a := v485) (b := v7w478) (by omega) (by omega)).mp c_486
                                          refine lv_aload_n hx hb dX13_close_300 rfl (lv_at hl 5 rfl) ?_
                                          refine lv_iload_n hx hb dX13_close_301 rfl (lv_at hl 4 rfl) ?_
                                          refine lv_iload hx hb dX13_close_302 (lv_at hl 3 rfl) ?_
                                          have hPc : va_P D vwCl ([] ++ va_pl L M_482) H_483 := hP.part (cx := []) [] rfl
                                          have hDc : va_D A ([] ++ va_pl L M_482) := hD.part (cx := []) [] (by decide) rfl
                                          have hFc : ∀ q, va_A ([] ++ va_pl L M_482) H_483.size q → A q := pg_free hDc hS hA
                                          refine va_callv (va_runS (As := [.ref b13, .int (nI (c_28 + 1)), .int (nI c_393)]) (rest := []) ⟨hx, hb, hml, hown, hg⟩ (r_settled2 l D cy K L M_482 H_483.size b13 (nI (c_28 + 1)) (nI c_393)  hW hb_15 hV.2.2.2) (va_cwS 3 hg (gS wd_861 wd_862 wd_717 wd_863) rfl rfl rfl (by decide +kernel) ⟨(Nat.le_trans (Nat.le_of_ble_eq_true rfl) hRf), (Nat.le_trans (Nat.le_of_ble_eq_true rfl) hRl)⟩) ⟨PG.blind, fun U hU hW => ⟨rfl, PG.at hPc hK hDc hN hU hW⟩⟩ rfl rfl hl.1 rfl (lv_room (Nat.le_of_ble_eq_true rfl)) dX13_close_304 ⟨(Nat.le_trans (Nat.le_of_ble_eq_true rfl) hRc), (Nat.le_trans (Nat.le_of_ble_eq_true rfl) hRs)⟩) hS (fun q _ h => hFc q h) hFc (fun M_490 t H_488 locs ht hvm hw hB hz1 hk1 hS => ?_)
                                          have hWb := hW
                                          obtain ⟨hW, hF2, hG2, hVP, hp_491⟩ := hw
                                          obtain ⟨hP1, hD1⟩ := hB
                                          rw [ht] at hP1
                                          obtain ⟨hP, hD⟩ := va_joinP (X := [(za, (b13_0 0 z1 (nI z2) (nI z3) z4 z5 z6 z7 z8 z9 (nI z10) z11 z12 z13 z14 z15 (nI zgw478) z17 z18 z19))]) (cx := []) (wr := [(za, (b13_0 0 z1 (nI z2) (nI z3) z4 z5 z6 z7 z8 z9 (nI z10) z11 z12 z13 z14 z15 (nI zgw478) z17 z18 z19))]) (rx := []) (pl := va_pl L M_482) (pl1 := va_pl L M_490) hP hD [] [0] rfl rfl (by decide) (by decide) hk1 hFc hP1 hD1
                                          have hP : va_P D vwCl ([(za, (b13_0 0 z1 (nI z2) (nI z3) z4 z5 z6 z7 z8 z9 (nI z10) z11 z12 z13 z14 z15 (nI zgw478) z17 z18 z19))] ++ va_pl L M_490) H_488 := hP
                                          have hD : va_D A ([(za, (b13_0 0 z1 (nI z2) (nI z3) z4 z5 z6 z7 z8 z9 (nI z10) z11 z12 z13 z14 z15 (nI zgw478) z17 z18 z19))] ++ va_pl L M_490) := hD
                                          obtain ⟨fs492, hM492, hn492, hl492⟩ := hW.open_12 hb_15
                                          have hv_493 : fs492[15]? = some (.int (nI v485) : Value) := (hG2 _ hb_15 _ _ hM484 hM492 15 (by decide)).trans hv485
                                          have hF : fr K L [12, 14, 15, 32, 42, 45, 46, 79, 80, 81, 83] M M_490 := hF.tr hF2 (by decide)
                                          have hG : fG K L [1, 7, 8, 13, 14, 15, 16, 17, 18] M M_490 := hG.tr hWb hG2 (by decide)
                                          obtain ⟨n_494, p_495, q_496, r_497, n_498, h8, hle8, htr8, hV2⟩ := hVP
                                          rw [hV.2.1] at h8
                                          rw [hV.2.2.1] at htr8
                                          rw [hV.2.1, hV.2.2.1] at hV2
                                          have hn14 : (0 : Int) ≤ ((n_494 : Nat) : Int) := by omega
                                          have hV : VW K L M M_490 b13 (va_up (va_up (fx M b13) 17 ((gnw478 : Nat) : Int)) 14 ((n_494 : Nat) : Int)) (va_up (va_up (va_up (va_up (va_up (ax M b13) 44 gpw478) 45 gqw478) 38 p_495) 39 q_496) 40 r_497) := hV.tr hV2
                                          have h8s : fx M b13 14 = ((n_498 : Nat) : Int) := h8
                                          refine lv_aload_n hx hb dX13_close_307 rfl (lv_at hl 5 rfl) ?_
                                          refine lv_lconst (v := 0) hx hb dX13_close_308 (by decide) ?_
                                          refine pg_putN (D := D) (ci := 12) (v := .long 0) (ty := .long) (C := RX12) (T := TX12) (N := 51) hx hb hg inG12 tyX12 tyX12_ok nmX12 hown hK hP hD hS hb_15.1 hM492 rfl 7 (by decide) (hN.use (Cond.fieldLinkNest RX13 179 RX12 "loose" "J" RX13) 16 rfl rfl) (fun _ h9 => h9) rfl (by decide +kernel) rfl rfl (by rw [hn492]; decide) dX13_close_309 (fun H_499 locs hP hD hS => ?_)
                                          have hs_502 : (fs492.set 7 (.long 0))[7]? = some (.long 0) := List.getElem?_set_self (by rw [hn492]; decide)
                                          have hk_501 := fld12_set (k := 7) (w := .long 0) hl492 (show fld12 K L 7 (fs492.set 7 (.long 0)) from ⟨0, hs_502⟩)
                                          have hn_503 : (fs492.set 7 (.long 0)).length = 51 := by rw [List.length_set]; exact hn492
                                          have hv_504 : (fs492.set 7 (.long 0))[15]? = some (.int (nI v485)) := by rw [List.getElem?_set_ne (by decide)]; exact hv_493
                                          obtain ⟨M_505, eM_505⟩ : ∃ M1 : Hp, M1 = va_up M_490 b13 (.inr (12, fs492.set 7 (.long 0))) := ⟨_, rfl⟩
                                          have hV : VW K L M M_505 b13 (va_up (va_up (fx M b13) 17 ((gnw478 : Nat) : Int)) 14 ((n_494 : Nat) : Int)) (va_up (va_up (va_up (va_up (va_up (ax M b13) 44 gpw478) 45 gqw478) 38 p_495) 39 q_496) 40 r_497) := by rw [eM_505]; exact hV.put0 hW hb_15 hM492 rfl rfl
                                          have hP : va_P D vwCl ([(za, (b13_0 0 z1 (nI z2) (nI z3) z4 z5 z6 z7 z8 z9 (nI z10) z11 z12 z13 z14 z15 (nI zgw478) z17 z18 z19))] ++ va_pl L M_505) H_499 := by rw [eM_505]; exact hP
                                          have hD : va_D A ([(za, (b13_0 0 z1 (nI z2) (nI z3) z4 z5 z6 z7 z8 z9 (nI z10) z11 z12 z13 z14 z15 (nI zgw478) z17 z18 z19))] ++ va_pl L M_505) := by rw [eM_505]; exact hD
                                          have hW : WOM cy K L M_505 := by rw [eM_505]; exact hW.up_12 hb_15 ⟨_, rfl, hn_503, hk_501⟩
                                          have hF : fr K L [12, 14, 15, 32, 42, 45, 46, 79, 80, 81, 83] M M_505 := by rw [eM_505]; exact hF.up hb_15 (by decide)
                                          have hG : fG K L [1, 7, 8, 13, 14, 15, 16, 17, 18] M M_505 := by rw [eM_505]; exact hG.up hM492 (by decide)
                                          have hM_506 : M_505 b13 = .inr (12, fs492.set 7 (.long 0)) := by rw [eM_505]; exact va_up_self _ _ _
                                          refine lv_aload_n hx hb dX13_close_312 rfl (lv_at hl 5 rfl) ?_
                                          refine lv_iconst (v := 0) hx hb dX13_close_313 (by decide) ?_
                                          refine pg_putN (D := D) (ci := 12) (v := .int 0) (ty := .int) (C := RX12) (T := TX12) (N := 51) hx hb hg inG12 tyX12 tyX12_ok nmX12 hown hK hP hD hS hb_15.1 hM_506 rfl 15 (by decide) (hN.use (Cond.fieldLinkNest RX13 279 RX12 "mends" "I" RX13) 24 rfl rfl) (fun _ h9 => h9) rfl (by decide +kernel) rfl rfl (by rw [hn_503]; decide) dX13_close_314 (fun H_507 locs hP hD hS => ?_)
                                          have hs_510 : ((fs492.set 7 (.long 0)).set 15 (.int 0))[15]? = some (.int (nI 0)) := List.getElem?_set_self (by rw [hn_503]; decide)
                                          have hk_509 := fld12_set (k := 15) (w := .int 0) hk_501 (show fld12 K L 15 ((fs492.set 7 (.long 0)).set 15 (.int 0)) from ⟨0, hs_510, by omega⟩)
                                          have hn_511 : ((fs492.set 7 (.long 0)).set 15 (.int 0)).length = 51 := by rw [List.length_set]; exact hn_503
                                          have hv_512 : ((fs492.set 7 (.long 0)).set 15 (.int 0))[7]? = some (.long 0) := by rw [List.getElem?_set_ne (by decide)]; exact hs_502
                                          have hb_513 : 0 ≤ 20 := by omega
                                          obtain ⟨M_514, eM_514⟩ : ∃ M1 : Hp, M1 = va_up M_505 b13 (.inr (12, (fs492.set 7 (.long 0)).set 15 (.int 0))) := ⟨_, rfl⟩
                                          have hx15 : (fx M b13 15) = ((v485 : Nat) : Int) := (congrFun hV.2.1 15).symm.trans ((fx_of hM_506 rfl hv_504).trans (nI_toInt (by omega)))
                                          have hV : VW K L M M_514 b13 (va_up (va_up (va_up (fx M b13) 17 ((gnw478 : Nat) : Int)) 14 ((n_494 : Nat) : Int)) 15 (0 : Int)) (va_up (va_up (va_up (va_up (va_up (ax M b13) 44 gpw478) 45 gqw478) 38 p_495) 39 q_496) 40 r_497) := by rw [eM_514]; exact hV.put hW hb_15 hM_506 hn_503 rfl (by decide) rfl (by decide)
                                          have hP : va_P D vwCl ([(za, (b13_0 0 z1 (nI z2) (nI z3) z4 z5 z6 z7 z8 z9 (nI z10) z11 z12 z13 z14 z15 (nI zgw478) z17 z18 z19))] ++ va_pl L M_514) H_507 := by rw [eM_514]; exact hP
                                          have hD : va_D A ([(za, (b13_0 0 z1 (nI z2) (nI z3) z4 z5 z6 z7 z8 z9 (nI z10) z11 z12 z13 z14 z15 (nI zgw478) z17 z18 z19))] ++ va_pl L M_514) := by rw [eM_514]; exact hD
                                          have hW : WOM cy K L M_514 := by rw [eM_514]; exact hW.up_12 hb_15 ⟨_, rfl, hn_511, hk_509⟩
                                          have hF : fr K L [12, 14, 15, 32, 42, 45, 46, 79, 80, 81, 83] M M_514 := by rw [eM_514]; exact hF.up hb_15 (by decide)
                                          have hG : fG K L [1, 7, 8, 13, 14, 15, 16, 17, 18] M M_514 := by rw [eM_514]; exact hG.up hM_506 (by decide)
                                          have hM_515 : M_514 b13 = .inr (12, (fs492.set 7 (.long 0)).set 15 (.int 0)) := by rw [eM_514]; exact va_up_self _ _ _
                                          refine lv_aload_n hx hb dX13_close_317 rfl (lv_at hl 5 rfl) ?_
                                          refine lv_iconst (v := 0) hx hb dX13_close_318 (by decide) ?_
                                          refine pg_putN (D := D) (ci := 12) (v := .int 0) (ty := .int) (C := RX12) (T := TX12) (N := 51) hx hb hg inG12 tyX12 tyX12_ok nmX12 hown hK hP hD hS hb_15.1 hM_515 rfl 16 (by decide) (hN.use (Cond.fieldLinkNest RX13 161 RX12 "undone" "I" RX13) 25 rfl rfl) (fun _ h9 => h9) rfl (by decide +kernel) rfl rfl (by rw [hn_511]; decide) dX13_close_319 (fun H_516 locs hP hD hS => ?_)
                                          have hs_519 : (((fs492.set 7 (.long 0)).set 15 (.int 0)).set 16 (.int 0))[16]? = some (.int (nI 0)) := List.getElem?_set_self (by rw [hn_511]; decide)
                                          have hk_518 := fld12_set (k := 16) (w := .int 0) hk_509 (show fld12 K L 16 (((fs492.set 7 (.long 0)).set 15 (.int 0)).set 16 (.int 0)) from ⟨0, hs_519, by omega⟩)
                                          have hn_520 : (((fs492.set 7 (.long 0)).set 15 (.int 0)).set 16 (.int 0)).length = 51 := by rw [List.length_set]; exact hn_511
                                          have hv_521 : (((fs492.set 7 (.long 0)).set 15 (.int 0)).set 16 (.int 0))[7]? = some (.long 0) := by rw [List.getElem?_set_ne (by decide)]; exact hv_512
                                          have hv_522 : (((fs492.set 7 (.long 0)).set 15 (.int 0)).set 16 (.int 0))[15]? = some (.int (nI 0)) := by rw [List.getElem?_set_ne (by decide)]; exact hs_510
                                          have hb_523 : 0 ≤ 60 := by omega
                                          obtain ⟨M_524, eM_524⟩ : ∃ M1 : Hp, M1 = va_up M_514 b13 (.inr (12, ((fs492.set 7 (.long 0)).set 15 (.int 0)).set 16 (.int 0))) := ⟨_, rfl⟩
                                          have hV : VW K L M M_524 b13 (va_up (va_up (va_up (va_up (fx M b13) 17 ((gnw478 : Nat) : Int)) 14 ((n_494 : Nat) : Int)) 15 (0 : Int)) 16 (0 : Int)) (va_up (va_up (va_up (va_up (va_up (ax M b13) 44 gpw478) 45 gqw478) 38 p_495) 39 q_496) 40 r_497) := by rw [eM_524]; exact hV.put hW hb_15 hM_515 hn_511 rfl (by decide) rfl (by decide)
                                          have hP : va_P D vwCl ([(za, (b13_0 0 z1 (nI z2) (nI z3) z4 z5 z6 z7 z8 z9 (nI z10) z11 z12 z13 z14 z15 (nI zgw478) z17 z18 z19))] ++ va_pl L M_524) H_516 := by rw [eM_524]; exact hP
                                          have hD : va_D A ([(za, (b13_0 0 z1 (nI z2) (nI z3) z4 z5 z6 z7 z8 z9 (nI z10) z11 z12 z13 z14 z15 (nI zgw478) z17 z18 z19))] ++ va_pl L M_524) := by rw [eM_524]; exact hD
                                          have hW : WOM cy K L M_524 := by rw [eM_524]; exact hW.up_12 hb_15 ⟨_, rfl, hn_520, hk_518⟩
                                          have hF : fr K L [12, 14, 15, 32, 42, 45, 46, 79, 80, 81, 83] M M_524 := by rw [eM_524]; exact hF.up hb_15 (by decide)
                                          have hG : fG K L [1, 7, 8, 13, 14, 15, 16, 17, 18] M M_524 := by rw [eM_524]; exact hG.up hM_515 (by decide)
                                          have hM_525 : M_524 b13 = .inr (12, ((fs492.set 7 (.long 0)).set 15 (.int 0)).set 16 (.int 0)) := by rw [eM_524]; exact va_up_self _ _ _
                                          refine lv_aload_n hx hb dX13_close_322 rfl (lv_at hl 5 rfl) ?_
                                          refine lv_iload hx hb dX13_close_323 (lv_at hl 3 rfl) ?_
                                          refine pg_putN (D := D) (ci := 12) (v := .int (nI c_393)) (ty := .int) (C := RX12) (T := TX12) (N := 51) hx hb hg inG12 tyX12 tyX12_ok nmX12 hown hK hP hD hS hb_15.1 hM_525 rfl 1 (by decide) (hN.use (Cond.fieldLinkNest RX13 80 RX12 "to" "I" RX13) 10 rfl rfl) (fun _ h9 => h9) rfl (by decide +kernel) rfl rfl (by rw [hn_520]; decide) dX13_close_325 (fun H_526 locs hP hD hS => ?_)
                                          have hs_529 : ((((fs492.set 7 (.long 0)).set 15 (.int 0)).set 16 (.int 0)).set 1 (.int (nI c_393)))[1]? = some (.int (nI c_393)) := List.getElem?_set_self (by rw [hn_520]; decide)
                                          have hk_528 := fld12_set (k := 1) (w := .int (nI c_393)) hk_518 (show fld12 K L 1 ((((fs492.set 7 (.long 0)).set 15 (.int 0)).set 16 (.int 0)).set 1 (.int (nI c_393))) from ⟨(nI c_393), hs_529, Or.inr ⟨c_393, by omega, rfl⟩⟩)
                                          have hn_530 : ((((fs492.set 7 (.long 0)).set 15 (.int 0)).set 16 (.int 0)).set 1 (.int (nI c_393))).length = 51 := by rw [List.length_set]; exact hn_520
                                          have hv_531 : ((((fs492.set 7 (.long 0)).set 15 (.int 0)).set 16 (.int 0)).set 1 (.int (nI c_393)))[7]? = some (.long 0) := by rw [List.getElem?_set_ne (by decide)]; exact hv_521
                                          have hv_532 : ((((fs492.set 7 (.long 0)).set 15 (.int 0)).set 16 (.int 0)).set 1 (.int (nI c_393)))[15]? = some (.int (nI 0)) := by rw [List.getElem?_set_ne (by decide)]; exact hv_522
                                          have hv_533 : ((((fs492.set 7 (.long 0)).set 15 (.int 0)).set 16 (.int 0)).set 1 (.int (nI c_393)))[16]? = some (.int (nI 0)) := by rw [List.getElem?_set_ne (by decide)]; exact hs_519
                                          obtain ⟨M_534, eM_534⟩ : ∃ M1 : Hp, M1 = va_up M_524 b13 (.inr (12, (((fs492.set 7 (.long 0)).set 15 (.int 0)).set 16 (.int 0)).set 1 (.int (nI c_393)))) := ⟨_, rfl⟩
                                          have hV : VW K L M M_534 b13 (va_up (va_up (va_up (va_up (va_up (fx M b13) 17 ((gnw478 : Nat) : Int)) 14 ((n_494 : Nat) : Int)) 15 (0 : Int)) 16 (0 : Int)) 1 ((c_393 : Nat) : Int)) (va_up (va_up (va_up (va_up (va_up (ax M b13) 44 gpw478) 45 gqw478) 38 p_495) 39 q_496) 40 r_497) := by rw [eM_534]; exact hV.put hW hb_15 hM_525 hn_520 rfl (by decide) rfl (nI_toInt (by omega))
                                          have hP : va_P D vwCl ([(za, (b13_0 0 z1 (nI z2) (nI z3) z4 z5 z6 z7 z8 z9 (nI z10) z11 z12 z13 z14 z15 (nI zgw478) z17 z18 z19))] ++ va_pl L M_534) H_526 := by rw [eM_534]; exact hP
                                          have hD : va_D A ([(za, (b13_0 0 z1 (nI z2) (nI z3) z4 z5 z6 z7 z8 z9 (nI z10) z11 z12 z13 z14 z15 (nI zgw478) z17 z18 z19))] ++ va_pl L M_534) := by rw [eM_534]; exact hD
                                          have hW : WOM cy K L M_534 := by rw [eM_534]; exact hW.up_12 hb_15 ⟨_, rfl, hn_530, hk_528⟩
                                          have hF : fr K L [12, 14, 15, 32, 42, 45, 46, 79, 80, 81, 83] M M_534 := by rw [eM_534]; exact hF.up hb_15 (by decide)
                                          have hG : fG K L [1, 7, 8, 13, 14, 15, 16, 17, 18] M M_534 := by rw [eM_534]; exact hG.up hM_525 (by decide)
                                          have hM_535 : M_534 b13 = .inr (12, (((fs492.set 7 (.long 0)).set 15 (.int 0)).set 16 (.int 0)).set 1 (.int (nI c_393))) := by rw [eM_534]; exact va_up_self _ _ _
                                          refine lv_aload_n hx hb dX13_close_328 rfl (lv_at hl 5 rfl) ?_
                                          refine lv_dup hx hb dX13_close_329 rfl ?_
                                          obtain ⟨v536, hv536, hc536⟩ : ∃ v : Nat, ((((fs492.set 7 (.long 0)).set 15 (.int 0)).set 16 (.int 0)).set 1 (.int (nI c_393)))[13]? = some (.int (nI v) : Value) ∧ v ≤ 12 := hk_528 13 (by decide)
                                          refine pg_getN (D := D) (ci := 12) (v := .int (nI v536)) (C := RX12) (T := TX12) (N := 51) hx hb hg inG12 hown hK hP hb_15.1 hM_535 rfl 13 (by decide) (hN.use (Cond.fieldLinkNest RX13 244 RX12 "closed" "I" RX13) 22 rfl rfl) (fun _ h9 => h9) hv536 dX13_close_330 ?_
                                          have hx13 : (fx M b13 13) = ((v536 : Nat) : Int) := (congrFun hV.2.1 13).symm.trans ((fx_of hM_535 rfl hv536).trans (nI_toInt (by omega)))
                                          refine lv_iconst (v := 1) hx hb dX13_close_333 (by decide) ?_
                                          refine lv_iadd hx hb dX13_close_334 ?_
                                          refine lv_topi (fun f_537 ef_537 => ?_)
                                          obtain rfl : f_537 = (nI (v536 + 1)) := ef_537.trans (nI_add v536 1)
                                          refine pg_putN (D := D) (ci := 12) (v := .int (nI (v536 + 1))) (ty := .int) (C := RX12) (T := TX12) (N := 51) hx hb hg inG12 tyX12 tyX12_ok nmX12 hown hK hP hD hS hb_15.1 hM_535 rfl 13 (by decide) (hN.use (Cond.fieldLinkNest RX13 244 RX12 "closed" "I" RX13) 22 rfl rfl) (fun _ h9 => h9) rfl (by decide +kernel) rfl rfl (by rw [hn_530]; decide) dX13_close_335 (fun H_538 locs hP hD hS => ?_)
                                          have hs_541 : (((((fs492.set 7 (.long 0)).set 15 (.int 0)).set 16 (.int 0)).set 1 (.int (nI c_393))).set 13 (.int (nI (v536 + 1))))[13]? = some (.int (nI (v536 + 1))) := List.getElem?_set_self (by rw [hn_530]; decide)
                                          have hk_540 := fld12_set (k := 13) (w := .int (nI (v536 + 1))) hk_528 (show fld12 K L 13 (((((fs492.set 7 (.long 0)).set 15 (.int 0)).set 16 (.int 0)).set 1 (.int (nI c_393))).set 13 (.int (nI (v536 + 1)))) from ⟨(v536 + 1), hs_541, by omega⟩)
                                          have hn_542 : (((((fs492.set 7 (.long 0)).set 15 (.int 0)).set 16 (.int 0)).set 1 (.int (nI c_393))).set 13 (.int (nI (v536 + 1)))).length = 51 := by rw [List.length_set]; exact hn_530
                                          have hv_543 : (((((fs492.set 7 (.long 0)).set 15 (.int 0)).set 16 (.int 0)).set 1 (.int (nI c_393))).set 13 (.int (nI (v536 + 1))))[7]? = some (.long 0) := by rw [List.getElem?_set_ne (by decide)]; exact hv_531
                                          have hv_544 : (((((fs492.set 7 (.long 0)).set 15 (.int 0)).set 16 (.int 0)).set 1 (.int (nI c_393))).set 13 (.int (nI (v536 + 1))))[15]? = some (.int (nI 0)) := by rw [List.getElem?_set_ne (by decide)]; exact hv_532
                                          have hv_545 : (((((fs492.set 7 (.long 0)).set 15 (.int 0)).set 16 (.int 0)).set 1 (.int (nI c_393))).set 13 (.int (nI (v536 + 1))))[16]? = some (.int (nI 0)) := by rw [List.getElem?_set_ne (by decide)]; exact hv_533
                                          have hv_546 : (((((fs492.set 7 (.long 0)).set 15 (.int 0)).set 16 (.int 0)).set 1 (.int (nI c_393))).set 13 (.int (nI (v536 + 1))))[1]? = some (.int (nI c_393)) := by rw [List.getElem?_set_ne (by decide)]; exact hs_529
                                          have hb_547 : (v536 + 1) ≤ 12 := by omega
                                          obtain ⟨M_548, eM_548⟩ : ∃ M1 : Hp, M1 = va_up M_534 b13 (.inr (12, ((((fs492.set 7 (.long 0)).set 15 (.int 0)).set 16 (.int 0)).set 1 (.int (nI c_393))).set 13 (.int (nI (v536 + 1))))) := ⟨_, rfl⟩
                                          have hx13 : (fx M b13 13) = ((v536 : Nat) : Int) := (congrFun hV.2.1 13).symm.trans ((fx_of hM_535 rfl hv536).trans (nI_toInt (by omega)))
                                          have hV : VW K L M M_548 b13 (va_up (va_up (va_up (va_up (va_up (va_up (fx M b13) 17 ((gnw478 : Nat) : Int)) 14 ((n_494 : Nat) : Int)) 15 (0 : Int)) 16 (0 : Int)) 1 ((c_393 : Nat) : Int)) 13 (((v536 + 1) : Nat) : Int)) (va_up (va_up (va_up (va_up (va_up (ax M b13) 44 gpw478) 45 gqw478) 38 p_495) 39 q_496) 40 r_497) := by rw [eM_548]; exact hV.put hW hb_15 hM_535 hn_530 rfl (by decide) rfl (nI_toInt (by omega))
                                          have hP : va_P D vwCl ([(za, (b13_0 0 z1 (nI z2) (nI z3) z4 z5 z6 z7 z8 z9 (nI z10) z11 z12 z13 z14 z15 (nI zgw478) z17 z18 z19))] ++ va_pl L M_548) H_538 := by rw [eM_548]; exact hP
                                          have hD : va_D A ([(za, (b13_0 0 z1 (nI z2) (nI z3) z4 z5 z6 z7 z8 z9 (nI z10) z11 z12 z13 z14 z15 (nI zgw478) z17 z18 z19))] ++ va_pl L M_548) := by rw [eM_548]; exact hD
                                          have hW : WOM cy K L M_548 := by rw [eM_548]; exact hW.up_12 hb_15 ⟨_, rfl, hn_542, hk_540⟩
                                          have hF : fr K L [12, 14, 15, 32, 42, 45, 46, 79, 80, 81, 83] M M_548 := by rw [eM_548]; exact hF.up hb_15 (by decide)
                                          have hG : fG K L [1, 7, 8, 13, 14, 15, 16, 17, 18] M M_548 := by rw [eM_548]; exact hG.up hM_535 (by decide)
                                          have hM_549 : M_548 b13 = .inr (12, ((((fs492.set 7 (.long 0)).set 15 (.int 0)).set 16 (.int 0)).set 1 (.int (nI c_393))).set 13 (.int (nI (v536 + 1)))) := by rw [eM_548]; exact va_up_self _ _ _
                                          refine lv_aload_n hx hb dX13_close_338 rfl (lv_at hl 5 rfl) ?_
                                          refine lv_iconst (v := 1) hx hb dX13_close_339 (by decide) ?_
                                          refine pg_putN (D := D) (ci := 12) (v := .int 1) (ty := .boolean) (C := RX12) (T := TX12) (N := 51) hx hb hg inG12 tyX12 tyX12_ok nmX12 hown hK hP hD hS hb_15.1 hM_549 rfl 18 (by decide) (hN.use (Cond.fieldLinkNest RX13 288 RX12 "hasClosed" "Z" RX13) 27 rfl rfl) (fun _ h9 => h9) rfl (by decide +kernel) rfl rfl (by rw [hn_542]; decide) dX13_close_340 (fun H_550 locs hP hD hS => ?_)
                                          have hs_553 : ((((((fs492.set 7 (.long 0)).set 15 (.int 0)).set 16 (.int 0)).set 1 (.int (nI c_393))).set 13 (.int (nI (v536 + 1)))).set 18 (.int 1))[18]? = some (.int 1) := List.getElem?_set_self (by rw [hn_542]; decide)
                                          have hk_552 := fld12_set (k := 18) (w := .int 1) hk_540 (show fld12 K L 18 ((((((fs492.set 7 (.long 0)).set 15 (.int 0)).set 16 (.int 0)).set 1 (.int (nI c_393))).set 13 (.int (nI (v536 + 1)))).set 18 (.int 1)) from ⟨1, hs_553, by decide⟩)
                                          have hn_554 : ((((((fs492.set 7 (.long 0)).set 15 (.int 0)).set 16 (.int 0)).set 1 (.int (nI c_393))).set 13 (.int (nI (v536 + 1)))).set 18 (.int 1)).length = 51 := by rw [List.length_set]; exact hn_542
                                          have hv_555 : ((((((fs492.set 7 (.long 0)).set 15 (.int 0)).set 16 (.int 0)).set 1 (.int (nI c_393))).set 13 (.int (nI (v536 + 1)))).set 18 (.int 1))[7]? = some (.long 0) := by rw [List.getElem?_set_ne (by decide)]; exact hv_543
                                          have hv_556 : ((((((fs492.set 7 (.long 0)).set 15 (.int 0)).set 16 (.int 0)).set 1 (.int (nI c_393))).set 13 (.int (nI (v536 + 1)))).set 18 (.int 1))[15]? = some (.int (nI 0)) := by rw [List.getElem?_set_ne (by decide)]; exact hv_544
                                          have hv_557 : ((((((fs492.set 7 (.long 0)).set 15 (.int 0)).set 16 (.int 0)).set 1 (.int (nI c_393))).set 13 (.int (nI (v536 + 1)))).set 18 (.int 1))[16]? = some (.int (nI 0)) := by rw [List.getElem?_set_ne (by decide)]; exact hv_545
                                          have hv_558 : ((((((fs492.set 7 (.long 0)).set 15 (.int 0)).set 16 (.int 0)).set 1 (.int (nI c_393))).set 13 (.int (nI (v536 + 1)))).set 18 (.int 1))[1]? = some (.int (nI c_393)) := by rw [List.getElem?_set_ne (by decide)]; exact hv_546
                                          have hv_559 : ((((((fs492.set 7 (.long 0)).set 15 (.int 0)).set 16 (.int 0)).set 1 (.int (nI c_393))).set 13 (.int (nI (v536 + 1)))).set 18 (.int 1))[13]? = some (.int (nI (v536 + 1))) := by rw [List.getElem?_set_ne (by decide)]; exact hs_541
                                          obtain ⟨M_560, eM_560⟩ : ∃ M1 : Hp, M1 = va_up M_548 b13 (.inr (12, (((((fs492.set 7 (.long 0)).set 15 (.int 0)).set 16 (.int 0)).set 1 (.int (nI c_393))).set 13 (.int (nI (v536 + 1)))).set 18 (.int 1))) := ⟨_, rfl⟩
                                          have hV : VW K L M M_560 b13 (va_up (va_up (va_up (va_up (va_up (va_up (va_up (fx M b13) 17 ((gnw478 : Nat) : Int)) 14 ((n_494 : Nat) : Int)) 15 (0 : Int)) 16 (0 : Int)) 1 ((c_393 : Nat) : Int)) 13 (((v536 + 1) : Nat) : Int)) 18 (1 : Int)) (va_up (va_up (va_up (va_up (va_up (ax M b13) 44 gpw478) 45 gqw478) 38 p_495) 39 q_496) 40 r_497) := by rw [eM_560]; exact hV.put hW hb_15 hM_549 hn_542 rfl (by decide) rfl (by decide)
                                          have hP : va_P D vwCl ([(za, (b13_0 0 z1 (nI z2) (nI z3) z4 z5 z6 z7 z8 z9 (nI z10) z11 z12 z13 z14 z15 (nI zgw478) z17 z18 z19))] ++ va_pl L M_560) H_550 := by rw [eM_560]; exact hP
                                          have hD : va_D A ([(za, (b13_0 0 z1 (nI z2) (nI z3) z4 z5 z6 z7 z8 z9 (nI z10) z11 z12 z13 z14 z15 (nI zgw478) z17 z18 z19))] ++ va_pl L M_560) := by rw [eM_560]; exact hD
                                          have hW : WOM cy K L M_560 := by rw [eM_560]; exact hW.up_12 hb_15 ⟨_, rfl, hn_554, hk_552⟩
                                          have hF : fr K L [12, 14, 15, 32, 42, 45, 46, 79, 80, 81, 83] M M_560 := by rw [eM_560]; exact hF.up hb_15 (by decide)
                                          have hG : fG K L [1, 7, 8, 13, 14, 15, 16, 17, 18] M M_560 := by rw [eM_560]; exact hG.up hM_549 (by decide)
                                          have hM_561 : M_560 b13 = .inr (12, (((((fs492.set 7 (.long 0)).set 15 (.int 0)).set 16 (.int 0)).set 1 (.int (nI c_393))).set 13 (.int (nI (v536 + 1)))).set 18 (.int 1)) := by rw [eM_560]; exact va_up_self _ _ _
                                          refine lv_aload_n hx hb dX13_close_343 rfl (lv_at hl 6 rfl) ?_
                                          refine lv_aload_n hx hb dX13_close_344 rfl (lv_at hl 5 rfl) ?_
                                          refine lv_iload hx hb dX13_close_345 (lv_at hl 3 rfl) ?_
                                          have hPc : va_P D vwCl ([(za, (b13_0 0 z1 (nI z2) (nI z3) z4 z5 z6 z7 z8 z9 (nI z10) z11 z12 z13 z14 z15 (nI zgw478) z17 z18 z19))] ++ va_pl L M_560) H_550 := hP
                                          have hDc : va_D A ([(za, (b13_0 0 z1 (nI z2) (nI z3) z4 z5 z6 z7 z8 z9 (nI z10) z11 z12 z13 z14 z15 (nI zgw478) z17 z18 z19))] ++ va_pl L M_560) := hD
                                          have hFc : ∀ q, va_A ([(za, (b13_0 0 z1 (nI z2) (nI z3) z4 z5 z6 z7 z8 z9 (nI z10) z11 z12 z13 z14 z15 (nI zgw478) z17 z18 z19))] ++ va_pl L M_560) H_550.size q → A q := pg_free hDc hS hA
                                          refine va_callv (va_runV (As := [.ref b13, .int (nI c_393)]) (rest := []) ⟨hx, hb, hml, hown, hg⟩ (g_X13_incomes l D cy K L M_560 H_550.size za 0 z1 z2 z3 z4 z5 z6 z7 z8 z9 z10 z11 z12 z13 z14 z15 zgw478 z17 z18 z19 b13 c_393  hW i1 b2 b3 i6 i7 i8 i9 b10 i11 i12 i13 i14 i15 (by omega) i17 i19 hb_15 hc_394 (R5.mv hR5 i6 i7 hF (by decide) (by decide))) (cwV 2 hg (gV wd_864 wd_865 wd_866 wd_717 wd_867) rfl rfl rfl (by decide +kernel) ⟨(Nat.le_trans (Nat.le_of_ble_eq_true rfl) hRf), (Nat.le_trans (Nat.le_of_ble_eq_true rfl) hRl)⟩) ⟨PG.blind, va_recv hK hP (ci := 13) (q0 := 0) rfl rfl, fun U hU hW => ⟨rfl, PG.at hPc hK hDc hN hU hW⟩⟩ rfl rfl hl.1 rfl (lv_room (Nat.le_of_ble_eq_true rfl)) dX13_close_347 ⟨(Nat.le_trans (Nat.le_of_ble_eq_true rfl) hRc), (Nat.le_trans (Nat.le_of_ble_eq_true rfl) hRs)⟩) hS (fun q _ h => hFc q h) hFc (fun M_564 t H_562 locs ht hvm hw hB hz1 hk1 hS => ?_)
                                          have hWb := hW
                                          obtain ⟨hW, hF2, hG2, hp_565⟩ := hw
                                          obtain ⟨hP1, hD1⟩ := hB
                                          rw [ht] at hP1
                                          have hP : va_P D vwCl ([(za, (b13_0 0 z1 (nI z2) (nI z3) z4 z5 z6 z7 z8 z9 (nI z10) z11 z12 z13 z14 z15 (nI zgw478) z17 z18 z19))] ++ va_pl L M_564) H_562 := hP1
                                          have hD : va_D A ([(za, (b13_0 0 z1 (nI z2) (nI z3) z4 z5 z6 z7 z8 z9 (nI z10) z11 z12 z13 z14 z15 (nI zgw478) z17 z18 z19))] ++ va_pl L M_564) := hD1.mono hFc
                                          obtain ⟨fs566, hM566, hn566, hl566⟩ := hW.open_12 hb_15
                                          have hv_567 : fs566[15]? = some (.int (nI 0) : Value) := (hG2 _ hb_15 _ _ hM_561 hM566 15 (by decide)).trans hv_556
                                          have hv_568 : fs566[16]? = some (.int (nI 0) : Value) := (hG2 _ hb_15 _ _ hM_561 hM566 16 (by decide)).trans hv_557
                                          have hv_569 : fs566[1]? = some (.int (nI c_393) : Value) := (hG2 _ hb_15 _ _ hM_561 hM566 1 (by decide)).trans hv_558
                                          have hv_570 : fs566[13]? = some (.int (nI (v536 + 1)) : Value) := (hG2 _ hb_15 _ _ hM_561 hM566 13 (by decide)).trans hv_559
                                          have hv_571 : fs566[18]? = some (.int 1 : Value) := (hG2 _ hb_15 _ _ hM_561 hM566 18 (by decide)).trans hs_553
                                          have hF : fr K L [12, 14, 15, 32, 42, 45, 46, 79, 80, 81, 83] M M_564 := hF.tr hF2 (by decide)
                                          have hG : fG K L [1, 7, 8, 13, 14, 15, 16, 17, 18] M M_564 := hG.tr hWb hG2 (by decide)
                                          have hV : VW K L M M_564 b13 (va_up (va_up (va_up (va_up (va_up (va_up (va_up (fx M b13) 17 ((gnw478 : Nat) : Int)) 14 ((n_494 : Nat) : Int)) 15 (0 : Int)) 16 (0 : Int)) 1 ((c_393 : Nat) : Int)) 13 (((v536 + 1) : Nat) : Int)) 18 (1 : Int)) (va_up (va_up (va_up (va_up (va_up (ax M b13) 44 gpw478) 45 gqw478) 38 p_495) 39 q_496) 40 r_497) := hV.cal hWb hW hF2 hG2 (by decide) (by decide) hb_15
                                          refine lv_aload_n hx hb dX13_close_350 rfl (lv_at hl 5 rfl) ?_
                                          refine lv_iload hx hb dX13_close_351 (lv_at hl 3 rfl) ?_
                                          have hPc : va_P D vwCl ([] ++ va_pl L M_564) H_562 := hP.part (cx := []) [] rfl
                                          have hDc : va_D A ([] ++ va_pl L M_564) := hD.part (cx := []) [] (by decide) rfl
                                          have hFc : ∀ q, va_A ([] ++ va_pl L M_564) H_562.size q → A q := pg_free hDc hS hA
                                          refine va_callv (va_runS (As := [.ref b13, .int (nI c_393)]) (rest := []) ⟨hx, hb, hml, hown, hg⟩ (z_ends l D cy K L M_564 H_562.size b13 c_393  hW hb_15 hc_394 hV.2.2.2 (by rw [hV.2.1, hV.2.2.1]; exact hAT.2.2.1)) (va_cwS 2 hg (gS wd_868 wd_869 wd_717 wd_870) rfl rfl rfl (by decide +kernel) ⟨(Nat.le_trans (Nat.le_of_ble_eq_true rfl) hRf), (Nat.le_trans (Nat.le_of_ble_eq_true rfl) hRl)⟩) ⟨PG.blind, fun U hU hW => ⟨rfl, PG.at hPc hK hDc hN hU hW⟩⟩ rfl rfl hl.1 rfl (lv_room (Nat.le_of_ble_eq_true rfl)) dX13_close_353 ⟨(Nat.le_trans (Nat.le_of_ble_eq_true rfl) hRc), (Nat.le_trans (Nat.le_of_ble_eq_true rfl) hRs)⟩) hS (fun q _ h => hFc q h) hFc (fun M_574 t H_572 locs ht hvm hw hB hz1 hk1 hS => ?_)
                                          have hWb := hW
                                          obtain ⟨hW, hF2, hG2, hVP, hp_575⟩ := hw
                                          obtain ⟨hP1, hD1⟩ := hB
                                          rw [ht] at hP1
                                          obtain ⟨hP, hD⟩ := va_joinP (X := [(za, (b13_0 0 z1 (nI z2) (nI z3) z4 z5 z6 z7 z8 z9 (nI z10) z11 z12 z13 z14 z15 (nI zgw478) z17 z18 z19))]) (cx := []) (wr := [(za, (b13_0 0 z1 (nI z2) (nI z3) z4 z5 z6 z7 z8 z9 (nI z10) z11 z12 z13 z14 z15 (nI zgw478) z17 z18 z19))]) (rx := []) (pl := va_pl L M_564) (pl1 := va_pl L M_574) hP hD [] [0] rfl rfl (by decide) (by decide) hk1 hFc hP1 hD1
                                          have hP : va_P D vwCl ([(za, (b13_0 0 z1 (nI z2) (nI z3) z4 z5 z6 z7 z8 z9 (nI z10) z11 z12 z13 z14 z15 (nI zgw478) z17 z18 z19))] ++ va_pl L M_574) H_572 := hP
                                          have hD : va_D A ([(za, (b13_0 0 z1 (nI z2) (nI z3) z4 z5 z6 z7 z8 z9 (nI z10) z11 z12 z13 z14 z15 (nI zgw478) z17 z18 z19))] ++ va_pl L M_574) := hD
                                          have hM_576 : M_574 b13 = .inr (12, fs566) := (hF2.at hb_15 (by decide)).trans hM566
                                          have hF : fr K L [12, 14, 15, 32, 42, 45, 46, 79, 80, 81, 83] M M_574 := hF.tr hF2 (by decide)
                                          have hG : fG K L [1, 7, 8, 13, 14, 15, 16, 17, 18] M M_574 := hG.tr hWb hG2 (by decide)
                                          obtain ⟨g_577, hg23, hV2⟩ := hVP
                                          rw [hV.2.1, hV.2.2.1] at hg23
                                          rw [hV.2.1, hV.2.2.1] at hV2
                                          have hV : VW K L M M_574 b13 (va_up (va_up (va_up (va_up (va_up (va_up (va_up (fx M b13) 17 ((gnw478 : Nat) : Int)) 14 ((n_494 : Nat) : Int)) 15 (0 : Int)) 16 (0 : Int)) 1 ((c_393 : Nat) : Int)) 13 (((v536 + 1) : Nat) : Int)) 18 (1 : Int)) (va_up (va_up (va_up (va_up (va_up (va_up (ax M b13) 44 gpw478) 45 gqw478) 38 p_495) 39 q_496) 40 r_497) 23 g_577) := hV.tr hV2
                                          refine lv_aload_n hx hb dX13_close_356 rfl (lv_at hl 6 rfl) ?_
                                          refine lv_aload_n hx hb dX13_close_357 rfl (lv_at hl 5 rfl) ?_
                                          refine pg_getN (D := D) (ci := 12) (v := .int (nI (v536 + 1))) (C := RX12) (T := TX12) (N := 51) hx hb hg inG12 hown hK hP hb_15.1 hM_576 rfl 13 (by decide) (hN.use (Cond.fieldLinkNest RX13 244 RX12 "closed" "I" RX13) 22 rfl rfl) (fun _ h9 => h9) hv_570 dX13_close_358 ?_
                                          have hx13 : (((v536 + 1) : Nat) : Int) = (((v536 + 1) : Nat) : Int) := (congrFun hV.2.1 13).symm.trans ((fx_of hM_576 rfl hv_570).trans (nI_toInt (by omega)))
                                          refine lv_iconst (v := 1) hx hb dX13_close_361 (by decide) ?_
                                          refine lv_isub hx hb dX13_close_362 ?_
                                          refine lv_topi (fun f_578 ef_578 => ?_)
                                          obtain rfl : f_578 = (nI ((v536 + 1) - 1)) := ef_578.trans (nI_prd (by omega))
                                          have hPc := hP.sub (ws' := [(za, (b13_0 0 z1 (nI z2) (nI z3) z4 z5 z6 z7 z8 z9 (nI z10) z11 z12 z13 z14 z15 (nI zgw478) z17 z18 z19))]) [0] rfl
                                          have hDc := hD.sub (ws' := [(za, (b13_0 0 z1 (nI z2) (nI z3) z4 z5 z6 z7 z8 z9 (nI z10) z11 z12 z13 z14 z15 (nI zgw478) z17 z18 z19))]) [0] (by decide) rfl
                                          have hKc := hK.sub (tys' := []) [] rfl
                                          have hFc := va_free (wc := [(za, (b13_0 0 z1 (nI z2) (nI z3) z4 z5 z6 z7 z8 z9 (nI z10) z11 z12 z13 z14 z15 (nI zgw478) z17 z18 z19))]) hD hS hA [0] rfl
                                          refine va_calli (va_runV (As := [.int (nI ((v536 + 1) - 1))]) (rest := []) ⟨hx, hb, hml, hown, hg⟩ (m_done l D H_572.size za 0 z1 (nI z2) (nI z3) z4 z5 z6 z7 z8 z9 (nI z10) z11 z12 z13 z14 z15 (nI zgw478) z17 z18 z19 (nI ((v536 + 1) - 1))) (cwV 1 hg (gV wd_730 wd_731 wd_732 wd_717 wd_733) rfl rfl rfl (by decide +kernel) ⟨(Nat.le_trans (Nat.le_of_ble_eq_true rfl) hRf), (Nat.le_trans (Nat.le_of_ble_eq_true rfl) hRl)⟩) ⟨Pr.blind, va_recv hK hP (ci := 13) (q0 := 0) rfl rfl, fun U hU hW => ⟨rfl, Pr.at hPc hKc hDc hN hU hW⟩⟩ rfl rfl hl.1 rfl (lv_room (Nat.le_of_ble_eq_true rfl)) dX13_close_363 ⟨(Nat.le_trans (Nat.le_of_ble_eq_true rfl) hRc), (Nat.le_trans (Nat.le_of_ble_eq_true rfl) hRs)⟩) hS (fun q _ h => hFc q h) hFc (fun r_580 M_581 t H_579 locs ht hvm hw hB hz1 hk1 hS => ?_)
                                          have hp_582 := hw
                                          obtain ⟨hP1, hK1, hD1⟩ := hB
                                          rw [ht] at hP1
                                          obtain ⟨hP, hD⟩ := va_joinQ (X := [(za, (b13_0 0 z1 (nI z2) (nI z3) z4 z5 z6 z7 z8 z9 (nI z10) z11 z12 z13 z14 z15 (nI zgw478) z17 z18 z19))]) (cx := [(za, (b13_0 0 z1 (nI z2) (nI z3) z4 z5 z6 z7 z8 z9 (nI z10) z11 z12 z13 z14 z15 (nI zgw478) z17 z18 z19))]) (wr := []) (w1 := [(za, (b13_0 0 z1 (nI z2) (nI z3) 0 (-1) z6 z7 z8 z9 (nI z10) z11 z12 z13 z14 z15 (nI zgw478) z17 z18 z19))]) (pl := va_pl L M_574) hP hD [0] [] rfl rfl (by decide) (by decide) hk1 hFc hP1 hD1
                                          have hP : va_P D vwCl ([(za, (b13_0 0 z1 (nI z2) (nI z3) 0 (-1) z6 z7 z8 z9 (nI z10) z11 z12 z13 z14 z15 (nI zgw478) z17 z18 z19))] ++ va_pl L M_574) H_579 := hP
                                          have hD : va_D A ([(za, (b13_0 0 z1 (nI z2) (nI z3) 0 (-1) z6 z7 z8 z9 (nI z10) z11 z12 z13 z14 z15 (nI zgw478) z17 z18 z19))] ++ va_pl L M_574) := hD
                                          have hq := Eq.symm hp_582
                                          subst hq
                                          have hI_583 : (24 : Int) ≤ ((v6w441 : Nat) : Int) := ileI rfl (nI_toInt (by omega)) c_446
                                          have hI_584 : ((c_393 : Nat) : Int) < ((v6w451 : Nat) : Int) := iltI (nI_toInt (by omega)) (nI_toInt (by omega)) c_456
                                          have hI_585 : ((v459 : Nat) : Int) ≤ ((v7w468 : Nat) : Int) := ileI (nI_toInt (by omega)) (nI_toInt (by omega)) c_473
                                          have hI_586 : ((v485 : Nat) : Int) ≤ ((v7w478 : Nat) : Int) := ileI (nI_toInt (by omega)) (nI_toInt (by omega)) c_486
                                          have hy4 : ∀ d : Nat, SX (k1 : Int32).toNatClampNeg 1 < (d : Int) → (d : Int) ≤ enD (SX (k1 : Int32).toNatClampNeg) (SY (k1 : Int32).toNatClampNeg) → ¬ opD (SY (k1 : Int32).toNatClampNeg) d := fun d h1 h2 => hall d h1 (by rw [hEd] at h2; omega)
                                          have hy5 : ∀ b, b < z2 → ¬ LAG PK PT SX SY (k1 : Int32).toNatClampNeg (enD (SX (k1 : Int32).toNatClampNeg) (SY (k1 : Int32).toNatClampNeg)) b := by rw [hEd]; have h9 := c_417; rw [nI_toInt (by omega)] at h9; exact h9
                                          have hyes : okCl z2 PK PT SX SY k1 := by unfold okCl okH; refine ⟨⟨?_, ?_⟩, ?_, ?_, ?_, ?_⟩ <;> first | omega | assumption
                                          have hA9 : HA (ax M b13 2) (ax M b13 3) := hAT.1
                                          have hB9 : HB (0 : Int) ((n_494 : Nat) : Int) (ax M b13 3) (ax M b13 43) := HB.zero hAT.2.1.nn.1 hn14
                                          have hC9 : HC (fx M b13 10) (ax M b13 22) g_577 := HC.insg hAT.2.2.1 (fun i hi => hg23 i hi)
                                          have hD9 : HD (fx M b13 0) (fx M b13 11) (0 : Int) (ax M b13 34) (ax M b13 41) := HD.clr hAT.2.2.2.1
                                          have hE9 : HE (fx M b13 0) ((c_393 : Nat) : Int) (fx M b13 12) (((v536 + 1) : Nat) : Int) (ax M b13 37) := HE.close hAT.2.2.2.2 hb13 (by omega) (by omega) (by rw [hT37])
                                          have hH9 : HI (va_up (va_up (va_up (va_up (va_up (va_up (va_up (fx M b13) 17 ((gnw478 : Nat) : Int)) 14 ((n_494 : Nat) : Int)) 15 (0 : Int)) 16 (0 : Int)) 1 ((c_393 : Nat) : Int)) 13 (((v536 + 1) : Nat) : Int)) 18 (1 : Int)) (va_up (va_up (va_up (va_up (va_up (va_up (ax M b13) 44 gpw478) 45 gqw478) 38 p_495) 39 q_496) 40 r_497) 23 g_577) := ⟨hA9, hB9, hC9, hD9, hE9⟩
                                          have hGI9 : GI K L z1 z2 M_574 := GI.fin hW0 i1 b2 hGI hact hV (hF.at i1 (by decide)) hH9
                                          have hX1 : (va_up (va_up (va_up (va_up (va_up (va_up (va_up (fx M b13) 17 ((gnw478 : Nat) : Int)) 14 ((n_494 : Nat) : Int)) 15 (0 : Int)) 16 (0 : Int)) 1 ((c_393 : Nat) : Int)) 13 (((v536 + 1) : Nat) : Int)) 18 (1 : Int)) 1 = ((c_393 : Nat) : Int) := rfl
                                          have hX13 : (va_up (va_up (va_up (va_up (va_up (va_up (va_up (fx M b13) 17 ((gnw478 : Nat) : Int)) 14 ((n_494 : Nat) : Int)) 15 (0 : Int)) 16 (0 : Int)) 1 ((c_393 : Nat) : Int)) 13 (((v536 + 1) : Nat) : Int)) 18 (1 : Int)) 13 = SX (k1 : Int32).toNatClampNeg 13 + 1 := by show (((v536 + 1) : Nat) : Int) = _; omega
                                          have hkp : kpF (nI (c_28 + 1)) (nI c_393) = clk (SX (k1 : Int32).toNatClampNeg 1) ((c_393 : Nat) : Int) := by funext z9; unfold kpF clk; rw [show (decide (nI (c_28 + 1) ≤ z9.2.1)) = decide (SX (k1 : Int32).toNatClampNeg 1 + 1 ≤ z9.2.1.toInt) from decide_eq_decide.mpr (by rw [Int32.le_iff_toInt_le, nI_toInt (by omega)]; omega), show (decide (z9.2.1 ≤ nI c_393)) = decide (z9.2.1.toInt ≤ ((c_393 : Nat) : Int)) from decide_eq_decide.mpr (by rw [Int32.le_iff_toInt_le, nI_toInt (by omega)])]
                                          have hCLF : CLF (enD (SX (k1 : Int32).toNatClampNeg) (SY (k1 : Int32).toNatClampNeg)) (SX (k1 : Int32).toNatClampNeg) (SY (k1 : Int32).toNatClampNeg) (va_up (va_up (va_up (va_up (va_up (va_up (va_up (fx M b13) 17 ((gnw478 : Nat) : Int)) 14 ((n_494 : Nat) : Int)) 15 (0 : Int)) 16 (0 : Int)) 1 ((c_393 : Nat) : Int)) 13 (((v536 + 1) : Nat) : Int)) 18 (1 : Int)) (va_up (va_up (va_up (va_up (va_up (va_up (ax M b13) 44 gpw478) 45 gqw478) 38 p_495) 39 q_496) 40 r_497) 23 g_577) := by
                                            rw [hEd]
                                            refine ⟨congrFun hZk.1 0, hX1, congrFun hZk.1 10, congrFun hZk.1 11, congrFun hZk.1 12, hX13, rfl, rfl, ⟨n_494, rfl, ?_⟩, fun j q23 q38 q39 q40 q44 q45 => ?_, fun i hi => ?_, fun r i => (lKup _ r i _ _ (by decide)).trans ((lKup _ r i _ _ (by decide)).trans ((lKup _ r i _ _ (by decide)).trans ((lKup _ r i _ _ (by decide)).trans ((lKup _ r i _ _ (by decide)).trans ((lKup _ r i _ _ (by decide)).trans ((lKup _ r i _ _ (by decide)).trans (congrFun hZk.1 _)))))))⟩
                                            · rw [← hkp, show (SX (k1 : Int32).toNatClampNeg 14).toNat = n_498 by omega]; rw [← hZk.2]; exact htr8
                                            · rw [← hZk.2]; simp only [va_up_ne _ _ q23, va_up_ne _ _ q38, va_up_ne _ _ q39, va_up_ne _ _ q40, va_up_ne _ _ q44, va_up_ne _ _ q45]
                                            · rw [← hZk.2]; exact (hg23 i (by show (i : Int) < fx M b13 10; omega))
                                          rw [hQ]
                                          exact W.iret (v := (nI ((v536 + 1) - 1))) hx hb hr (fun t ht hW9 => ⟨⟨(nI ((v536 + 1) - 1)), M_574, rfl, ⟨hW, hF, hG, ⟨hGI9, (va_up (va_up (va_up (va_up (va_up (va_up (va_up (fx M b13) 17 ((gnw478 : Nat) : Int)) 14 ((n_494 : Nat) : Int)) 15 (0 : Int)) 16 (0 : Int)) 1 ((c_393 : Nat) : Int)) 13 (((v536 + 1) : Nat) : Int)) 18 (1 : Int)), (va_up (va_up (va_up (va_up (va_up (va_up (ax M b13) 44 gpw478) 45 gqw478) 38 p_495) 39 q_496) 40 r_497) 23 g_577), fun _ => hCLF, (by unfold sxCl syCl; rw [if_pos hyes, if_pos hyes]; exact ZSx.fin hW0 i1 b2 hZS hGI.1 hkn hb9 hV (hF.at i1 (by decide)) rfl rfl)⟩, (by unfold anCl; rw [if_pos hyes]; exact congrArg nI (by omega))⟩, ⟨0, (-1), zgw478, (by omega), (WHR.ok hyes), by rw [ht]; exact hP, hD⟩⟩, hS.F ht⟩) hS.2.2 dX13_close_366
                                        · have hz := rfl (a := 0)
                                          have n_587 : ¬ (v485 ≤ v7w478) := fun q => c_486 ((iLE (a := v485) (b := v7w478) (by omega) (by omega)).mpr q)
                                          obtain ⟨v588, hv588, hc588⟩ : ∃ v : Nat, fs484[17]? = some (.int (nI v) : Value) ∧ v ≤ 120 := hl484 17 (by decide)
                                          have hx17 : ((gnw478 : Nat) : Int) = ((v588 : Nat) : Int) := (congrFun hV.2.1 17).symm.trans ((fx_of hM484 rfl hv588).trans (nI_toInt (by omega)))
                                          have hx15 : (fx M b13 15) = ((v485 : Nat) : Int) := (congrFun hV.2.1 15).symm.trans ((fx_of hM484 rfl hv485).trans (nI_toInt (by omega)))
                                          refine lv_aload_n hx hb dX13_close_287 rfl (lv_at hl 6 rfl) ?_
                                          refine lv_aload_n hx hb dX13_close_288 rfl (lv_at hl 5 rfl) ?_
                                          refine lv_iload hx hb dX13_close_289 (lv_at hl 0 rfl) ?_
                                          have hPc : va_P D vwCl ([(za, (b13_0 0 z1 (nI z2) (nI z3) z4 z5 z6 z7 z8 z9 (nI z10) z11 z12 z13 z14 z15 (nI zgw478) z17 z18 z19))] ++ va_pl L M_482) H_483 := hP
                                          have hDc : va_D A ([(za, (b13_0 0 z1 (nI z2) (nI z3) z4 z5 z6 z7 z8 z9 (nI z10) z11 z12 z13 z14 z15 (nI zgw478) z17 z18 z19))] ++ va_pl L M_482) := hD
                                          have hFc : ∀ q, va_A ([(za, (b13_0 0 z1 (nI z2) (nI z3) z4 z5 z6 z7 z8 z9 (nI z10) z11 z12 z13 z14 z15 (nI zgw478) z17 z18 z19))] ++ va_pl L M_482) H_483.size q → A q := pg_free hDc hS hA
                                          refine va_callv (va_runV (As := [.ref b13, .int (nI v7w478)]) (rest := []) ⟨hx, hb, hml, hown, hg⟩ (g_X13_mended l D cy K L M_482 H_483.size za 0 z1 z2 z3 z4 z5 z6 z7 z8 z9 z10 z11 z12 z13 z14 z15 zgw478 z17 z18 z19 b13 v7w478  hW i1 b2 b3 i6 i7 i8 i9 b10 i11 i12 i13 i14 i15 (by omega) i17 i19 hb_15 (by omega) hV.2.2.2 ⟨_, _, hM484, hv588, by omega⟩ (by rw [hV.2.1]; exact h11) (by rw [hV.2.1, hV.2.2.1]; exact hAT.2.2.2.1) (by rw [hV.2.1]; show ((v7w478 : Nat) : Int) < fx M b13 15; omega)) (cwV 2 hg (gV wd_871 wd_872 wd_873 wd_717 wd_874) rfl rfl rfl (by decide +kernel) ⟨(Nat.le_trans (Nat.le_of_ble_eq_true rfl) hRf), (Nat.le_trans (Nat.le_of_ble_eq_true rfl) hRl)⟩) ⟨PG.blind, va_recv hK hP (ci := 13) (q0 := 0) rfl rfl, fun U hU hW => ⟨rfl, PG.at hPc hK hDc hN hU hW⟩⟩ rfl rfl hl.1 rfl (lv_room (Nat.le_of_ble_eq_true rfl)) dX13_close_291 ⟨(Nat.le_trans (Nat.le_of_ble_eq_true rfl) hRc), (Nat.le_trans (Nat.le_of_ble_eq_true rfl) hRs)⟩) hS (fun q _ h => hFc q h) hFc (fun M_591 t H_589 locs ht hvm hw hB hz1 hk1 hS => ?_)
                                          have hWb := hW
                                          obtain ⟨hW, hF2, hG2, hVP, hp_592⟩ := hw
                                          obtain ⟨w16_593, hg_594, hP1, hD1⟩ := hB
                                          rw [ht] at hP1
                                          have hP : va_P D vwCl ([(za, (b13_0 0 z1 (nI z2) (nI z3) z4 z5 z6 z7 z8 z9 (nI z10) z11 z12 z13 z14 z15 (nI w16_593) z17 z18 z19))] ++ va_pl L M_591) H_589 := hP1
                                          have hD : va_D A ([(za, (b13_0 0 z1 (nI z2) (nI z3) z4 z5 z6 z7 z8 z9 (nI z10) z11 z12 z13 z14 z15 (nI w16_593) z17 z18 z19))] ++ va_pl L M_591) := hD1.mono hFc
                                          obtain ⟨fs595, hM595, hn595, hl595⟩ := hW.open_12 hb_15
                                          have hv_596 : fs595[15]? = some (.int (nI v485) : Value) := (hG2 _ hb_15 _ _ hM484 hM595 15 (by decide)).trans hv485
                                          have hF : fr K L [12, 14, 15, 32, 42, 45, 46, 79, 80, 81, 83] M M_591 := hF.tr hF2 (by decide)
                                          have hG : fG K L [1, 7, 8, 13, 14, 15, 16, 17, 18] M M_591 := hG.tr hWb hG2 (by decide)
                                          obtain ⟨n_597, g_598, g_599, hn17, hV2⟩ := hVP
                                          rw [hV.2.1] at hn17
                                          rw [hV.2.1, hV.2.2.1] at hV2
                                          have hn17 : ((gnw478 : Nat) : Int) = (n_597 : Int) := hn17
                                          have hV : VW K L M M_591 b13 (va_up (va_up (fx M b13) 17 ((gnw478 : Nat) : Int)) 17 ((n_597 + 1 : Nat) : Int)) (va_up (va_up (va_up (va_up (ax M b13) 44 gpw478) 45 gqw478) 44 g_598) 45 g_599) := hV.tr hV2
                                          refine lv_iinc (v := (nI (v7w478 + 1))) (lv' := [(7, .int (nI (v7w478 + 1))), (6, .int (nI v459)), (5, .int (-1)), (4, .int (nI c_393)), (3, .int (nI (c_28 + 1))), (2, .ref b13), (0, .ref za), (1, .int k1)]) hx hb dX13_close_294 hl (k := 0) rfl (nI_1 v7w478) (by decide) rfl (fun ls hl => ?_)
                                          refine lv_goto (tgt := 278) hx hb dX13_close_297 (by decide) ?_
                                          exact ih_476 (v7w478 + 1) w16_593 (n_597 + 1) g_598 g_599 M_591 H_589 _ _ (by omega) (by omega) (by omega) (by omega) hW hF hG (by have h := hV; simp only [va_up_up] at h; rw [va_up_4] at h; exact h) hP hD hS (lv_sub hl [0, 1, 2, 3, 4, 5, 6, 7] rfl)
                                    exact key_475 (24 - 0 + 1) 0 zgw468 gnw451 gpw451 gqw451 M_471 H_472 _ _ (by omega) (by omega) (by omega) (by omega) hW hF hG hV hP hD hS (lv_sub hl [0, 1, 2, 3, 4, 5, 6, 7] rfl)
                                  · have hz := rfl (a := 0)
                                    have n_600 : ¬ (v459 ≤ v7w468) := fun q => c_473 ((iLE (a := v459) (b := v7w468) (by omega) (by omega)).mpr q)
                                    refine lv_aload_n hx hb dX13_close_261 rfl (lv_at hl 6 rfl) ?_
                                    refine lv_aload_n hx hb dX13_close_262 rfl (lv_at hl 5 rfl) ?_
                                    refine lv_iload hx hb dX13_close_263 (lv_at hl 0 rfl) ?_
                                    refine lv_iload_n hx hb dX13_close_265 rfl (lv_at hl 4 rfl) ?_
                                    have hPc : va_P D vwCl ([(za, (b13_0 0 z1 (nI z2) (nI z3) z4 z5 z6 z7 z8 z9 (nI z10) z11 z12 z13 z14 z15 (nI zgw468) z17 z18 z19))] ++ va_pl L M_471) H_472 := hP
                                    have hDc : va_D A ([(za, (b13_0 0 z1 (nI z2) (nI z3) z4 z5 z6 z7 z8 z9 (nI z10) z11 z12 z13 z14 z15 (nI zgw468) z17 z18 z19))] ++ va_pl L M_471) := hD
                                    have hFc : ∀ q, va_A ([(za, (b13_0 0 z1 (nI z2) (nI z3) z4 z5 z6 z7 z8 z9 (nI z10) z11 z12 z13 z14 z15 (nI zgw468) z17 z18 z19))] ++ va_pl L M_471) H_472.size q → A q := pg_free hDc hS hA
                                    refine va_callv (va_runV (As := [.ref b13, .int (nI v7w468), .int (nI (c_28 + 1))]) (rest := []) ⟨hx, hb, hml, hown, hg⟩ (g_X13_stretch l D cy K L M_471 H_472.size za 0 z1 z2 z3 z4 z5 z6 z7 z8 z9 z10 z11 z12 z13 z14 z15 zgw468 z17 z18 z19 b13 v7w468 (nI (c_28 + 1))  hW i1 b2 b3 i6 i7 i8 i9 b10 i11 i12 i13 i14 i15 (by omega) i17 i19 hb_15 (by omega) hV.2.2.2 (by rw [hV.2.1]; exact h11) (by rw [hV.2.1, hV.2.2.1]; exact hAT.2.2.2.1.1 h11) (by have hq9 := hs4 v7w468 (by omega); rw [hV.2.1, hV.2.2.1]; show fx M b13 0 ≤ (gpw451 v7w468).toInt; omega) (by have hq9 := hs4 v7w468 (by omega); rw [hV.2.2.1]; show (gpw451 v7w468).toInt + (gqw451 v7w468).toInt ≤ 1000; omega)) (cwV 3 hg (gV wd_875 wd_876 wd_877 wd_717 wd_878) rfl rfl rfl (by decide +kernel) ⟨(Nat.le_trans (Nat.le_of_ble_eq_true rfl) hRf), (Nat.le_trans (Nat.le_of_ble_eq_true rfl) hRl)⟩) ⟨PG.blind, va_recv hK hP (ci := 13) (q0 := 0) rfl rfl, fun U hU hW => ⟨rfl, PG.at hPc hK hDc hN hU hW⟩⟩ rfl rfl hl.1 rfl (lv_room (Nat.le_of_ble_eq_true rfl)) dX13_close_266 ⟨(Nat.le_trans (Nat.le_of_ble_eq_true rfl) hRc), (Nat.le_trans (Nat.le_of_ble_eq_true rfl) hRs)⟩) hS (fun q _ h => hFc q h) hFc (fun M_603 t H_601 locs ht hvm hw hB hz1 hk1 hS => ?_)
                                    have hWb := hW
                                    obtain ⟨hW, hF2, hG2, hp_604⟩ := hw
                                    obtain ⟨w16_605, hg_606, hP1, hD1⟩ := hB
                                    rw [ht] at hP1
                                    have hP : va_P D vwCl ([(za, (b13_0 0 z1 (nI z2) (nI z3) z4 z5 z6 z7 z8 z9 (nI z10) z11 z12 z13 z14 z15 (nI w16_605) z17 z18 z19))] ++ va_pl L M_603) H_601 := hP1
                                    have hD : va_D A ([(za, (b13_0 0 z1 (nI z2) (nI z3) z4 z5 z6 z7 z8 z9 (nI z10) z11 z12 z13 z14 z15 (nI w16_605) z17 z18 z19))] ++ va_pl L M_603) := hD1.mono hFc
                                    have hF : fr K L [12, 14, 15, 32, 42, 45, 46, 79, 80, 81, 83] M M_603 := hF.tr hF2 (by decide)
                                    have hG : fG K L [1, 7, 8, 13, 14, 15, 16, 17, 18] M M_603 := hG.tr hWb hG2 (by decide)
                                    have hV : VW K L M M_603 b13 (va_up (fx M b13) 17 ((gnw451 : Nat) : Int)) (va_up (va_up (ax M b13) 44 gpw451) 45 gqw451) := hV.cal hWb hW hF2 hG2 (by decide) (by decide) hb_15
                                    refine lv_iinc (v := (nI (v7w468 + 1))) (lv' := [(7, .int (nI (v7w468 + 1))), (6, .int (nI v459)), (5, .int (-1)), (4, .int (nI c_393)), (3, .int (nI (c_28 + 1))), (2, .ref b13), (0, .ref za), (1, .int k1)]) hx hb dX13_close_269 hl (k := 0) rfl (nI_1 v7w468) (by decide) rfl (fun ls hl => ?_)
                                    refine lv_goto (tgt := 254) hx hb dX13_close_272 (by decide) ?_
                                    exact ih_466 (v7w468 + 1) w16_605 M_603 H_601 _ _ (by omega) (by omega) (by omega) hW hF hG hV hP hD hS (lv_sub hl [0, 1, 2, 3, 4, 5, 6, 7] rfl)
                              exact key_465 (1001 - 0 + 1) 0 z16 M_462 H_460 _ _ (by omega) (by omega) (by omega) hW hF hG hV hP hD hS (lv_sub hl [0, 1, 2, 3, 4, 5, 6, 7] rfl)
                            · have hz := rfl (a := 0)
                              have n_607 : ¬ (c_393 < v6w451) := fun q => c_456 ((iLT (a := c_393) (b := v6w451) (by omega) (by omega)).mpr q)
                              obtain ⟨fs608, hM608, hn608, hl608⟩ := hW.open_12 hb_15
                              obtain ⟨v609, hv609, hc609⟩ : ∃ v : Nat, fs608[17]? = some (.int (nI v) : Value) ∧ v ≤ 120 := hl608 17 (by decide)
                              have hx17 : ((gnw451 : Nat) : Int) = ((v609 : Nat) : Int) := (congrFun hV.2.1 17).symm.trans ((fx_of hM608 rfl hv609).trans (nI_toInt (by omega)))
                              obtain ⟨v610, hv610, hc610⟩ : ∃ v : Nat, fs608[44]? = some (.ref v : Value) ∧ isk K L v 45 120 := hl608 44 (by decide)
                              obtain ⟨f611, hM611, hf611⟩ := hW.open_45 hc610
                              have hy44 : gpw451 = f611 := (congrFun hV.2.2.1 44).symm.trans (ax_of hM608 (by decide) hv610 hM611)
                              obtain ⟨v612, hv612, hc612⟩ : ∃ v : Nat, fs608[45]? = some (.ref v : Value) ∧ isk K L v 46 120 := hl608 45 (by decide)
                              obtain ⟨f613, hM613, hf613⟩ := hW.open_46 hc612
                              have hy45 : gqw451 = f613 := (congrFun hV.2.2.1 45).symm.trans (ax_of hM608 (by decide) hv612 hM613)
                              have hSD := hx_453
                              obtain ⟨hs1, hs2, hs3, hs4⟩ := hx_453
                              have hgn : v609 = gnw451 := by omega
                              refine lv_iload hx hb dX13_close_171 (lv_at hl 0 rfl) ?_
                              refine lv_iload_n hx hb dX13_close_173 rfl (lv_at hl 3 rfl) ?_
                              refine lv_icmp_eq (tgt := 186) hx hb dX13_close_174 (by decide) (fun c_614 => ?_) (fun c_614 => ?_)
                              · have hz := rfl (a := 0)
                                have n_615 : v6w451 = (c_28 + 1) := (iEQ (a := v6w451) (b := (c_28 + 1)) (by omega) (by omega)).mp c_614
                                refine lv_aload_n hx hb dX13_close_186 rfl (lv_at hl 4 rfl) ?_
                                refine pg_getN (D := D) (ci := 12) (v := .ref v610) (C := RX12) (T := TX12) (N := 51) hx hb hg inG12 hown hK hP hb_15.1 hM608 rfl 44 (by decide) (hN.use (Cond.fieldLinkNest RX13 265 RX12 "stretchDay" "[I" RX13) 53 rfl rfl) (fun _ h9 => h9) hv610 dX13_close_187 ?_
                                refine lv_aload_n hx hb dX13_close_190 rfl (lv_at hl 4 rfl) ?_
                                refine pg_getN (D := D) (ci := 12) (v := .int (nI v609)) (C := RX12) (T := TX12) (N := 51) hx hb hg inG12 hown hK hP hb_15.1 hM608 rfl 17 (by decide) (hN.use (Cond.fieldLinkNest RX13 256 RX12 "stretches" "I" RX13) 26 rfl rfl) (fun _ h9 => h9) hv609 dX13_close_191 ?_
                                refine lv_iload hx hb dX13_close_194 (lv_at hl 0 rfl) ?_
                                refine pg_iast hx hb hK hP hD hS hc610.1 0 hM611 rfl (inbN v609 120 (by omega) (by omega)) dX13_close_196 (fun H_616 locs hP hD hS => ?_)
                                obtain ⟨M_617, eM_617⟩ : ∃ M1 : Hp, M1 = va_up M_454 v610 (.inl (cy 14, 120, .inl (upd f611 ((nI v609) : Int32).toNatClampNeg (nI v6w451)))) := ⟨_, rfl⟩
                                have hy44 : gpw451 = f611 := (congrFun hV.2.2.1 44).symm.trans (ax_of hM608 (by decide) hv610 hM611)
                                have hV : VW K L M M_617 b13 (va_up (fx M b13) 17 ((gnw451 : Nat) : Int)) (va_up (va_up (va_up (ax M b13) 44 gpw451) 45 gqw451) 44 (upd gpw451 ((nI v609) : Int32).toNatClampNeg (nI v6w451))) := by rw [eM_617]; exact hV.ast (j := 44) hW hb_15 hM608 (by decide) hv610 hc610 hM611
                                have hP : va_P D vwCl ([(za, (b13_0 0 z1 (nI z2) (nI z3) z4 z5 z6 z7 z8 z9 (nI z10) z11 z12 z13 z14 z15 (nI z16) z17 z18 z19))] ++ va_pl L M_617) H_616 := by rw [eM_617]; exact hP
                                have hD : va_D A ([(za, (b13_0 0 z1 (nI z2) (nI z3) z4 z5 z6 z7 z8 z9 (nI z10) z11 z12 z13 z14 z15 (nI z16) z17 z18 z19))] ++ va_pl L M_617) := by rw [eM_617]; exact hD
                                have hW : WOM cy K L M_617 := by rw [eM_617]; exact hW.up_45 hc610 ⟨_, rfl, (updP (P := fun z => ∃ c : Nat, c < 1000 ∧ z = nI c) hf611 ⟨v6w451, by omega, rfl⟩)⟩
                                have hF : fr K L [12, 14, 15, 32, 42, 45, 46, 79, 80, 81, 83] M M_617 := by rw [eM_617]; exact hF.up hc610 (by decide)
                                have hG : fG K L [1, 7, 8, 13, 14, 15, 16, 17, 18] M M_617 := by rw [eM_617]; exact hG.arr hc610 (by decide)
                                have hM_618 : M_617 v610 = .inl (cy 14, 120, .inl (upd f611 ((nI v609) : Int32).toNatClampNeg (nI v6w451))) := by rw [eM_617]; exact va_up_self _ _ _
                                have hM_619 : M_617 b13 = .inr (12, fs608) := by rw [eM_617, va_up_ne _ _ (hb_15.neT hc610 (by decide))]; exact hM608
                                have hM_620 : M_617 v612 = .inl (cy 14, 120, .inl (f613)) := by rw [eM_617, va_up_ne _ _ (hc612.neT hc610 (by decide))]; exact hM613
                                have hf_622 : ∀ j, j < 120 → ∃ c : Nat, c < 1000 ∧ (upd f611 ((nI v609) : Int32).toNatClampNeg (nI v6w451)) j = nI c := (updP (P := fun z => ∃ c : Nat, c < 1000 ∧ z = nI c) hf611 ⟨v6w451, by omega, rfl⟩)
                                obtain ⟨f_621, ef_621⟩ : ∃ f : Nat → Int32, f = upd f611 ((nI v609) : Int32).toNatClampNeg (nI v6w451) := ⟨_, rfl⟩
                                rw [← ef_621] at hM_618 hf_622
                                refine lv_aload_n hx hb dX13_close_197 rfl (lv_at hl 4 rfl) ?_
                                refine pg_getN (D := D) (ci := 12) (v := .ref v612) (C := RX12) (T := TX12) (N := 51) hx hb hg inG12 hown hK hP hb_15.1 hM_619 rfl 45 (by decide) (hN.use (Cond.fieldLinkNest RX13 268 RX12 "stretchDays" "[I" RX13) 54 rfl rfl) (fun _ h9 => h9) hv612 dX13_close_198 ?_
                                refine lv_aload_n hx hb dX13_close_201 rfl (lv_at hl 4 rfl) ?_
                                refine pg_getN (D := D) (ci := 12) (v := .int (nI v609)) (C := RX12) (T := TX12) (N := 51) hx hb hg inG12 hown hK hP hb_15.1 hM_619 rfl 17 (by decide) (hN.use (Cond.fieldLinkNest RX13 256 RX12 "stretches" "I" RX13) 26 rfl rfl) (fun _ h9 => h9) hv609 dX13_close_202 ?_
                                refine lv_iconst (v := 0) hx hb dX13_close_205 (by decide) ?_
                                refine pg_iast hx hb hK hP hD hS hc612.1 0 hM_620 rfl (inbN v609 120 (by omega) (by omega)) dX13_close_206 (fun H_623 locs hP hD hS => ?_)
                                obtain ⟨M_624, eM_624⟩ : ∃ M1 : Hp, M1 = va_up M_617 v612 (.inl (cy 14, 120, .inl (upd f613 ((nI v609) : Int32).toNatClampNeg 0))) := ⟨_, rfl⟩
                                have hy45 : gqw451 = f613 := (congrFun hV.2.2.1 45).symm.trans (ax_of hM_619 (by decide) hv612 hM_620)
                                have hV : VW K L M M_624 b13 (va_up (fx M b13) 17 ((gnw451 : Nat) : Int)) (va_up (va_up (va_up (va_up (ax M b13) 44 gpw451) 45 gqw451) 44 (upd gpw451 ((nI v609) : Int32).toNatClampNeg (nI v6w451))) 45 (upd gqw451 ((nI v609) : Int32).toNatClampNeg 0)) := by rw [eM_624]; exact hV.ast (j := 45) hW hb_15 hM_619 (by decide) hv612 hc612 hM_620
                                have hP : va_P D vwCl ([(za, (b13_0 0 z1 (nI z2) (nI z3) z4 z5 z6 z7 z8 z9 (nI z10) z11 z12 z13 z14 z15 (nI z16) z17 z18 z19))] ++ va_pl L M_624) H_623 := by rw [eM_624]; exact hP
                                have hD : va_D A ([(za, (b13_0 0 z1 (nI z2) (nI z3) z4 z5 z6 z7 z8 z9 (nI z10) z11 z12 z13 z14 z15 (nI z16) z17 z18 z19))] ++ va_pl L M_624) := by rw [eM_624]; exact hD
                                have hW : WOM cy K L M_624 := by rw [eM_624]; exact hW.up_46 hc612 ⟨_, rfl, (updP (P := fun z => ∃ c : Nat, c < 1001 ∧ z = nI c) hf613 ⟨0, by omega, rfl⟩)⟩
                                have hF : fr K L [12, 14, 15, 32, 42, 45, 46, 79, 80, 81, 83] M M_624 := by rw [eM_624]; exact hF.up hc612 (by decide)
                                have hG : fG K L [1, 7, 8, 13, 14, 15, 16, 17, 18] M M_624 := by rw [eM_624]; exact hG.arr hc612 (by decide)
                                have hM_625 : M_624 v612 = .inl (cy 14, 120, .inl (upd f613 ((nI v609) : Int32).toNatClampNeg 0)) := by rw [eM_624]; exact va_up_self _ _ _
                                have hM_626 : M_624 v610 = .inl (cy 14, 120, .inl (f_621)) := by rw [eM_624, va_up_ne _ _ (hc610.neT hc612 (by decide))]; exact hM_618
                                have hM_627 : M_624 b13 = .inr (12, fs608) := by rw [eM_624, va_up_ne _ _ (hb_15.neT hc612 (by decide))]; exact hM_619
                                have hf_629 : ∀ j, j < 120 → ∃ c : Nat, c < 1001 ∧ (upd f613 ((nI v609) : Int32).toNatClampNeg 0) j = nI c := (updP (P := fun z => ∃ c : Nat, c < 1001 ∧ z = nI c) hf613 ⟨0, by omega, rfl⟩)
                                obtain ⟨f_628, ef_628⟩ : ∃ f : Nat → Int32, f = upd f613 ((nI v609) : Int32).toNatClampNeg 0 := ⟨_, rfl⟩
                                rw [← ef_628] at hM_625 hf_629
                                refine lv_aload_n hx hb dX13_close_207 rfl (lv_at hl 4 rfl) ?_
                                refine lv_dup hx hb dX13_close_208 rfl ?_
                                refine pg_getN (D := D) (ci := 12) (v := .int (nI v609)) (C := RX12) (T := TX12) (N := 51) hx hb hg inG12 hown hK hP hb_15.1 hM_627 rfl 17 (by decide) (hN.use (Cond.fieldLinkNest RX13 256 RX12 "stretches" "I" RX13) 26 rfl rfl) (fun _ h9 => h9) hv609 dX13_close_209 ?_
                                refine lv_iconst (v := 1) hx hb dX13_close_212 (by decide) ?_
                                refine lv_iadd hx hb dX13_close_213 ?_
                                refine lv_topi (fun f_630 ef_630 => ?_)
                                obtain rfl : f_630 = (nI (v609 + 1)) := ef_630.trans (nI_add v609 1)
                                refine pg_putN (D := D) (ci := 12) (v := .int (nI (v609 + 1))) (ty := .int) (C := RX12) (T := TX12) (N := 51) hx hb hg inG12 tyX12 tyX12_ok nmX12 hown hK hP hD hS hb_15.1 hM_627 rfl 17 (by decide) (hN.use (Cond.fieldLinkNest RX13 256 RX12 "stretches" "I" RX13) 26 rfl rfl) (fun _ h9 => h9) rfl (by decide +kernel) rfl rfl (by rw [hn608]; decide) dX13_close_214 (fun H_631 locs hP hD hS => ?_)
                                have hs_634 : (fs608.set 17 (.int (nI (v609 + 1))))[17]? = some (.int (nI (v609 + 1))) := List.getElem?_set_self (by rw [hn608]; decide)
                                have hk_633 := fld12_set (k := 17) (w := .int (nI (v609 + 1))) hl608 (show fld12 K L 17 (fs608.set 17 (.int (nI (v609 + 1)))) from ⟨(v609 + 1), hs_634, by omega⟩)
                                have hn_635 : (fs608.set 17 (.int (nI (v609 + 1)))).length = 51 := by rw [List.length_set]; exact hn608
                                have hv_636 : (fs608.set 17 (.int (nI (v609 + 1))))[44]? = some (.ref v610) := by rw [List.getElem?_set_ne (by decide)]; exact hv610
                                have hv_637 : (fs608.set 17 (.int (nI (v609 + 1))))[45]? = some (.ref v612) := by rw [List.getElem?_set_ne (by decide)]; exact hv612
                                have hb_638 : (v609 + 1) ≤ 120 := by omega
                                obtain ⟨M_639, eM_639⟩ : ∃ M1 : Hp, M1 = va_up M_624 b13 (.inr (12, fs608.set 17 (.int (nI (v609 + 1))))) := ⟨_, rfl⟩
                                have hx17 : ((gnw451 : Nat) : Int) = ((v609 : Nat) : Int) := (congrFun hV.2.1 17).symm.trans ((fx_of hM_627 rfl hv609).trans (nI_toInt (by omega)))
                                have hV : VW K L M M_639 b13 (va_up (va_up (fx M b13) 17 ((gnw451 : Nat) : Int)) 17 (((v609 + 1) : Nat) : Int)) (va_up (va_up (va_up (va_up (ax M b13) 44 gpw451) 45 gqw451) 44 (upd gpw451 ((nI v609) : Int32).toNatClampNeg (nI v6w451))) 45 (upd gqw451 ((nI v609) : Int32).toNatClampNeg 0)) := by rw [eM_639]; exact hV.put hW hb_15 hM_627 hn608 rfl (by decide) rfl (nI_toInt (by omega))
                                have hP : va_P D vwCl ([(za, (b13_0 0 z1 (nI z2) (nI z3) z4 z5 z6 z7 z8 z9 (nI z10) z11 z12 z13 z14 z15 (nI z16) z17 z18 z19))] ++ va_pl L M_639) H_631 := by rw [eM_639]; exact hP
                                have hD : va_D A ([(za, (b13_0 0 z1 (nI z2) (nI z3) z4 z5 z6 z7 z8 z9 (nI z10) z11 z12 z13 z14 z15 (nI z16) z17 z18 z19))] ++ va_pl L M_639) := by rw [eM_639]; exact hD
                                have hW : WOM cy K L M_639 := by rw [eM_639]; exact hW.up_12 hb_15 ⟨_, rfl, hn_635, hk_633⟩
                                have hF : fr K L [12, 14, 15, 32, 42, 45, 46, 79, 80, 81, 83] M M_639 := by rw [eM_639]; exact hF.up hb_15 (by decide)
                                have hG : fG K L [1, 7, 8, 13, 14, 15, 16, 17, 18] M M_639 := by rw [eM_639]; exact hG.up hM_627 (by decide)
                                have hM_640 : M_639 b13 = .inr (12, fs608.set 17 (.int (nI (v609 + 1)))) := by rw [eM_639]; exact va_up_self _ _ _
                                have hM_641 : M_639 v612 = .inl (cy 14, 120, .inl (f_628)) := by rw [eM_639, va_up_ne _ _ (hc612.neT hb_15 (by decide))]; exact hM_625
                                have hM_642 : M_639 v610 = .inl (cy 14, 120, .inl (f_621)) := by rw [eM_639, va_up_ne _ _ (hc610.neT hb_15 (by decide))]; exact hM_626
                                refine lv_aload_n hx hb dX13_close_217 rfl (lv_at hl 4 rfl) ?_
                                refine pg_getN (D := D) (ci := 12) (v := .ref v612) (C := RX12) (T := TX12) (N := 51) hx hb hg inG12 hown hK hP hb_15.1 hM_640 rfl 45 (by decide) (hN.use (Cond.fieldLinkNest RX13 268 RX12 "stretchDays" "[I" RX13) 54 rfl rfl) (fun _ h9 => h9) hv_637 dX13_close_218 ?_
                                refine lv_aload_n hx hb dX13_close_221 rfl (lv_at hl 4 rfl) ?_
                                refine pg_getN (D := D) (ci := 12) (v := .int (nI (v609 + 1))) (C := RX12) (T := TX12) (N := 51) hx hb hg inG12 hown hK hP hb_15.1 hM_640 rfl 17 (by decide) (hN.use (Cond.fieldLinkNest RX13 256 RX12 "stretches" "I" RX13) 26 rfl rfl) (fun _ h9 => h9) hs_634 dX13_close_222 ?_
                                refine lv_iconst (v := 1) hx hb dX13_close_225 (by decide) ?_
                                refine lv_isub hx hb dX13_close_226 ?_
                                refine lv_topi (fun f_643 ef_643 => ?_)
                                obtain rfl : f_643 = (nI ((v609 + 1) - 1)) := ef_643.trans (nI_prd (by omega))
                                refine lv_dup2_11 hx hb dX13_close_227 rfl rfl ?_
                                have hi_644 : vp_in (nI ((v609 + 1) - 1)) 120 := (inbN ((v609 + 1) - 1) 120 (by omega) (by omega))
                                refine pg_iald hx hb hK hP hc612.1 0 hM_641 rfl hi_644 dX13_close_228 ?_
                                have hp_645 := hf_629 _ (vp_lt hi_644)
                                obtain ⟨c_646, hc_647, ec_648⟩ := hp_645
                                rw [ec_648]
                                have hy45 : (upd gqw451 ((nI v609) : Int32).toNatClampNeg 0) = f_628 := (congrFun hV.2.2.1 45).symm.trans (ax_of hM_640 (by decide) hv_637 hM_641)
                                have hec : (upd gqw451 ((nI v609) : Int32).toNatClampNeg 0) ((nI ((v609 + 1) - 1)) : Int32).toNatClampNeg = nI c_646 := by rw [hy45]; exact ec_648
                                have hcc : c_646 = 0 := updz (n := v609) (nI_cl (by omega)) ((nI_cl (by omega)).trans (by omega)) hec (by omega)
                                refine lv_iconst (v := 1) hx hb dX13_close_229 (by decide) ?_
                                refine lv_iadd hx hb dX13_close_230 ?_
                                refine lv_topi (fun f_649 ef_649 => ?_)
                                obtain rfl : f_649 = (nI (c_646 + 1)) := ef_649.trans (nI_add c_646 1)
                                refine pg_iast hx hb hK hP hD hS hc612.1 0 hM_641 rfl (inbN ((v609 + 1) - 1) 120 (by omega) (by omega)) dX13_close_231 (fun H_650 locs hP hD hS => ?_)
                                obtain ⟨M_651, eM_651⟩ : ∃ M1 : Hp, M1 = va_up M_639 v612 (.inl (cy 14, 120, .inl (upd f_628 ((nI ((v609 + 1) - 1)) : Int32).toNatClampNeg (nI (c_646 + 1))))) := ⟨_, rfl⟩
                                have hy45 : (upd gqw451 ((nI v609) : Int32).toNatClampNeg 0) = f_628 := (congrFun hV.2.2.1 45).symm.trans (ax_of hM_640 (by decide) hv_637 hM_641)
                                have hV : VW K L M M_651 b13 (va_up (va_up (fx M b13) 17 ((gnw451 : Nat) : Int)) 17 (((v609 + 1) : Nat) : Int)) (va_up (va_up (va_up (va_up (va_up (ax M b13) 44 gpw451) 45 gqw451) 44 (upd gpw451 ((nI v609) : Int32).toNatClampNeg (nI v6w451))) 45 (upd gqw451 ((nI v609) : Int32).toNatClampNeg 0)) 45 (upd (upd gqw451 ((nI v609) : Int32).toNatClampNeg 0) ((nI ((v609 + 1) - 1)) : Int32).toNatClampNeg (nI (c_646 + 1)))) := by rw [eM_651]; exact hV.ast (j := 45) hW hb_15 hM_640 (by decide) hv_637 hc612 hM_641
                                have hP : va_P D vwCl ([(za, (b13_0 0 z1 (nI z2) (nI z3) z4 z5 z6 z7 z8 z9 (nI z10) z11 z12 z13 z14 z15 (nI z16) z17 z18 z19))] ++ va_pl L M_651) H_650 := by rw [eM_651]; exact hP
                                have hD : va_D A ([(za, (b13_0 0 z1 (nI z2) (nI z3) z4 z5 z6 z7 z8 z9 (nI z10) z11 z12 z13 z14 z15 (nI z16) z17 z18 z19))] ++ va_pl L M_651) := by rw [eM_651]; exact hD
                                have hW : WOM cy K L M_651 := by rw [eM_651]; exact hW.up_46 hc612 ⟨_, rfl, (updP (P := fun z => ∃ c : Nat, c < 1001 ∧ z = nI c) hf_629 ⟨(c_646 + 1), by omega, rfl⟩)⟩
                                have hF : fr K L [12, 14, 15, 32, 42, 45, 46, 79, 80, 81, 83] M M_651 := by rw [eM_651]; exact hF.up hc612 (by decide)
                                have hG : fG K L [1, 7, 8, 13, 14, 15, 16, 17, 18] M M_651 := by rw [eM_651]; exact hG.arr hc612 (by decide)
                                have hM_652 : M_651 v612 = .inl (cy 14, 120, .inl (upd f_628 ((nI ((v609 + 1) - 1)) : Int32).toNatClampNeg (nI (c_646 + 1)))) := by rw [eM_651]; exact va_up_self _ _ _
                                have hM_653 : M_651 b13 = .inr (12, fs608.set 17 (.int (nI (v609 + 1)))) := by rw [eM_651, va_up_ne _ _ (hb_15.neT hc612 (by decide))]; exact hM_640
                                have hM_654 : M_651 v610 = .inl (cy 14, 120, .inl (f_621)) := by rw [eM_651, va_up_ne _ _ (hc610.neT hc612 (by decide))]; exact hM_642
                                have hf_656 : ∀ j, j < 120 → ∃ c : Nat, c < 1001 ∧ (upd f_628 ((nI ((v609 + 1) - 1)) : Int32).toNatClampNeg (nI (c_646 + 1))) j = nI c := (updP (P := fun z => ∃ c : Nat, c < 1001 ∧ z = nI c) hf_629 ⟨(c_646 + 1), by omega, rfl⟩)
                                obtain ⟨f_655, ef_655⟩ : ∃ f : Nat → Int32, f = upd f_628 ((nI ((v609 + 1) - 1)) : Int32).toNatClampNeg (nI (c_646 + 1)) := ⟨_, rfl⟩
                                rw [← ef_655] at hM_652 hf_656
                                refine lv_iinc (v := (nI (v6w451 + 1))) (lv' := [(6, .int (nI (v6w451 + 1))), (5, .int (-1)), (4, .int (nI c_393)), (3, .int (nI (c_28 + 1))), (2, .ref b13), (0, .ref za), (1, .int k1)]) hx hb dX13_close_232 hl (k := 0) rfl (nI_1 v6w451) (by decide) rfl (fun ls hl => ?_)
                                refine lv_goto (tgt := 164) hx hb dX13_close_235 (by decide) ?_
                                exact ih_449 (v6w451 + 1) (v609 + 1) (upd gpw451 ((nI v609) : Int32).toNatClampNeg (nI v6w451)) (upd (upd gqw451 ((nI v609) : Int32).toNatClampNeg 0) ((nI ((v609 + 1) - 1)) : Int32).toNatClampNeg (nI (c_646 + 1))) M_651 H_650 _ _ (by omega) (by omega) (by have h := SD.new hSD (by omega) (show (nI v609).toNatClampNeg = gnw451 from (nI_cl (by omega)).trans (by omega)) (show (nI ((v609 + 1) - 1)).toNatClampNeg = gnw451 from (nI_cl (by omega)).trans (by omega)) hcc; rw [← hgn] at h; exact h) hW hF hG (by have h := hV; simp only [va_up_up] at h; rw [va_up_4] at h; exact h) hP hD hS (lv_sub hl [0, 1, 2, 3, 4, 5, 6] rfl)
                              · have hz := rfl (a := 0)
                                have n_657 : ¬ (v6w451 = (c_28 + 1)) := fun q => c_614 ((iEQ (a := v6w451) (b := (c_28 + 1)) (by omega) (by omega)).mpr q)
                                refine lv_aload_n hx hb dX13_close_177 rfl (lv_at hl 4 rfl) ?_
                                refine lv_iload hx hb dX13_close_178 (lv_at hl 0 rfl) ?_
                                have hPc : va_P D vwCl ([] ++ va_pl L M_454) H_455 := hP.part (cx := []) [] rfl
                                have hDc : va_D A ([] ++ va_pl L M_454) := hD.part (cx := []) [] (by decide) rfl
                                have hFc : ∀ q, va_A ([] ++ va_pl L M_454) H_455.size q → A q := pg_free hDc hS hA
                                refine va_calli (va_runS (As := [.ref b13, .int (nI v6w451)]) (rest := []) ⟨hx, hb, hml, hown, hg⟩ (r_X13_isParted l D cy K L M_454 H_455.size b13 (nI v6w451)  hW hb_15) (va_cwS 2 hg (gS wd_879 wd_880 wd_717 wd_881) rfl rfl rfl (by decide +kernel) ⟨(Nat.le_trans (Nat.le_of_ble_eq_true rfl) hRf), (Nat.le_trans (Nat.le_of_ble_eq_true rfl) hRl)⟩) ⟨PG.blind, fun U hU hW => ⟨rfl, PG.at hPc hK hDc hN hU hW⟩⟩ rfl rfl hl.1 rfl (lv_room (Nat.le_of_ble_eq_true rfl)) dX13_close_180 ⟨(Nat.le_trans (Nat.le_of_ble_eq_true rfl) hRc), (Nat.le_trans (Nat.le_of_ble_eq_true rfl) hRs)⟩) hS (fun q _ h => hFc q h) hFc (fun r_659 M_660 t H_658 locs ht hvm hw hB hz1 hk1 hS => ?_)
                                have hp_661 := hw
                                obtain ⟨hP1, hD1⟩ := hB
                                rw [ht] at hP1
                                obtain ⟨hP, hD⟩ := va_joinP (X := [(za, (b13_0 0 z1 (nI z2) (nI z3) z4 z5 z6 z7 z8 z9 (nI z10) z11 z12 z13 z14 z15 (nI z16) z17 z18 z19))]) (cx := []) (wr := [(za, (b13_0 0 z1 (nI z2) (nI z3) z4 z5 z6 z7 z8 z9 (nI z10) z11 z12 z13 z14 z15 (nI z16) z17 z18 z19))]) (rx := []) (pl := va_pl L M_454) (pl1 := va_pl L M_454) hP hD [] [0] rfl rfl (by decide) (by decide) hk1 hFc hP1 hD1
                                have hP : va_P D vwCl ([(za, (b13_0 0 z1 (nI z2) (nI z3) z4 z5 z6 z7 z8 z9 (nI z10) z11 z12 z13 z14 z15 (nI z16) z17 z18 z19))] ++ va_pl L M_454) H_658 := hP
                                have hD : va_D A ([(za, (b13_0 0 z1 (nI z2) (nI z3) z4 z5 z6 z7 z8 z9 (nI z10) z11 z12 z13 z14 z15 (nI z16) z17 z18 z19))] ++ va_pl L M_454) := hD
                                rcases hp_661 with rfl | rfl
                                · have hz := rfl (a := 0)
                                  refine lv_if_eq (tgt := 217) hx hb dX13_close_183 (by decide) (fun c_662 => absurd c_662 (by decide)) (fun _ => ?_)
                                  refine lv_aload_n hx hb dX13_close_186 rfl (lv_at hl 4 rfl) ?_
                                  refine pg_getN (D := D) (ci := 12) (v := .ref v610) (C := RX12) (T := TX12) (N := 51) hx hb hg inG12 hown hK hP hb_15.1 hM608 rfl 44 (by decide) (hN.use (Cond.fieldLinkNest RX13 265 RX12 "stretchDay" "[I" RX13) 53 rfl rfl) (fun _ h9 => h9) hv610 dX13_close_187 ?_
                                  refine lv_aload_n hx hb dX13_close_190 rfl (lv_at hl 4 rfl) ?_
                                  refine pg_getN (D := D) (ci := 12) (v := .int (nI v609)) (C := RX12) (T := TX12) (N := 51) hx hb hg inG12 hown hK hP hb_15.1 hM608 rfl 17 (by decide) (hN.use (Cond.fieldLinkNest RX13 256 RX12 "stretches" "I" RX13) 26 rfl rfl) (fun _ h9 => h9) hv609 dX13_close_191 ?_
                                  refine lv_iload hx hb dX13_close_194 (lv_at hl 0 rfl) ?_
                                  refine pg_iast hx hb hK hP hD hS hc610.1 0 hM611 rfl (inbN v609 120 (by omega) (by omega)) dX13_close_196 (fun H_663 locs hP hD hS => ?_)
                                  obtain ⟨M_664, eM_664⟩ : ∃ M1 : Hp, M1 = va_up M_454 v610 (.inl (cy 14, 120, .inl (upd f611 ((nI v609) : Int32).toNatClampNeg (nI v6w451)))) := ⟨_, rfl⟩
                                  have hy44 : gpw451 = f611 := (congrFun hV.2.2.1 44).symm.trans (ax_of hM608 (by decide) hv610 hM611)
                                  have hV : VW K L M M_664 b13 (va_up (fx M b13) 17 ((gnw451 : Nat) : Int)) (va_up (va_up (va_up (ax M b13) 44 gpw451) 45 gqw451) 44 (upd gpw451 ((nI v609) : Int32).toNatClampNeg (nI v6w451))) := by rw [eM_664]; exact hV.ast (j := 44) hW hb_15 hM608 (by decide) hv610 hc610 hM611
                                  have hP : va_P D vwCl ([(za, (b13_0 0 z1 (nI z2) (nI z3) z4 z5 z6 z7 z8 z9 (nI z10) z11 z12 z13 z14 z15 (nI z16) z17 z18 z19))] ++ va_pl L M_664) H_663 := by rw [eM_664]; exact hP
                                  have hD : va_D A ([(za, (b13_0 0 z1 (nI z2) (nI z3) z4 z5 z6 z7 z8 z9 (nI z10) z11 z12 z13 z14 z15 (nI z16) z17 z18 z19))] ++ va_pl L M_664) := by rw [eM_664]; exact hD
                                  have hW : WOM cy K L M_664 := by rw [eM_664]; exact hW.up_45 hc610 ⟨_, rfl, (updP (P := fun z => ∃ c : Nat, c < 1000 ∧ z = nI c) hf611 ⟨v6w451, by omega, rfl⟩)⟩
                                  have hF : fr K L [12, 14, 15, 32, 42, 45, 46, 79, 80, 81, 83] M M_664 := by rw [eM_664]; exact hF.up hc610 (by decide)
                                  have hG : fG K L [1, 7, 8, 13, 14, 15, 16, 17, 18] M M_664 := by rw [eM_664]; exact hG.arr hc610 (by decide)
                                  have hM_665 : M_664 v610 = .inl (cy 14, 120, .inl (upd f611 ((nI v609) : Int32).toNatClampNeg (nI v6w451))) := by rw [eM_664]; exact va_up_self _ _ _
                                  have hM_666 : M_664 b13 = .inr (12, fs608) := by rw [eM_664, va_up_ne _ _ (hb_15.neT hc610 (by decide))]; exact hM608
                                  have hM_667 : M_664 v612 = .inl (cy 14, 120, .inl (f613)) := by rw [eM_664, va_up_ne _ _ (hc612.neT hc610 (by decide))]; exact hM613
                                  have hf_669 : ∀ j, j < 120 → ∃ c : Nat, c < 1000 ∧ (upd f611 ((nI v609) : Int32).toNatClampNeg (nI v6w451)) j = nI c := (updP (P := fun z => ∃ c : Nat, c < 1000 ∧ z = nI c) hf611 ⟨v6w451, by omega, rfl⟩)
                                  obtain ⟨f_668, ef_668⟩ : ∃ f : Nat → Int32, f = upd f611 ((nI v609) : Int32).toNatClampNeg (nI v6w451) := ⟨_, rfl⟩
                                  rw [← ef_668] at hM_665 hf_669
                                  refine lv_aload_n hx hb dX13_close_197 rfl (lv_at hl 4 rfl) ?_
                                  refine pg_getN (D := D) (ci := 12) (v := .ref v612) (C := RX12) (T := TX12) (N := 51) hx hb hg inG12 hown hK hP hb_15.1 hM_666 rfl 45 (by decide) (hN.use (Cond.fieldLinkNest RX13 268 RX12 "stretchDays" "[I" RX13) 54 rfl rfl) (fun _ h9 => h9) hv612 dX13_close_198 ?_
                                  refine lv_aload_n hx hb dX13_close_201 rfl (lv_at hl 4 rfl) ?_
                                  refine pg_getN (D := D) (ci := 12) (v := .int (nI v609)) (C := RX12) (T := TX12) (N := 51) hx hb hg inG12 hown hK hP hb_15.1 hM_666 rfl 17 (by decide) (hN.use (Cond.fieldLinkNest RX13 256 RX12 "stretches" "I" RX13) 26 rfl rfl) (fun _ h9 => h9) hv609 dX13_close_202 ?_
                                  refine lv_iconst (v := 0) hx hb dX13_close_205 (by decide) ?_
                                  refine pg_iast hx hb hK hP hD hS hc612.1 0 hM_667 rfl (inbN v609 120 (by omega) (by omega)) dX13_close_206 (fun H_670 locs hP hD hS => ?_)
                                  obtain ⟨M_671, eM_671⟩ : ∃ M1 : Hp, M1 = va_up M_664 v612 (.inl (cy 14, 120, .inl (upd f613 ((nI v609) : Int32).toNatClampNeg 0))) := ⟨_, rfl⟩
                                  have hy45 : gqw451 = f613 := (congrFun hV.2.2.1 45).symm.trans (ax_of hM_666 (by decide) hv612 hM_667)
                                  have hV : VW K L M M_671 b13 (va_up (fx M b13) 17 ((gnw451 : Nat) : Int)) (va_up (va_up (va_up (va_up (ax M b13) 44 gpw451) 45 gqw451) 44 (upd gpw451 ((nI v609) : Int32).toNatClampNeg (nI v6w451))) 45 (upd gqw451 ((nI v609) : Int32).toNatClampNeg 0)) := by rw [eM_671]; exact hV.ast (j := 45) hW hb_15 hM_666 (by decide) hv612 hc612 hM_667
                                  have hP : va_P D vwCl ([(za, (b13_0 0 z1 (nI z2) (nI z3) z4 z5 z6 z7 z8 z9 (nI z10) z11 z12 z13 z14 z15 (nI z16) z17 z18 z19))] ++ va_pl L M_671) H_670 := by rw [eM_671]; exact hP
                                  have hD : va_D A ([(za, (b13_0 0 z1 (nI z2) (nI z3) z4 z5 z6 z7 z8 z9 (nI z10) z11 z12 z13 z14 z15 (nI z16) z17 z18 z19))] ++ va_pl L M_671) := by rw [eM_671]; exact hD
                                  have hW : WOM cy K L M_671 := by rw [eM_671]; exact hW.up_46 hc612 ⟨_, rfl, (updP (P := fun z => ∃ c : Nat, c < 1001 ∧ z = nI c) hf613 ⟨0, by omega, rfl⟩)⟩
                                  have hF : fr K L [12, 14, 15, 32, 42, 45, 46, 79, 80, 81, 83] M M_671 := by rw [eM_671]; exact hF.up hc612 (by decide)
                                  have hG : fG K L [1, 7, 8, 13, 14, 15, 16, 17, 18] M M_671 := by rw [eM_671]; exact hG.arr hc612 (by decide)
                                  have hM_672 : M_671 v612 = .inl (cy 14, 120, .inl (upd f613 ((nI v609) : Int32).toNatClampNeg 0)) := by rw [eM_671]; exact va_up_self _ _ _
                                  have hM_673 : M_671 v610 = .inl (cy 14, 120, .inl (f_668)) := by rw [eM_671, va_up_ne _ _ (hc610.neT hc612 (by decide))]; exact hM_665
                                  have hM_674 : M_671 b13 = .inr (12, fs608) := by rw [eM_671, va_up_ne _ _ (hb_15.neT hc612 (by decide))]; exact hM_666
                                  have hf_676 : ∀ j, j < 120 → ∃ c : Nat, c < 1001 ∧ (upd f613 ((nI v609) : Int32).toNatClampNeg 0) j = nI c := (updP (P := fun z => ∃ c : Nat, c < 1001 ∧ z = nI c) hf613 ⟨0, by omega, rfl⟩)
                                  obtain ⟨f_675, ef_675⟩ : ∃ f : Nat → Int32, f = upd f613 ((nI v609) : Int32).toNatClampNeg 0 := ⟨_, rfl⟩
                                  rw [← ef_675] at hM_672 hf_676
                                  refine lv_aload_n hx hb dX13_close_207 rfl (lv_at hl 4 rfl) ?_
                                  refine lv_dup hx hb dX13_close_208 rfl ?_
                                  refine pg_getN (D := D) (ci := 12) (v := .int (nI v609)) (C := RX12) (T := TX12) (N := 51) hx hb hg inG12 hown hK hP hb_15.1 hM_674 rfl 17 (by decide) (hN.use (Cond.fieldLinkNest RX13 256 RX12 "stretches" "I" RX13) 26 rfl rfl) (fun _ h9 => h9) hv609 dX13_close_209 ?_
                                  refine lv_iconst (v := 1) hx hb dX13_close_212 (by decide) ?_
                                  refine lv_iadd hx hb dX13_close_213 ?_
                                  refine lv_topi (fun f_677 ef_677 => ?_)
                                  obtain rfl : f_677 = (nI (v609 + 1)) := ef_677.trans (nI_add v609 1)
                                  refine pg_putN (D := D) (ci := 12) (v := .int (nI (v609 + 1))) (ty := .int) (C := RX12) (T := TX12) (N := 51) hx hb hg inG12 tyX12 tyX12_ok nmX12 hown hK hP hD hS hb_15.1 hM_674 rfl 17 (by decide) (hN.use (Cond.fieldLinkNest RX13 256 RX12 "stretches" "I" RX13) 26 rfl rfl) (fun _ h9 => h9) rfl (by decide +kernel) rfl rfl (by rw [hn608]; decide) dX13_close_214 (fun H_678 locs hP hD hS => ?_)
                                  have hs_681 : (fs608.set 17 (.int (nI (v609 + 1))))[17]? = some (.int (nI (v609 + 1))) := List.getElem?_set_self (by rw [hn608]; decide)
                                  have hk_680 := fld12_set (k := 17) (w := .int (nI (v609 + 1))) hl608 (show fld12 K L 17 (fs608.set 17 (.int (nI (v609 + 1)))) from ⟨(v609 + 1), hs_681, by omega⟩)
                                  have hn_682 : (fs608.set 17 (.int (nI (v609 + 1)))).length = 51 := by rw [List.length_set]; exact hn608
                                  have hv_683 : (fs608.set 17 (.int (nI (v609 + 1))))[44]? = some (.ref v610) := by rw [List.getElem?_set_ne (by decide)]; exact hv610
                                  have hv_684 : (fs608.set 17 (.int (nI (v609 + 1))))[45]? = some (.ref v612) := by rw [List.getElem?_set_ne (by decide)]; exact hv612
                                  have hb_685 : (v609 + 1) ≤ 120 := by omega
                                  obtain ⟨M_686, eM_686⟩ : ∃ M1 : Hp, M1 = va_up M_671 b13 (.inr (12, fs608.set 17 (.int (nI (v609 + 1))))) := ⟨_, rfl⟩
                                  have hx17 : ((gnw451 : Nat) : Int) = ((v609 : Nat) : Int) := (congrFun hV.2.1 17).symm.trans ((fx_of hM_674 rfl hv609).trans (nI_toInt (by omega)))
                                  have hV : VW K L M M_686 b13 (va_up (va_up (fx M b13) 17 ((gnw451 : Nat) : Int)) 17 (((v609 + 1) : Nat) : Int)) (va_up (va_up (va_up (va_up (ax M b13) 44 gpw451) 45 gqw451) 44 (upd gpw451 ((nI v609) : Int32).toNatClampNeg (nI v6w451))) 45 (upd gqw451 ((nI v609) : Int32).toNatClampNeg 0)) := by rw [eM_686]; exact hV.put hW hb_15 hM_674 hn608 rfl (by decide) rfl (nI_toInt (by omega))
                                  have hP : va_P D vwCl ([(za, (b13_0 0 z1 (nI z2) (nI z3) z4 z5 z6 z7 z8 z9 (nI z10) z11 z12 z13 z14 z15 (nI z16) z17 z18 z19))] ++ va_pl L M_686) H_678 := by rw [eM_686]; exact hP
                                  have hD : va_D A ([(za, (b13_0 0 z1 (nI z2) (nI z3) z4 z5 z6 z7 z8 z9 (nI z10) z11 z12 z13 z14 z15 (nI z16) z17 z18 z19))] ++ va_pl L M_686) := by rw [eM_686]; exact hD
                                  have hW : WOM cy K L M_686 := by rw [eM_686]; exact hW.up_12 hb_15 ⟨_, rfl, hn_682, hk_680⟩
                                  have hF : fr K L [12, 14, 15, 32, 42, 45, 46, 79, 80, 81, 83] M M_686 := by rw [eM_686]; exact hF.up hb_15 (by decide)
                                  have hG : fG K L [1, 7, 8, 13, 14, 15, 16, 17, 18] M M_686 := by rw [eM_686]; exact hG.up hM_674 (by decide)
                                  have hM_687 : M_686 b13 = .inr (12, fs608.set 17 (.int (nI (v609 + 1)))) := by rw [eM_686]; exact va_up_self _ _ _
                                  have hM_688 : M_686 v612 = .inl (cy 14, 120, .inl (f_675)) := by rw [eM_686, va_up_ne _ _ (hc612.neT hb_15 (by decide))]; exact hM_672
                                  have hM_689 : M_686 v610 = .inl (cy 14, 120, .inl (f_668)) := by rw [eM_686, va_up_ne _ _ (hc610.neT hb_15 (by decide))]; exact hM_673
                                  refine lv_aload_n hx hb dX13_close_217 rfl (lv_at hl 4 rfl) ?_
                                  refine pg_getN (D := D) (ci := 12) (v := .ref v612) (C := RX12) (T := TX12) (N := 51) hx hb hg inG12 hown hK hP hb_15.1 hM_687 rfl 45 (by decide) (hN.use (Cond.fieldLinkNest RX13 268 RX12 "stretchDays" "[I" RX13) 54 rfl rfl) (fun _ h9 => h9) hv_684 dX13_close_218 ?_
                                  refine lv_aload_n hx hb dX13_close_221 rfl (lv_at hl 4 rfl) ?_
                                  refine pg_getN (D := D) (ci := 12) (v := .int (nI (v609 + 1))) (C := RX12) (T := TX12) (N := 51) hx hb hg inG12 hown hK hP hb_15.1 hM_687 rfl 17 (by decide) (hN.use (Cond.fieldLinkNest RX13 256 RX12 "stretches" "I" RX13) 26 rfl rfl) (fun _ h9 => h9) hs_681 dX13_close_222 ?_
                                  refine lv_iconst (v := 1) hx hb dX13_close_225 (by decide) ?_
                                  refine lv_isub hx hb dX13_close_226 ?_
                                  refine lv_topi (fun f_690 ef_690 => ?_)
                                  obtain rfl : f_690 = (nI ((v609 + 1) - 1)) := ef_690.trans (nI_prd (by omega))
                                  refine lv_dup2_11 hx hb dX13_close_227 rfl rfl ?_
                                  have hi_691 : vp_in (nI ((v609 + 1) - 1)) 120 := (inbN ((v609 + 1) - 1) 120 (by omega) (by omega))
                                  refine pg_iald hx hb hK hP hc612.1 0 hM_688 rfl hi_691 dX13_close_228 ?_
                                  have hp_692 := hf_676 _ (vp_lt hi_691)
                                  obtain ⟨c_693, hc_694, ec_695⟩ := hp_692
                                  rw [ec_695]
                                  have hy45 : (upd gqw451 ((nI v609) : Int32).toNatClampNeg 0) = f_675 := (congrFun hV.2.2.1 45).symm.trans (ax_of hM_687 (by decide) hv_684 hM_688)
                                  have hec : (upd gqw451 ((nI v609) : Int32).toNatClampNeg 0) ((nI ((v609 + 1) - 1)) : Int32).toNatClampNeg = nI c_693 := by rw [hy45]; exact ec_695
                                  have hcc : c_693 = 0 := updz (n := v609) (nI_cl (by omega)) ((nI_cl (by omega)).trans (by omega)) hec (by omega)
                                  refine lv_iconst (v := 1) hx hb dX13_close_229 (by decide) ?_
                                  refine lv_iadd hx hb dX13_close_230 ?_
                                  refine lv_topi (fun f_696 ef_696 => ?_)
                                  obtain rfl : f_696 = (nI (c_693 + 1)) := ef_696.trans (nI_add c_693 1)
                                  refine pg_iast hx hb hK hP hD hS hc612.1 0 hM_688 rfl (inbN ((v609 + 1) - 1) 120 (by omega) (by omega)) dX13_close_231 (fun H_697 locs hP hD hS => ?_)
                                  obtain ⟨M_698, eM_698⟩ : ∃ M1 : Hp, M1 = va_up M_686 v612 (.inl (cy 14, 120, .inl (upd f_675 ((nI ((v609 + 1) - 1)) : Int32).toNatClampNeg (nI (c_693 + 1))))) := ⟨_, rfl⟩
                                  have hy45 : (upd gqw451 ((nI v609) : Int32).toNatClampNeg 0) = f_675 := (congrFun hV.2.2.1 45).symm.trans (ax_of hM_687 (by decide) hv_684 hM_688)
                                  have hV : VW K L M M_698 b13 (va_up (va_up (fx M b13) 17 ((gnw451 : Nat) : Int)) 17 (((v609 + 1) : Nat) : Int)) (va_up (va_up (va_up (va_up (va_up (ax M b13) 44 gpw451) 45 gqw451) 44 (upd gpw451 ((nI v609) : Int32).toNatClampNeg (nI v6w451))) 45 (upd gqw451 ((nI v609) : Int32).toNatClampNeg 0)) 45 (upd (upd gqw451 ((nI v609) : Int32).toNatClampNeg 0) ((nI ((v609 + 1) - 1)) : Int32).toNatClampNeg (nI (c_693 + 1)))) := by rw [eM_698]; exact hV.ast (j := 45) hW hb_15 hM_687 (by decide) hv_684 hc612 hM_688
                                  have hP : va_P D vwCl ([(za, (b13_0 0 z1 (nI z2) (nI z3) z4 z5 z6 z7 z8 z9 (nI z10) z11 z12 z13 z14 z15 (nI z16) z17 z18 z19))] ++ va_pl L M_698) H_697 := by rw [eM_698]; exact hP
                                  have hD : va_D A ([(za, (b13_0 0 z1 (nI z2) (nI z3) z4 z5 z6 z7 z8 z9 (nI z10) z11 z12 z13 z14 z15 (nI z16) z17 z18 z19))] ++ va_pl L M_698) := by rw [eM_698]; exact hD
                                  have hW : WOM cy K L M_698 := by rw [eM_698]; exact hW.up_46 hc612 ⟨_, rfl, (updP (P := fun z => ∃ c : Nat, c < 1001 ∧ z = nI c) hf_676 ⟨(c_693 + 1), by omega, rfl⟩)⟩
                                  have hF : fr K L [12, 14, 15, 32, 42, 45, 46, 79, 80, 81, 83] M M_698 := by rw [eM_698]; exact hF.up hc612 (by decide)
                                  have hG : fG K L [1, 7, 8, 13, 14, 15, 16, 17, 18] M M_698 := by rw [eM_698]; exact hG.arr hc612 (by decide)
                                  have hM_699 : M_698 v612 = .inl (cy 14, 120, .inl (upd f_675 ((nI ((v609 + 1) - 1)) : Int32).toNatClampNeg (nI (c_693 + 1)))) := by rw [eM_698]; exact va_up_self _ _ _
                                  have hM_700 : M_698 b13 = .inr (12, fs608.set 17 (.int (nI (v609 + 1)))) := by rw [eM_698, va_up_ne _ _ (hb_15.neT hc612 (by decide))]; exact hM_687
                                  have hM_701 : M_698 v610 = .inl (cy 14, 120, .inl (f_668)) := by rw [eM_698, va_up_ne _ _ (hc610.neT hc612 (by decide))]; exact hM_689
                                  have hf_703 : ∀ j, j < 120 → ∃ c : Nat, c < 1001 ∧ (upd f_675 ((nI ((v609 + 1) - 1)) : Int32).toNatClampNeg (nI (c_693 + 1))) j = nI c := (updP (P := fun z => ∃ c : Nat, c < 1001 ∧ z = nI c) hf_676 ⟨(c_693 + 1), by omega, rfl⟩)
                                  obtain ⟨f_702, ef_702⟩ : ∃ f : Nat → Int32, f = upd f_675 ((nI ((v609 + 1) - 1)) : Int32).toNatClampNeg (nI (c_693 + 1)) := ⟨_, rfl⟩
                                  rw [← ef_702] at hM_699 hf_703
                                  refine lv_iinc (v := (nI (v6w451 + 1))) (lv' := [(6, .int (nI (v6w451 + 1))), (5, .int (-1)), (4, .int (nI c_393)), (3, .int (nI (c_28 + 1))), (2, .ref b13), (0, .ref za), (1, .int k1)]) hx hb dX13_close_232 hl (k := 0) rfl (nI_1 v6w451) (by decide) rfl (fun ls hl => ?_)
                                  refine lv_goto (tgt := 164) hx hb dX13_close_235 (by decide) ?_
                                  exact ih_449 (v6w451 + 1) (v609 + 1) (upd gpw451 ((nI v609) : Int32).toNatClampNeg (nI v6w451)) (upd (upd gqw451 ((nI v609) : Int32).toNatClampNeg 0) ((nI ((v609 + 1) - 1)) : Int32).toNatClampNeg (nI (c_693 + 1))) M_698 H_697 _ _ (by omega) (by omega) (by have h := SD.new hSD (by omega) (show (nI v609).toNatClampNeg = gnw451 from (nI_cl (by omega)).trans (by omega)) (show (nI ((v609 + 1) - 1)).toNatClampNeg = gnw451 from (nI_cl (by omega)).trans (by omega)) hcc; rw [← hgn] at h; exact h) hW hF hG (by have h := hV; simp only [va_up_up] at h; rw [va_up_4] at h; exact h) hP hD hS (lv_sub hl [0, 1, 2, 3, 4, 5, 6] rfl)
                                · have hz := rfl (a := 0)
                                  refine lv_if_eq (tgt := 217) hx hb dX13_close_183 (by decide) (fun _ => ?_) (fun c_704 => absurd c_704 (by decide))
                                  refine lv_aload_n hx hb dX13_close_217 rfl (lv_at hl 4 rfl) ?_
                                  refine pg_getN (D := D) (ci := 12) (v := .ref v612) (C := RX12) (T := TX12) (N := 51) hx hb hg inG12 hown hK hP hb_15.1 hM608 rfl 45 (by decide) (hN.use (Cond.fieldLinkNest RX13 268 RX12 "stretchDays" "[I" RX13) 54 rfl rfl) (fun _ h9 => h9) hv612 dX13_close_218 ?_
                                  refine lv_aload_n hx hb dX13_close_221 rfl (lv_at hl 4 rfl) ?_
                                  refine pg_getN (D := D) (ci := 12) (v := .int (nI v609)) (C := RX12) (T := TX12) (N := 51) hx hb hg inG12 hown hK hP hb_15.1 hM608 rfl 17 (by decide) (hN.use (Cond.fieldLinkNest RX13 256 RX12 "stretches" "I" RX13) 26 rfl rfl) (fun _ h9 => h9) hv609 dX13_close_222 ?_
                                  refine lv_iconst (v := 1) hx hb dX13_close_225 (by decide) ?_
                                  refine lv_isub hx hb dX13_close_226 ?_
                                  refine lv_topi (fun f_705 ef_705 => ?_)
                                  obtain rfl : f_705 = (nI (v609 - 1)) := ef_705.trans (nI_prd (by omega))
                                  refine lv_dup2_11 hx hb dX13_close_227 rfl rfl ?_
                                  have hi_706 : vp_in (nI (v609 - 1)) 120 := (inbN (v609 - 1) 120 (by omega) (by omega))
                                  refine pg_iald hx hb hK hP hc612.1 0 hM613 rfl hi_706 dX13_close_228 ?_
                                  have hp_707 := hf613 _ (vp_lt hi_706)
                                  obtain ⟨c_708, hc_709, ec_710⟩ := hp_707
                                  rw [ec_710]
                                  have hy45 : gqw451 = f613 := (congrFun hV.2.2.1 45).symm.trans (ax_of hM608 (by decide) hv612 hM613)
                                  have hec : gqw451 ((nI (v609 - 1)) : Int32).toNatClampNeg = nI c_708 := by rw [hy45]; exact ec_710
                                  have hcc : c_708 ≤ v6w451 := SD.c hSD (by omega) ((nI_cl (by omega)).trans (by omega)) hec (by omega)
                                  refine lv_iconst (v := 1) hx hb dX13_close_229 (by decide) ?_
                                  refine lv_iadd hx hb dX13_close_230 ?_
                                  refine lv_topi (fun f_711 ef_711 => ?_)
                                  obtain rfl : f_711 = (nI (c_708 + 1)) := ef_711.trans (nI_add c_708 1)
                                  refine pg_iast hx hb hK hP hD hS hc612.1 0 hM613 rfl (inbN (v609 - 1) 120 (by omega) (by omega)) dX13_close_231 (fun H_712 locs hP hD hS => ?_)
                                  obtain ⟨M_713, eM_713⟩ : ∃ M1 : Hp, M1 = va_up M_454 v612 (.inl (cy 14, 120, .inl (upd f613 ((nI (v609 - 1)) : Int32).toNatClampNeg (nI (c_708 + 1))))) := ⟨_, rfl⟩
                                  have hy45 : gqw451 = f613 := (congrFun hV.2.2.1 45).symm.trans (ax_of hM608 (by decide) hv612 hM613)
                                  have hV : VW K L M M_713 b13 (va_up (fx M b13) 17 ((gnw451 : Nat) : Int)) (va_up (va_up (va_up (ax M b13) 44 gpw451) 45 gqw451) 45 (upd gqw451 ((nI (v609 - 1)) : Int32).toNatClampNeg (nI (c_708 + 1)))) := by rw [eM_713]; exact hV.ast (j := 45) hW hb_15 hM608 (by decide) hv612 hc612 hM613
                                  have hP : va_P D vwCl ([(za, (b13_0 0 z1 (nI z2) (nI z3) z4 z5 z6 z7 z8 z9 (nI z10) z11 z12 z13 z14 z15 (nI z16) z17 z18 z19))] ++ va_pl L M_713) H_712 := by rw [eM_713]; exact hP
                                  have hD : va_D A ([(za, (b13_0 0 z1 (nI z2) (nI z3) z4 z5 z6 z7 z8 z9 (nI z10) z11 z12 z13 z14 z15 (nI z16) z17 z18 z19))] ++ va_pl L M_713) := by rw [eM_713]; exact hD
                                  have hW : WOM cy K L M_713 := by rw [eM_713]; exact hW.up_46 hc612 ⟨_, rfl, (updP (P := fun z => ∃ c : Nat, c < 1001 ∧ z = nI c) hf613 ⟨(c_708 + 1), by omega, rfl⟩)⟩
                                  have hF : fr K L [12, 14, 15, 32, 42, 45, 46, 79, 80, 81, 83] M M_713 := by rw [eM_713]; exact hF.up hc612 (by decide)
                                  have hG : fG K L [1, 7, 8, 13, 14, 15, 16, 17, 18] M M_713 := by rw [eM_713]; exact hG.arr hc612 (by decide)
                                  have hM_714 : M_713 v612 = .inl (cy 14, 120, .inl (upd f613 ((nI (v609 - 1)) : Int32).toNatClampNeg (nI (c_708 + 1)))) := by rw [eM_713]; exact va_up_self _ _ _
                                  have hM_715 : M_713 b13 = .inr (12, fs608) := by rw [eM_713, va_up_ne _ _ (hb_15.neT hc612 (by decide))]; exact hM608
                                  have hM_716 : M_713 v610 = .inl (cy 14, 120, .inl (f611)) := by rw [eM_713, va_up_ne _ _ (hc610.neT hc612 (by decide))]; exact hM611
                                  have hf_718 : ∀ j, j < 120 → ∃ c : Nat, c < 1001 ∧ (upd f613 ((nI (v609 - 1)) : Int32).toNatClampNeg (nI (c_708 + 1))) j = nI c := (updP (P := fun z => ∃ c : Nat, c < 1001 ∧ z = nI c) hf613 ⟨(c_708 + 1), by omega, rfl⟩)
                                  obtain ⟨f_717, ef_717⟩ : ∃ f : Nat → Int32, f = upd f613 ((nI (v609 - 1)) : Int32).toNatClampNeg (nI (c_708 + 1)) := ⟨_, rfl⟩
                                  rw [← ef_717] at hM_714 hf_718
                                  refine lv_iinc (v := (nI (v6w451 + 1))) (lv' := [(6, .int (nI (v6w451 + 1))), (5, .int (-1)), (4, .int (nI c_393)), (3, .int (nI (c_28 + 1))), (2, .ref b13), (0, .ref za), (1, .int k1)]) hx hb dX13_close_232 hl (k := 0) rfl (nI_1 v6w451) (by decide) rfl (fun ls hl => ?_)
                                  refine lv_goto (tgt := 164) hx hb dX13_close_235 (by decide) ?_
                                  exact ih_449 (v6w451 + 1) gnw451 gpw451 (upd gqw451 ((nI (v609 - 1)) : Int32).toNatClampNeg (nI (c_708 + 1))) M_713 H_712 _ _ (by omega) (by omega) (SD.old hSD (by omega) ((nI_cl (by omega)).trans (by omega)) hec (by omega)) hW hF hG (by have h := hV; simp only [va_up_up] at h; exact h) hP hD hS (lv_sub hl [0, 1, 2, 3, 4, 5, 6] rfl)
                        exact key_448 (1001 - (c_28 + 1) + 1) (c_28 + 1) 0 (ax M b13 44) (ax M b13 45) M_443 H_444 _ _ (by omega) (by omega) (SD.rf _ _ _) hW hF hG (by rw [va_up_id, va_up_id]; exact hV) hP hD hS (lv_sub hl [0, 1, 2, 3, 4, 5, 6] rfl)
                      · have hz := rfl (a := 0)
                        have n_719 : ¬ (24 ≤ v6w441) := fun q => c_446 ((iLE (a := 24) (b := v6w441) (by omega) (by omega)).mpr q)
                        refine lv_aload_n hx hb dX13_close_147 rfl (lv_at hl 4 rfl) ?_
                        obtain ⟨v720, hv720, hc720⟩ : ∃ v : Nat, (fs16.set 17 (.int 0))[33]? = some (.ref v : Value) ∧ isk K L v 15 24 := hk_426 33 (by decide)
                        refine pg_getN (D := D) (ci := 12) (v := .ref v720) (C := RX12) (T := TX12) (N := 51) hx hb hg inG12 hown hK hP hb_15.1 hM_445 rfl 33 (by decide) (hN.use (Cond.fieldLinkNest RX13 259 RX12 "dues" "[J" RX13) 42 rfl rfl) (fun _ h9 => h9) hv720 dX13_close_148 ?_
                        refine lv_iload hx hb dX13_close_151 (lv_at hl 0 rfl) ?_
                        refine lv_lconst (v := 0) hx hb dX13_close_153 (by decide) ?_
                        obtain ⟨f721, hM721⟩ := hW.open_15 hc720
                        refine pg_last hx hb hK hP hD hS hc720.1 1 hM721 rfl (inbN v6w441 24 (by omega) (by omega)) dX13_close_154 (fun H_722 locs hP hD hS => ?_)
                        obtain ⟨M_723, eM_723⟩ : ∃ M1 : Hp, M1 = va_up M_443 v720 (.inl (cy 15, 24, .inr (.inl (vp_updL f721 ((nI v6w441) : Int32).toNatClampNeg 0)))) := ⟨_, rfl⟩
                        have hV : VW K L M M_723 b13 (va_up (fx M b13) 17 (0 : Int)) (ax M b13) := by rw [eM_723]; exact hV.oth hW hb_15 hc720 (by decide)
                        have hP : va_P D vwCl ([(za, (b13_0 0 z1 (nI z2) (nI z3) z4 z5 z6 z7 z8 z9 (nI z10) z11 z12 z13 z14 z15 (nI z16) z17 z18 z19))] ++ va_pl L M_723) H_722 := by rw [eM_723]; exact hP
                        have hD : va_D A ([(za, (b13_0 0 z1 (nI z2) (nI z3) z4 z5 z6 z7 z8 z9 (nI z10) z11 z12 z13 z14 z15 (nI z16) z17 z18 z19))] ++ va_pl L M_723) := by rw [eM_723]; exact hD
                        have hW : WOM cy K L M_723 := by rw [eM_723]; exact hW.up_15 hc720 ⟨_, rfl⟩
                        have hF : fr K L [12, 14, 15, 32, 42, 45, 46, 79, 80, 81, 83] M M_723 := by rw [eM_723]; exact hF.up hc720 (by decide)
                        have hG : fG K L [1, 7, 8, 13, 14, 15, 16, 17, 18] M M_723 := by rw [eM_723]; exact hG.arr hc720 (by decide)
                        have hM_724 : M_723 v720 = .inl (cy 15, 24, .inr (.inl (vp_updL f721 ((nI v6w441) : Int32).toNatClampNeg 0))) := by rw [eM_723]; exact va_up_self _ _ _
                        have hM_725 : M_723 b13 = .inr (12, fs16.set 17 (.int 0)) := by rw [eM_723, va_up_ne _ _ (hb_15.neT hc720 (by decide))]; exact hM_445
                        obtain ⟨f_726, ef_726⟩ : ∃ f : Nat → Int64, f = vp_updL f721 ((nI v6w441) : Int32).toNatClampNeg 0 := ⟨_, rfl⟩
                        rw [← ef_726] at hM_724
                        refine lv_iinc (v := (nI (v6w441 + 1))) (lv' := [(6, .int (nI (v6w441 + 1))), (5, .int (-1)), (4, .int (nI c_393)), (3, .int (nI (c_28 + 1))), (2, .ref b13), (0, .ref za), (1, .int k1)]) hx hb dX13_close_155 hl (k := 0) rfl (nI_1 v6w441) (by decide) rfl (fun ls hl => ?_)
                        refine lv_goto (tgt := 140) hx hb dX13_close_158 (by decide) ?_
                        exact ih_439 (v6w441 + 1) M_723 H_722 _ _ (by omega) hM_725 (by omega) hW hF hG hV hP hD hS (lv_sub hl [0, 1, 2, 3, 4, 5, 6] rfl)
                  exact key_438 (24 - 0 + 1) 0 M_436 H_424 _ _ (by omega) hM_437 (by omega) hW hF hG hV hP hD hS (lv_sub hl [0, 1, 2, 3, 4, 5, 6] rfl)
                · have hz := rfl (a := 0)
                  refine lv_istore (lv' := [(5, .int (nI j_418)), (4, .int (nI c_393)), (3, .int (nI (c_28 + 1))), (2, .ref b13), (0, .ref za), (1, .int k1)]) hx hb dX13_close_115 hl (by decide) rfl (fun ls hl => ?_)
                  refine lv_iload hx hb dX13_close_117 (lv_at hl 0 rfl) ?_
                  refine lv_iconst (v := (-1)) hx hb dX13_close_119 (by decide) ?_
                  refine lv_icmp_eq (tgt := 132) hx hb dX13_close_120 (by decide) (fun c_727 => absurd c_727 (nI_ne_m1 (by omega))) (fun _ => ?_)
                  refine lv_aload_n hx hb dX13_close_123 rfl (lv_at hl 4 rfl) ?_
                  refine lv_bipush (v := 7) hx hb dX13_close_124 (by decide) ?_
                  refine lv_iload hx hb dX13_close_126 (lv_at hl 0 rfl) ?_
                  have hPc := hP.sub (ws' := [(za, (b13_0 0 z1 (nI z2) (nI z3) z4 z5 z6 z7 z8 z9 (nI z10) z11 z12 z13 z14 z15 (nI z16) z17 z18 z19))]) [0] rfl
                  have hDc := hD.sub (ws' := [(za, (b13_0 0 z1 (nI z2) (nI z3) z4 z5 z6 z7 z8 z9 (nI z10) z11 z12 z13 z14 z15 (nI z16) z17 z18 z19))]) [0] (by decide) rfl
                  have hKc := hK.sub (tys' := []) [] rfl
                  have hFc := va_free (wc := [(za, (b13_0 0 z1 (nI z2) (nI z3) z4 z5 z6 z7 z8 z9 (nI z10) z11 z12 z13 z14 z15 (nI z16) z17 z18 z19))]) hD hS hA [0] rfl
                  refine va_calli (va_runV (As := [.int 7, .int (nI j_418)]) (rest := []) ⟨hx, hb, hml, hown, hg⟩ (m_refusedAt l D H_413.size za 0 z1 (nI z2) (nI z3) z4 z5 z6 z7 z8 z9 (nI z10) z11 z12 z13 z14 z15 (nI z16) z17 z18 z19 7 (nI j_418)) (cwV 2 hg (gV wd_882 wd_883 wd_884 wd_717 wd_885) rfl rfl rfl (by decide +kernel) ⟨(Nat.le_trans (Nat.le_of_ble_eq_true rfl) hRf), (Nat.le_trans (Nat.le_of_ble_eq_true rfl) hRl)⟩) ⟨Pr.blind, va_recv hK hP (ci := 13) (q0 := 0) rfl rfl, fun U hU hW => ⟨rfl, Pr.at hPc hKc hDc hN hU hW⟩⟩ rfl rfl hl.1 rfl (lv_room (Nat.le_of_ble_eq_true rfl)) dX13_close_128 ⟨(Nat.le_trans (Nat.le_of_ble_eq_true rfl) hRc), (Nat.le_trans (Nat.le_of_ble_eq_true rfl) hRs)⟩) hS (fun q _ h => hFc q h) hFc (fun r_729 M_730 t H_728 locs ht hvm hw hB hz1 hk1 hS => ?_)
                  have hp_731 := hw
                  obtain ⟨hP1, hK1, hD1⟩ := hB
                  rw [ht] at hP1
                  obtain ⟨hP, hD⟩ := va_joinQ (X := [(za, (b13_0 0 z1 (nI z2) (nI z3) z4 z5 z6 z7 z8 z9 (nI z10) z11 z12 z13 z14 z15 (nI z16) z17 z18 z19))]) (cx := [(za, (b13_0 0 z1 (nI z2) (nI z3) z4 z5 z6 z7 z8 z9 (nI z10) z11 z12 z13 z14 z15 (nI z16) z17 z18 z19))]) (wr := []) (w1 := [(za, (b13_0 0 z1 (nI z2) (nI z3) 7 (nI j_418) z6 z7 z8 z9 (nI z10) z11 z12 z13 z14 z15 (nI z16) z17 z18 z19))]) (pl := va_pl L M_403) hP hD [0] [] rfl rfl (by decide) (by decide) hk1 hFc hP1 hD1
                  have hP : va_P D vwCl ([(za, (b13_0 0 z1 (nI z2) (nI z3) 7 (nI j_418) z6 z7 z8 z9 (nI z10) z11 z12 z13 z14 z15 (nI z16) z17 z18 z19))] ++ va_pl L M_403) H_728 := hP
                  have hD : va_D A ([(za, (b13_0 0 z1 (nI z2) (nI z3) 7 (nI j_418) z6 z7 z8 z9 (nI z10) z11 z12 z13 z14 z15 (nI z16) z17 z18 z19))] ++ va_pl L M_403) := hD
                  have hq := Eq.symm hp_731
                  subst hq
                  have hlg7 : ¬ ∀ b, b < z2 → ¬ LAG PK PT SX SY (k1 : Int32).toNatClampNeg (enD (SX (k1 : Int32).toNatClampNeg) (SY (k1 : Int32).toNatClampNeg)) b := fun w9 => w9 _ c_420 (by rw [hEd]; have h9 := c_421; rw [nI_toInt (by omega)] at h9; exact h9)
                  have hno : ¬ okCl z2 PK PT SX SY k1 := fun q9 => by unfold okCl okH at q9; first | omega | (obtain ⟨⟨_, _⟩, _, _, _, _⟩ := q9; first | omega | contradiction)
                  have hA9 : HA (ax M b13 2) (ax M b13 3) := hAT.1
                  have hB9 : HB (fx M b13 16) (fx M b13 14) (ax M b13 3) (ax M b13 43) := hAT.2.1
                  have hC9 : HC (fx M b13 10) (ax M b13 22) (ax M b13 23) := hAT.2.2.1
                  have hD9 : HD (fx M b13 0) (fx M b13 11) (fx M b13 15) (ax M b13 34) (ax M b13 41) := hAT.2.2.2.1
                  have hE9 : HE (fx M b13 0) (fx M b13 1) (fx M b13 12) (fx M b13 13) (ax M b13 37) := hAT.2.2.2.2
                  have hH9 : HI (fx M b13) (ax M b13) := ⟨hA9, hB9, hC9, hD9, hE9⟩
                  have hGI9 : GI K L z1 z2 M_403 := GI.fin hW0 i1 b2 hGI hact hV (hF.at i1 (by decide)) hH9
                  rw [hQ]
                  exact W.iret (v := (-1)) hx hb hr (fun t ht hW9 => ⟨⟨(-1), M_403, rfl, ⟨hW, hF, hG, ⟨hGI9, fun _ => 0, fun _ _ => 0, fun w9 => absurd w9 hno, (by unfold sxCl syCl; rw [if_neg hno, if_neg hno]; have hQ9 := ZSx.fin hW0 i1 b2 hZS hGI.1 hkn hb9 hV (hF.at i1 (by decide)) hZk.1 hZk.2; rw [va_upJ, va_upJ] at hQ9; exact hQ9)⟩, (by unfold anCl; rw [if_neg hno])⟩, ⟨7, (nI j_418), z16, (by omega), (WHR.lg ⟨⟨by omega, by omega⟩, by omega, by omega⟩ (fun d h1 h2 => hall d h1 (by rw [hEd] at h2; omega)) ⟨by omega, by rw [hEd]; have h9 := c_421; rw [nI_toInt (by omega)] at h9; exact h9, by rw [hEd]; have h9 := c_422; rw [nI_toInt (by omega)] at h9; exact h9⟩), by rw [ht]; exact hP, hD⟩⟩, hS.F ht⟩) hS.2.2 dX13_close_131
              · have hz := rfl (a := 0)
                have n_732 : ¬ (c_393 < v5w399) := fun q => c_406 ((iLT (a := c_393) (b := v5w399) (by omega) (by omega)).mpr q)
                refine lv_aload_n hx hb dX13_close_85 rfl (lv_at hl 3 rfl) ?_
                refine lv_iload hx hb dX13_close_86 (lv_at hl 0 rfl) ?_
                have hPc : va_P D vwCl ([] ++ va_pl L M_403) H_404 := hP.part (cx := []) [] rfl
                have hDc : va_D A ([] ++ va_pl L M_403) := hD.part (cx := []) [] (by decide) rfl
                have hFc : ∀ q, va_A ([] ++ va_pl L M_403) H_404.size q → A q := pg_free hDc hS hA
                refine va_calli (va_runV (As := [.int (nI v5w399)]) (rest := []) ⟨hx, hb, hml, hown, hg⟩ (f_isOpen l D cy K L M_403 H_404.size b13 v5w399  hW hb_15 (by omega)) (cwV 1 hg (gV wd_752 wd_753 wd_754 wd_737 wd_755) rfl rfl rfl (by decide +kernel) ⟨(Nat.le_trans (Nat.le_of_ble_eq_true rfl) hRf), (Nat.le_trans (Nat.le_of_ble_eq_true rfl) hRl)⟩) ⟨PG.blind, pg_recv hK hP hb_15.1 hM_405 rfl, fun U hU hW => ⟨rfl, PG.at hPc hK hDc hN hU hW⟩⟩ rfl rfl hl.1 rfl (lv_room (Nat.le_of_ble_eq_true rfl)) dX13_close_88 ⟨(Nat.le_trans (Nat.le_of_ble_eq_true rfl) hRc), (Nat.le_trans (Nat.le_of_ble_eq_true rfl) hRs)⟩) hS (fun q _ h => hFc q h) hFc (fun r_734 M_735 t H_733 locs ht hvm hw hB hz1 hk1 hS => ?_)
                have hp_736 := hw
                obtain ⟨hP1, hD1⟩ := hB
                rw [ht] at hP1
                obtain ⟨hP, hD⟩ := va_joinP (X := [(za, (b13_0 0 z1 (nI z2) (nI z3) z4 z5 z6 z7 z8 z9 (nI z10) z11 z12 z13 z14 z15 (nI z16) z17 z18 z19))]) (cx := []) (wr := [(za, (b13_0 0 z1 (nI z2) (nI z3) z4 z5 z6 z7 z8 z9 (nI z10) z11 z12 z13 z14 z15 (nI z16) z17 z18 z19))]) (rx := []) (pl := va_pl L M_403) (pl1 := va_pl L M_403) hP hD [] [0] rfl rfl (by decide) (by decide) hk1 hFc hP1 hD1
                have hP : va_P D vwCl ([(za, (b13_0 0 z1 (nI z2) (nI z3) z4 z5 z6 z7 z8 z9 (nI z10) z11 z12 z13 z14 z15 (nI z16) z17 z18 z19))] ++ va_pl L M_403) H_733 := hP
                have hD : va_D A ([(za, (b13_0 0 z1 (nI z2) (nI z3) z4 z5 z6 z7 z8 z9 (nI z10) z11 z12 z13 z14 z15 (nI z16) z17 z18 z19))] ++ va_pl L M_403) := hD
                rcases hp_736 with ⟨rfl, c_737⟩ | ⟨rfl, c_738⟩
                · have hz := rfl (a := 0)
                  have hop9 : opD (SY (k1 : Int32).toNatClampNeg) v5w399 := by have h9 := c_737; rw [hV.2.2.1, hZk.2] at h9; exact h9
                  refine lv_if_eq (tgt := 102) hx hb dX13_close_91 (by decide) (fun c_739 => absurd c_739 (by decide)) (fun _ => ?_)
                  refine lv_aload_n hx hb dX13_close_94 rfl (lv_at hl 4 rfl) ?_
                  refine lv_iconst (v := 5) hx hb dX13_close_95 (by decide) ?_
                  refine lv_iload hx hb dX13_close_96 (lv_at hl 0 rfl) ?_
                  have hPc := hP.sub (ws' := [(za, (b13_0 0 z1 (nI z2) (nI z3) z4 z5 z6 z7 z8 z9 (nI z10) z11 z12 z13 z14 z15 (nI z16) z17 z18 z19))]) [0] rfl
                  have hDc := hD.sub (ws' := [(za, (b13_0 0 z1 (nI z2) (nI z3) z4 z5 z6 z7 z8 z9 (nI z10) z11 z12 z13 z14 z15 (nI z16) z17 z18 z19))]) [0] (by decide) rfl
                  have hKc := hK.sub (tys' := []) [] rfl
                  have hFc := va_free (wc := [(za, (b13_0 0 z1 (nI z2) (nI z3) z4 z5 z6 z7 z8 z9 (nI z10) z11 z12 z13 z14 z15 (nI z16) z17 z18 z19))]) hD hS hA [0] rfl
                  refine va_calli (va_runV (As := [.int 5, .int (nI v5w399)]) (rest := []) ⟨hx, hb, hml, hown, hg⟩ (m_refusedAt l D H_733.size za 0 z1 (nI z2) (nI z3) z4 z5 z6 z7 z8 z9 (nI z10) z11 z12 z13 z14 z15 (nI z16) z17 z18 z19 5 (nI v5w399)) (cwV 2 hg (gV wd_882 wd_883 wd_884 wd_717 wd_885) rfl rfl rfl (by decide +kernel) ⟨(Nat.le_trans (Nat.le_of_ble_eq_true rfl) hRf), (Nat.le_trans (Nat.le_of_ble_eq_true rfl) hRl)⟩) ⟨Pr.blind, va_recv hK hP (ci := 13) (q0 := 0) rfl rfl, fun U hU hW => ⟨rfl, Pr.at hPc hKc hDc hN hU hW⟩⟩ rfl rfl hl.1 rfl (lv_room (Nat.le_of_ble_eq_true rfl)) dX13_close_98 ⟨(Nat.le_trans (Nat.le_of_ble_eq_true rfl) hRc), (Nat.le_trans (Nat.le_of_ble_eq_true rfl) hRs)⟩) hS (fun q _ h => hFc q h) hFc (fun r_741 M_742 t H_740 locs ht hvm hw hB hz1 hk1 hS => ?_)
                  have hp_743 := hw
                  obtain ⟨hP1, hK1, hD1⟩ := hB
                  rw [ht] at hP1
                  obtain ⟨hP, hD⟩ := va_joinQ (X := [(za, (b13_0 0 z1 (nI z2) (nI z3) z4 z5 z6 z7 z8 z9 (nI z10) z11 z12 z13 z14 z15 (nI z16) z17 z18 z19))]) (cx := [(za, (b13_0 0 z1 (nI z2) (nI z3) z4 z5 z6 z7 z8 z9 (nI z10) z11 z12 z13 z14 z15 (nI z16) z17 z18 z19))]) (wr := []) (w1 := [(za, (b13_0 0 z1 (nI z2) (nI z3) 5 (nI v5w399) z6 z7 z8 z9 (nI z10) z11 z12 z13 z14 z15 (nI z16) z17 z18 z19))]) (pl := va_pl L M_403) hP hD [0] [] rfl rfl (by decide) (by decide) hk1 hFc hP1 hD1
                  have hP : va_P D vwCl ([(za, (b13_0 0 z1 (nI z2) (nI z3) 5 (nI v5w399) z6 z7 z8 z9 (nI z10) z11 z12 z13 z14 z15 (nI z16) z17 z18 z19))] ++ va_pl L M_403) H_740 := hP
                  have hD : va_D A ([(za, (b13_0 0 z1 (nI z2) (nI z3) 5 (nI v5w399) z6 z7 z8 z9 (nI z10) z11 z12 z13 z14 z15 (nI z16) z17 z18 z19))] ++ va_pl L M_403) := hD
                  have hq := Eq.symm hp_743
                  subst hq
                  have hI_744 : (0 : Int) ≤ (k1 : Int32).toInt := inltI rfl rfl c_7
                  have hI_745 : (k1 : Int32).toInt < ((z2 : Nat) : Int) := inleI (nI_toInt (by omega)) rfl c_8
                  have hI_746 : ((v21 : Nat) : Int) ≠ ((v20 : Nat) : Int) := ineI (nI_toInt (by omega)) (nI_toInt (by omega)) c_24
                  have hI_747 : ((v19 : Nat) : Int) ≠ (0 : Int) := ineI (nI_toInt (by omega)) rfl c_26
                  have hI_748 : ((v5w399 : Nat) : Int) ≤ ((c_393 : Nat) : Int) := inltI (nI_toInt (by omega)) (nI_toInt (by omega)) c_406
                  have hop5 : ¬ (∀ d : Nat, SX (k1 : Int32).toNatClampNeg 1 < (d : Int) → (d : Int) ≤ enD (SX (k1 : Int32).toNatClampNeg) (SY (k1 : Int32).toNatClampNeg) → ¬ opD (SY (k1 : Int32).toNatClampNeg) d) := fun w9 => w9 v5w399 (by omega) (by rw [hEd]; omega) hop9
                  have hno : ¬ okCl z2 PK PT SX SY k1 := fun q9 => by unfold okCl okH at q9; first | omega | (obtain ⟨⟨_, _⟩, _, _, _, _⟩ := q9; first | omega | contradiction)
                  have hA9 : HA (ax M b13 2) (ax M b13 3) := hAT.1
                  have hB9 : HB (fx M b13 16) (fx M b13 14) (ax M b13 3) (ax M b13 43) := hAT.2.1
                  have hC9 : HC (fx M b13 10) (ax M b13 22) (ax M b13 23) := hAT.2.2.1
                  have hD9 : HD (fx M b13 0) (fx M b13 11) (fx M b13 15) (ax M b13 34) (ax M b13 41) := hAT.2.2.2.1
                  have hE9 : HE (fx M b13 0) (fx M b13 1) (fx M b13 12) (fx M b13 13) (ax M b13 37) := hAT.2.2.2.2
                  have hH9 : HI (fx M b13) (ax M b13) := ⟨hA9, hB9, hC9, hD9, hE9⟩
                  have hGI9 : GI K L z1 z2 M_403 := GI.fin hW0 i1 b2 hGI hact hV (hF.at i1 (by decide)) hH9
                  rw [hQ]
                  exact W.iret (v := (-1)) hx hb hr (fun t ht hW9 => ⟨⟨(-1), M_403, rfl, ⟨hW, hF, hG, ⟨hGI9, fun _ => 0, fun _ _ => 0, fun w9 => absurd w9 hno, (by unfold sxCl syCl; rw [if_neg hno, if_neg hno]; have hQ9 := ZSx.fin hW0 i1 b2 hZS hGI.1 hkn hb9 hV (hF.at i1 (by decide)) hZk.1 hZk.2; rw [va_upJ, va_upJ] at hQ9; exact hQ9)⟩, (by unfold anCl; rw [if_neg hno])⟩, ⟨5, (nI v5w399), z16, (by omega), (WHR.op ⟨⟨by omega, by omega⟩, by omega, by omega⟩ ⟨by omega, by rw [hEd]; omega, hop9, fun d h1 h2 => hx_401 d h1 h2⟩), by rw [ht]; exact hP, hD⟩⟩, hS.F ht⟩) hS.2.2 dX13_close_101
                · have hz := rfl (a := 0)
                  have hno9 : ¬ opD (SY (k1 : Int32).toNatClampNeg) v5w399 := by have h9 := c_738; rw [hV.2.2.1, hZk.2] at h9; exact h9
                  refine lv_if_eq (tgt := 102) hx hb dX13_close_91 (by decide) (fun _ => ?_) (fun c_749 => absurd c_749 (by decide))
                  refine lv_iinc (v := (nI (v5w399 + 1))) (lv' := [(5, .int (nI (v5w399 + 1))), (4, .int (nI c_393)), (3, .int (nI (c_28 + 1))), (2, .ref b13), (0, .ref za), (1, .int k1)]) hx hb dX13_close_102 hl (k := 0) rfl (nI_1 v5w399) (by decide) rfl (fun ls hl => ?_)
                  refine lv_goto (tgt := 78) hx hb dX13_close_105 (by decide) ?_
                  exact ih_397 (v5w399 + 1) M_403 H_733 _ _ (by omega) hM_405 (by omega) (fun d h1 h2 => by by_cases z9 : ¬ d = v5w399; exact hx_401 d h1 (by omega); rw [Classical.not_not.mp z9]; exact hno9) (by omega) hW hF hG hV hP hD hS (lv_sub hl [0, 1, 2, 3, 4, 5] rfl)
          exact key_396 (1001 - (c_28 + 1) + 1) (c_28 + 1) M H_2 _ _ (by omega) hM16 (by omega) (fun d h1 h2 => by omega) (by omega) hW hF hG hV hP hD hS (lv_sub hl [0, 1, 2, 3, 4, 5] rfl)
      · have hz := rfl (a := 0)
        have n_750 : v19 = 0 := (iEQ (a := v19) (b := 0) (by omega) (by omega)).mp c_26
        refine lv_aload_n hx hb dX13_close_51 rfl (lv_at hl 1 rfl) ?_
        refine lv_iconst (v := 1) hx hb dX13_close_52 (by decide) ?_
        have hPc := hP.sub (ws' := [(za, (b13_0 0 z1 (nI z2) (nI z3) z4 z5 z6 z7 z8 z9 (nI z10) z11 z12 z13 z14 z15 (nI z16) z17 z18 z19))]) [0] rfl
        have hDc := hD.sub (ws' := [(za, (b13_0 0 z1 (nI z2) (nI z3) z4 z5 z6 z7 z8 z9 (nI z10) z11 z12 z13 z14 z15 (nI z16) z17 z18 z19))]) [0] (by decide) rfl
        have hKc := hK.sub (tys' := []) [] rfl
        have hFc := va_free (wc := [(za, (b13_0 0 z1 (nI z2) (nI z3) z4 z5 z6 z7 z8 z9 (nI z10) z11 z12 z13 z14 z15 (nI z16) z17 z18 z19))]) hD hS hA [0] rfl
        refine va_calli (va_runV (As := [.int 1]) (rest := []) ⟨hx, hb, hml, hown, hg⟩ (m_refused l D H_2.size za 0 z1 (nI z2) (nI z3) z4 z5 z6 z7 z8 z9 (nI z10) z11 z12 z13 z14 z15 (nI z16) z17 z18 z19 1) (cwV 1 hg (gV wd_725 wd_726 wd_727 wd_717 wd_728) rfl rfl rfl (by decide +kernel) ⟨(Nat.le_trans (Nat.le_of_ble_eq_true rfl) hRf), (Nat.le_trans (Nat.le_of_ble_eq_true rfl) hRl)⟩) ⟨Pr.blind, va_recv hK hP (ci := 13) (q0 := 0) rfl rfl, fun U hU hW => ⟨rfl, Pr.at hPc hKc hDc hN hU hW⟩⟩ rfl rfl hl.1 rfl (lv_room (Nat.le_of_ble_eq_true rfl)) dX13_close_53 ⟨(Nat.le_trans (Nat.le_of_ble_eq_true rfl) hRc), (Nat.le_trans (Nat.le_of_ble_eq_true rfl) hRs)⟩) hS (fun q _ h => hFc q h) hFc (fun r_752 M_753 t H_751 locs ht hvm hw hB hz1 hk1 hS => ?_)
        have hp_754 := hw
        obtain ⟨hP1, hK1, hD1⟩ := hB
        rw [ht] at hP1
        obtain ⟨hP, hD⟩ := va_joinQ (X := [(za, (b13_0 0 z1 (nI z2) (nI z3) z4 z5 z6 z7 z8 z9 (nI z10) z11 z12 z13 z14 z15 (nI z16) z17 z18 z19))]) (cx := [(za, (b13_0 0 z1 (nI z2) (nI z3) z4 z5 z6 z7 z8 z9 (nI z10) z11 z12 z13 z14 z15 (nI z16) z17 z18 z19))]) (wr := []) (w1 := [(za, (b13_0 0 z1 (nI z2) (nI z3) 1 (-1) z6 z7 z8 z9 (nI z10) z11 z12 z13 z14 z15 (nI z16) z17 z18 z19))]) (pl := va_pl L M) hP hD [0] [] rfl rfl (by decide) (by decide) hk1 hFc hP1 hD1
        have hP : va_P D vwCl ([(za, (b13_0 0 z1 (nI z2) (nI z3) 1 (-1) z6 z7 z8 z9 (nI z10) z11 z12 z13 z14 z15 (nI z16) z17 z18 z19))] ++ va_pl L M) H_751 := hP
        have hD : va_D A ([(za, (b13_0 0 z1 (nI z2) (nI z3) 1 (-1) z6 z7 z8 z9 (nI z10) z11 z12 z13 z14 z15 (nI z16) z17 z18 z19))] ++ va_pl L M) := hD
        have hq := Eq.symm hp_754
        subst hq
        have hI_755 : (0 : Int) ≤ (k1 : Int32).toInt := inltI rfl rfl c_7
        have hI_756 : (k1 : Int32).toInt < ((z2 : Nat) : Int) := inleI (nI_toInt (by omega)) rfl c_8
        have hI_757 : ((v21 : Nat) : Int) ≠ ((v20 : Nat) : Int) := ineI (nI_toInt (by omega)) (nI_toInt (by omega)) c_24
        have hI_758 : ((v19 : Nat) : Int) = (0 : Int) := ieqI (nI_toInt (by omega)) rfl c_26
        have hno : ¬ okCl z2 PK PT SX SY k1 := fun q9 => by unfold okCl okH at q9; first | omega | (obtain ⟨⟨_, _⟩, _, _, _, _⟩ := q9; first | omega | contradiction)
        rw [hQ]
        exact W.iret (v := (-1)) hx hb hr (fun t ht hW9 => ⟨⟨(-1), M, rfl, ⟨hW, hF, hG, ⟨hGI, fun _ => 0, fun _ _ => 0, fun w9 => absurd w9 hno, (by unfold sxCl syCl; rw [if_neg hno, if_neg hno]; exact hZS)⟩, (by unfold anCl; rw [if_neg hno])⟩, ⟨1, (-1), z16, (by omega), (WHR.np (fun w9 => by obtain ⟨⟨a0, a1⟩, a2, a3⟩ := w9; omega)), by rw [ht]; exact hP, hD⟩⟩, hS.F ht⟩) hS.2.2 dX13_close_56
    · have hz := rfl (a := 0)
      have n_759 : v21 = v20 := (iEQ (a := v21) (b := v20) (by omega) (by omega)).mp c_24
      refine lv_aload_n hx hb dX13_close_37 rfl (lv_at hl 1 rfl) ?_
      refine lv_bipush (v := 6) hx hb dX13_close_38 (by decide) ?_
      have hPc := hP.sub (ws' := [(za, (b13_0 0 z1 (nI z2) (nI z3) z4 z5 z6 z7 z8 z9 (nI z10) z11 z12 z13 z14 z15 (nI z16) z17 z18 z19))]) [0] rfl
      have hDc := hD.sub (ws' := [(za, (b13_0 0 z1 (nI z2) (nI z3) z4 z5 z6 z7 z8 z9 (nI z10) z11 z12 z13 z14 z15 (nI z16) z17 z18 z19))]) [0] (by decide) rfl
      have hKc := hK.sub (tys' := []) [] rfl
      have hFc := va_free (wc := [(za, (b13_0 0 z1 (nI z2) (nI z3) z4 z5 z6 z7 z8 z9 (nI z10) z11 z12 z13 z14 z15 (nI z16) z17 z18 z19))]) hD hS hA [0] rfl
      refine va_calli (va_runV (As := [.int 6]) (rest := []) ⟨hx, hb, hml, hown, hg⟩ (m_refused l D H_2.size za 0 z1 (nI z2) (nI z3) z4 z5 z6 z7 z8 z9 (nI z10) z11 z12 z13 z14 z15 (nI z16) z17 z18 z19 6) (cwV 1 hg (gV wd_725 wd_726 wd_727 wd_717 wd_728) rfl rfl rfl (by decide +kernel) ⟨(Nat.le_trans (Nat.le_of_ble_eq_true rfl) hRf), (Nat.le_trans (Nat.le_of_ble_eq_true rfl) hRl)⟩) ⟨Pr.blind, va_recv hK hP (ci := 13) (q0 := 0) rfl rfl, fun U hU hW => ⟨rfl, Pr.at hPc hKc hDc hN hU hW⟩⟩ rfl rfl hl.1 rfl (lv_room (Nat.le_of_ble_eq_true rfl)) dX13_close_40 ⟨(Nat.le_trans (Nat.le_of_ble_eq_true rfl) hRc), (Nat.le_trans (Nat.le_of_ble_eq_true rfl) hRs)⟩) hS (fun q _ h => hFc q h) hFc (fun r_761 M_762 t H_760 locs ht hvm hw hB hz1 hk1 hS => ?_)
      have hp_763 := hw
      obtain ⟨hP1, hK1, hD1⟩ := hB
      rw [ht] at hP1
      obtain ⟨hP, hD⟩ := va_joinQ (X := [(za, (b13_0 0 z1 (nI z2) (nI z3) z4 z5 z6 z7 z8 z9 (nI z10) z11 z12 z13 z14 z15 (nI z16) z17 z18 z19))]) (cx := [(za, (b13_0 0 z1 (nI z2) (nI z3) z4 z5 z6 z7 z8 z9 (nI z10) z11 z12 z13 z14 z15 (nI z16) z17 z18 z19))]) (wr := []) (w1 := [(za, (b13_0 0 z1 (nI z2) (nI z3) 6 (-1) z6 z7 z8 z9 (nI z10) z11 z12 z13 z14 z15 (nI z16) z17 z18 z19))]) (pl := va_pl L M) hP hD [0] [] rfl rfl (by decide) (by decide) hk1 hFc hP1 hD1
      have hP : va_P D vwCl ([(za, (b13_0 0 z1 (nI z2) (nI z3) 6 (-1) z6 z7 z8 z9 (nI z10) z11 z12 z13 z14 z15 (nI z16) z17 z18 z19))] ++ va_pl L M) H_760 := hP
      have hD : va_D A ([(za, (b13_0 0 z1 (nI z2) (nI z3) 6 (-1) z6 z7 z8 z9 (nI z10) z11 z12 z13 z14 z15 (nI z16) z17 z18 z19))] ++ va_pl L M) := hD
      have hq := Eq.symm hp_763
      subst hq
      have hI_764 : (0 : Int) ≤ (k1 : Int32).toInt := inltI rfl rfl c_7
      have hI_765 : (k1 : Int32).toInt < ((z2 : Nat) : Int) := inleI (nI_toInt (by omega)) rfl c_8
      have hI_766 : ((v21 : Nat) : Int) = ((v20 : Nat) : Int) := ieqI (nI_toInt (by omega)) (nI_toInt (by omega)) c_24
      have hno : ¬ okCl z2 PK PT SX SY k1 := fun q9 => by unfold okCl okH at q9; first | omega | (obtain ⟨⟨_, _⟩, _, _, _, _⟩ := q9; first | omega | contradiction)
      rw [hQ]
      exact W.iret (v := (-1)) hx hb hr (fun t ht hW9 => ⟨⟨(-1), M, rfl, ⟨hW, hF, hG, ⟨hGI, fun _ => 0, fun _ _ => 0, fun w9 => absurd w9 hno, (by unfold sxCl syCl; rw [if_neg hno, if_neg hno]; exact hZS)⟩, (by unfold anCl; rw [if_neg hno])⟩, ⟨6, (-1), z16, (by omega), (WHR.np (fun w9 => by obtain ⟨⟨a0, a1⟩, a2, a3⟩ := w9; omega)), by rw [ht]; exact hP, hD⟩⟩, hS.F ht⟩) hS.2.2 dX13_close_43
  · have hz := rfl (a := 0)
    refine lv_if_ne (tgt := 19) hx hb dX13_close_10 (by decide) (fun c_767 => absurd c_767 (by decide)) (fun _ => ?_)
    refine lv_aload_n hx hb dX13_close_13 rfl (lv_at hl 0 rfl) ?_
    refine lv_iconst (v := 1) hx hb dX13_close_14 (by decide) ?_
    have hPc := hP.sub (ws' := [(za, (b13_0 0 z1 (nI z2) (nI z3) z4 z5 z6 z7 z8 z9 (nI z10) z11 z12 z13 z14 z15 (nI z16) z17 z18 z19))]) [0] rfl
    have hDc := hD.sub (ws' := [(za, (b13_0 0 z1 (nI z2) (nI z3) z4 z5 z6 z7 z8 z9 (nI z10) z11 z12 z13 z14 z15 (nI z16) z17 z18 z19))]) [0] (by decide) rfl
    have hKc := hK.sub (tys' := []) [] rfl
    have hFc := va_free (wc := [(za, (b13_0 0 z1 (nI z2) (nI z3) z4 z5 z6 z7 z8 z9 (nI z10) z11 z12 z13 z14 z15 (nI z16) z17 z18 z19))]) hD hS hA [0] rfl
    refine va_calli (va_runV (As := [.int 1]) (rest := []) ⟨hx, hb, hml, hown, hg⟩ (m_refused l D H_2.size za 0 z1 (nI z2) (nI z3) z4 z5 z6 z7 z8 z9 (nI z10) z11 z12 z13 z14 z15 (nI z16) z17 z18 z19 1) (cwV 1 hg (gV wd_725 wd_726 wd_727 wd_717 wd_728) rfl rfl rfl (by decide +kernel) ⟨(Nat.le_trans (Nat.le_of_ble_eq_true rfl) hRf), (Nat.le_trans (Nat.le_of_ble_eq_true rfl) hRl)⟩) ⟨Pr.blind, va_recv hK hP (ci := 13) (q0 := 0) rfl rfl, fun U hU hW => ⟨rfl, Pr.at hPc hKc hDc hN hU hW⟩⟩ rfl rfl hl.1 rfl (lv_room (Nat.le_of_ble_eq_true rfl)) dX13_close_15 ⟨(Nat.le_trans (Nat.le_of_ble_eq_true rfl) hRc), (Nat.le_trans (Nat.le_of_ble_eq_true rfl) hRs)⟩) hS (fun q _ h => hFc q h) hFc (fun r_769 M_770 t H_768 locs ht hvm hw hB hz1 hk1 hS => ?_)
    have hp_771 := hw
    obtain ⟨hP1, hK1, hD1⟩ := hB
    rw [ht] at hP1
    obtain ⟨hP, hD⟩ := va_joinQ (X := [(za, (b13_0 0 z1 (nI z2) (nI z3) z4 z5 z6 z7 z8 z9 (nI z10) z11 z12 z13 z14 z15 (nI z16) z17 z18 z19))]) (cx := [(za, (b13_0 0 z1 (nI z2) (nI z3) z4 z5 z6 z7 z8 z9 (nI z10) z11 z12 z13 z14 z15 (nI z16) z17 z18 z19))]) (wr := []) (w1 := [(za, (b13_0 0 z1 (nI z2) (nI z3) 1 (-1) z6 z7 z8 z9 (nI z10) z11 z12 z13 z14 z15 (nI z16) z17 z18 z19))]) (pl := va_pl L M) hP hD [0] [] rfl rfl (by decide) (by decide) hk1 hFc hP1 hD1
    have hP : va_P D vwCl ([(za, (b13_0 0 z1 (nI z2) (nI z3) 1 (-1) z6 z7 z8 z9 (nI z10) z11 z12 z13 z14 z15 (nI z16) z17 z18 z19))] ++ va_pl L M) H_768 := hP
    have hD : va_D A ([(za, (b13_0 0 z1 (nI z2) (nI z3) 1 (-1) z6 z7 z8 z9 (nI z10) z11 z12 z13 z14 z15 (nI z16) z17 z18 z19))] ++ va_pl L M) := hD
    have hq := Eq.symm hp_771
    subst hq
    have hno : ¬ okCl z2 PK PT SX SY k1 := fun q9 => by unfold okCl okH at q9; first | omega | (obtain ⟨⟨_, _⟩, _, _, _, _⟩ := q9; first | omega | contradiction)
    rw [hQ]
    exact W.iret (v := (-1)) hx hb hr (fun t ht hW9 => ⟨⟨(-1), M, rfl, ⟨hW, hF, hG, ⟨hGI, fun _ => 0, fun _ _ => 0, fun w9 => absurd w9 hno, (by unfold sxCl syCl; rw [if_neg hno, if_neg hno]; exact hZS)⟩, (by unfold anCl; rw [if_neg hno])⟩, ⟨1, (-1), z16, (by omega), (WHR.np (fun w9 => by obtain ⟨⟨a0, a1⟩, a2, a3⟩ := w9; omega)), by rw [ht]; exact hP, hD⟩⟩, hS.F ht⟩) hS.2.2 dX13_close_18
