set_option maxHeartbeats 4000000 in
set_option maxRecDepth 100000 in
theorem z_close (l : Launch) (D : va_G) (cy : Nat → ClassId) (K : Kp) (L : List Nat) (M : Hp) (sz : Nat) (za : Nat) (z0 : Int32) (z1 : Nat) (z2 : Nat) (z3 : Nat) (z4 : Int32) (z5 : Int32) (z6 : Nat) (z7 : Nat) (z8 : Nat) (z9 : Nat) (z10 : Nat) (z11 : Nat) (z12 : Nat) (z13 : Nat) (z14 : Nat) (z15 : Nat) (z16 : Nat) (z17 : Nat) (z18 : Int32) (z19 : Nat) (k1 : Int32) (SX : Nat → Nat → Int) (SY : Nat → Nat → Nat → Int32) (PK : Nat → Int32) (PT : Nat → Int32) (hW : WOM cy K L M) (i1 : isk K L z1 23 8) (b2 : z2 ≤ 8) (b3 : z3 ≤ 40) (i6 : isk K L z6 47 40) (i7 : isk K L z7 48 40) (i8 : isk K L z8 49 8) (i9 : isk K L z9 50 8) (b10 : z10 ≤ 8) (i11 : isk K L z11 32 24) (i12 : isk K L z12 14 24) (i13 : isk K L z13 97 24) (i14 : isk K L z14 98 24) (i15 : isk K L z15 99 24) (b16 : z16 ≤ 24) (i17 : isk K L z17 14 24) (i19 : isk K L z19 15 25) (hGI : GI K L z1 z2 M) (hZS : ZSx z1 z2 SX SY M) (hR5 : R5 z6 z7 M) (hZP : ZP z6 z7 PK PT M) : Met l yX13_close (wsM yX13_close cX13_close 8 (some .int)) ({ frames := 6, cells := 0, slots := 0, locals := 165 }) (va_Pc [.ref za, .int k1] (PG D cy [(za, (b13_0 z0 z1 (nI z2) (nI z3) z4 z5 z6 z7 z8 z9 (nI z10) z11 z12 z13 z14 z15 (nI z16) z17 z18 z19))] L M sz)) (va_Qi (fun (r : Int32) (M9 : Hp) => WOM cy K L M9 ∧ fr K L [12, 14, 15, 32, 42, 45, 46, 79, 80, 81, 83, 86, 87, 88, 89, 90, 91, 92, 93, 94, 95, 96, 97, 98, 99] M M9 ∧ fG K L [1, 7, 8, 13, 14, 15, 16, 17, 18] M M9 ∧ (GI K L z1 z2 M9 ∧ ∃ (X9 : Nat → Int) (Y9 : Nat → Nat → Int32), (okCl z2 PK PT SX SY k1 → CLF (enD (SX k1.toNatClampNeg) (SY k1.toNatClampNeg)) (SX k1.toNatClampNeg) (SY k1.toNatClampNeg) X9 Y9) ∧ ZSx z1 z2 (sxCl z2 PK PT SX SY k1 X9) (syCl z2 PK PT SX SY k1 Y9) M9) ∧ ((r = anCl z2 PK PT SX SY k1))) (fun M9 t => ∃ (w4 : Int32) (w5 : Int32) (w16 : Nat), w16 ≤ 24 ∧ WHR z2 PK PT SX SY k1 w5 ∧ PQ D [(za, (b13_0 0 z1 (nI z2) (nI z3) w4 w5 z6 z7 z8 z9 (nI z10) z11 z12 z13 z14 z15 (nI w16) z17 z18 z19))] L M9 (va_A ([(za, (b13_0 z0 z1 (nI z2) (nI z3) z4 z5 z6 z7 z8 z9 (nI z10) z11 z12 z13 z14 z15 (nI z16) z17 z18 z19))] ++ va_pl L M) sz) t) (va_A ([(za, (b13_0 z0 z1 (nI z2) (nI z3) z4 z5 z6 z7 z8 z9 (nI z10) z11 z12 z13 z14 z15 (nI z16) z17 z18 z19))] ++ va_pl L M) sz)) 0 0 (va_A ([(za, (b13_0 z0 z1 (nI z2) (nI z3) z4 z5 z6 z7 z8 z9 (nI z10) z11 z12 z13 z14 z15 (nI z16) z17 z18 z19))] ++ va_pl L M) sz) := by
  refine Met.ofW (cc := cX13_close) (maxL := 8) (ret := (some .int)) (by decide) rfl ?_
  intro p e s m args below meth c s₁ B hml hv
  obtain ⟨rfl, hsz, hP, hK, hD0, hN⟩ := hv
  have hx := B.exec
  have hb := B.bytes
  have hr := B.returns
  have hts := atoms_spec (ws := (wsM yX13_close cX13_close 8 (some .int))) B.pre
  have hg : ∀ w ∈ lw_good, w.before _ s = true := fun w h => hts w (List.mem_cons_of_mem _ h)
  have hown : s.vm.findClass RX13 = some m.cls := findClass_of_methodNamed B.named
  have hlocks := B.notSynchronized
  subst hsz
  have hD := hD0.self (sz := s.heap.size)
  generalize hAe : va_A ([(za, (b13_0 z0 z1 (nI z2) (nI z3) z4 z5 z6 z7 z8 z9 (nI z10) z11 z12 z13 z14 z15 (nI z16) z17 z18 z19))] ++ va_pl L M) s.heap.size = A at hD ⊢
  have hA : ∀ q : Nat, s.heap.size ≤ q → A q := fun q h => by rw [← hAe]; exact Or.inr h
  have hS : va_S A s.heap s.heap [] := va_S.rf
  have hl := lv_entry ([.ref za, .int k1]) (n := 8) (Nat.le_of_ble_eq_true rfl)
  rw [lg_entry_eq]
  generalize (lg_sl ([.ref za, .int k1]) ++ List.replicate (8 - (lg_sl ([.ref za, .int k1])).length) Slot.unset).toArray = ls at hl ⊢
  refine W.nameQ (fun Q hQ => ?_)
  refine W.nameR (fun R hR => ?_)
  have hRf : 6 ≤ R.frames := by rw [hR]; exact Nat.le_of_ble_eq_true rfl
  have hRl : 165 ≤ R.locals := by rw [hR]; exact Nat.le_of_ble_eq_true rfl
  have hRc : 0 ≤ R.cells := by rw [hR]; exact Nat.le_of_ble_eq_true rfl
  have hRs : 0 ≤ R.slots := by rw [hR]; exact Nat.le_of_ble_eq_true rfl
  have hF : fr K L [12, 14, 15, 32, 42, 45, 46, 79, 80, 81, 83, 86, 87, 88, 89, 90, 91, 92, 93, 94, 95, 96, 97, 98, 99] M M := fr.rf
  have hG : fG K L [1, 7, 8, 13, 14, 15, 16, 17, 18] M M := fG.rf
  have hl : lv_has ls 8 [(0, .ref za), (1, .int k1)] := hl
  have hW0 := hW
  refine lv_aload_n hx hb dX13_close_0 rfl (lv_at hl 0 rfl) ?_
  refine lv_iconst (v := 0) hx hb dX13_close_1 (by decide) ?_
  refine va_put (D := D) (ci := 13) (v := .int 0) (ty := .int) (C := RX13) (T := TX13) (N := 20) hx hb hg inG13 tyX13 tyX13_ok nmX13 hown hK hP hD hS 0 rfl rfl 0 (by decide) (hg _ wd_720) (fun _ h9 => h9) rfl (by decide +kernel) rfl rfl (Nat.le_of_ble_eq_true rfl) dX13_close_2 (fun H_1 locs hP hD hS => ?_)
  have hP : va_P D vwCl ([(za, (b13_0 0 z1 (nI z2) (nI z3) z4 z5 z6 z7 z8 z9 (nI z10) z11 z12 z13 z14 z15 (nI z16) z17 z18 z19))] ++ va_pl L M) H_1 := hP
  have hD : va_D A ([(za, (b13_0 0 z1 (nI z2) (nI z3) z4 z5 z6 z7 z8 z9 (nI z10) z11 z12 z13 z14 z15 (nI z16) z17 z18 z19))] ++ va_pl L M) := hD
  refine lv_aload_n hx hb dX13_close_5 rfl (lv_at hl 0 rfl) ?_
  refine lv_iload_n hx hb dX13_close_6 rfl (lv_at hl 1 rfl) ?_
  have hPc : va_P D vwCl ([(za, (b13_0 0 z1 (nI z2) (nI z3) z4 z5 z6 z7 z8 z9 (nI z10) z11 z12 z13 z14 z15 (nI z16) z17 z18 z19))] ++ va_pl L M) H_1 := hP
  have hDc : va_D A ([(za, (b13_0 0 z1 (nI z2) (nI z3) z4 z5 z6 z7 z8 z9 (nI z10) z11 z12 z13 z14 z15 (nI z16) z17 z18 z19))] ++ va_pl L M) := hD
  have hFc : ∀ q, va_A ([(za, (b13_0 0 z1 (nI z2) (nI z3) z4 z5 z6 z7 z8 z9 (nI z10) z11 z12 z13 z14 z15 (nI z16) z17 z18 z19))] ++ va_pl L M) H_1.size q → A q := pg_free hDc hS hA
  refine va_calli (va_runV (As := [.int k1]) (rest := []) ⟨hx, hb, hml, hown, hg⟩ (f_isHouse l D cy K L M H_1.size za 0 z1 z2 z3 z4 z5 z6 z7 z8 z9 z10 z11 z12 z13 z14 z15 z16 z17 z18 z19 k1  hW i1 b2 b3 i6 i7 i8 i9 b10 i11 i12 i13 i14 i15 b16 i17 i19) (cwV 1 hg (gV wd_714 wd_715 wd_716 wd_717 wd_718) rfl rfl rfl (by decide +kernel) ⟨(Nat.le_trans (Nat.le_of_ble_eq_true rfl) hRf), (Nat.le_trans (Nat.le_of_ble_eq_true rfl) hRl)⟩) ⟨PG.blind, va_recv hK hP (ci := 13) (q0 := 0) rfl rfl, fun U hU hW => ⟨rfl, PG.at hPc hK hDc hN hU hW⟩⟩ rfl rfl hl.1 rfl (lv_room (Nat.le_of_ble_eq_true rfl)) dX13_close_7 ⟨(Nat.le_trans (Nat.le_of_ble_eq_true rfl) hRc), (Nat.le_trans (Nat.le_of_ble_eq_true rfl) hRs)⟩) hS (fun q _ h => hFc q h) hFc (fun r_3 M_4 t H_2 locs ht hvm hw hB hz1 hk1 hS => ?_)
  have hp_5 := hw
  obtain ⟨hP1, hD1⟩ := hB
  rw [ht] at hP1
  have hP : va_P D vwCl ([(za, (b13_0 0 z1 (nI z2) (nI z3) z4 z5 z6 z7 z8 z9 (nI z10) z11 z12 z13 z14 z15 (nI z16) z17 z18 z19))] ++ va_pl L M) H_2 := hP1
  have hD : va_D A ([(za, (b13_0 0 z1 (nI z2) (nI z3) z4 z5 z6 z7 z8 z9 (nI z10) z11 z12 z13 z14 z15 (nI z16) z17 z18 z19))] ++ va_pl L M) := hD1.mono hFc
  rcases hp_5 with ⟨rfl, c_6, c_7, c_8⟩ | ⟨rfl, c_9⟩
  · have hz := rfl (a := 0)
    refine lv_if_ne (tgt := 19) hx hb dX13_close_10 (by decide) (fun _ => ?_) (fun c_10 => absurd c_10 (by decide))
    refine lv_aload_n hx hb dX13_close_19 rfl (lv_at hl 0 rfl) ?_
    refine va_get (D := D) (ci := 13) (v := .ref z1) (C := RX13) (T := TX13) (N := 20) hx hb hg inG13 hown hK hP 0 rfl rfl 1 (by decide) (hg _ wd_739) (fun _ h9 => h9) rfl dX13_close_20 ?_
    refine lv_iload_n hx hb dX13_close_23 rfl (lv_at hl 1 rfl) ?_
    obtain ⟨f11, hM11, hf11⟩ := hW.open_23 i1
    have hi_12 : vp_in k1 8 := (inbW (a := z2) (by omega) (inb k1 z2 (by omega) c_7 c_8))
    refine pg_aldq hx hb hK hP i1.1 9 hM11 rfl hi_12 dX13_close_24 ?_
    obtain ⟨b13, eb_14, hb_15⟩ := hf11 _ (vp_lt hi_12)
    rw [eb_14]
    have hact : ACT z1 z2 b13 M := ⟨(k1 : Int32).toNatClampNeg, vp_lt (inb k1 z2 (by omega) c_7 c_8), by rw [show RFc (M z1) = f11 from by rw [hM11]; rfl]; exact eb_14⟩
    have hAT := GI.at hGI hact
    have hV : VW K L M M b13 (fx M b13) (ax M b13) := VW.rf b13 hGI.2.2.2
    refine lv_astore_n (lv' := [(2, .ref b13), (0, .ref za), (1, .int k1)]) hx hb dX13_close_25 rfl hl (by decide) rfl (fun ls hl => ?_)
    have hb9 : RFc (M z1) (k1 : Int32).toNatClampNeg = some b13 := by rw [show RFc (M z1) = f11 from by rw [hM11]; rfl]; exact eb_14
    have hkn : (k1 : Int32).toNatClampNeg < z2 := vp_lt (inb k1 z2 (by omega) c_7 c_8)
    have hZk := hZS _ b13 hkn hb9
    have hz0 : fx M b13 0 = SX (k1 : Int32).toNatClampNeg 0 := congrFun hZk.1 0
    have hz1 : fx M b13 1 = SX (k1 : Int32).toNatClampNeg 1 := congrFun hZk.1 1
    have hz10 : fx M b13 10 = SX (k1 : Int32).toNatClampNeg 10 := congrFun hZk.1 10
    have hz11 : fx M b13 11 = SX (k1 : Int32).toNatClampNeg 11 := congrFun hZk.1 11
    have hz12 : fx M b13 12 = SX (k1 : Int32).toNatClampNeg 12 := congrFun hZk.1 12
    have hz13 : fx M b13 13 = SX (k1 : Int32).toNatClampNeg 13 := congrFun hZk.1 13
    have hz14 : fx M b13 14 = SX (k1 : Int32).toNatClampNeg 14 := congrFun hZk.1 14
    have hz15 : fx M b13 15 = SX (k1 : Int32).toNatClampNeg 15 := congrFun hZk.1 15
    have hz16 : fx M b13 16 = SX (k1 : Int32).toNatClampNeg 16 := congrFun hZk.1 16
    obtain ⟨fs16, hM16, hn16, hl16⟩ := hW.open_12 hb_15
    obtain ⟨v17, hv17, hc17⟩ : ∃ v : Nat, fs16[0]? = some (.int (nI v) : Value) ∧ v ≤ 999 := hl16 0 (by decide)
    have hx0 : (fx M b13 0) = ((v17 : Nat) : Int) := (congrFun hV.2.1 0).symm.trans ((fx_of hM16 rfl hv17).trans (nI_toInt (by omega)))
    obtain ⟨v18, hv18, hc18⟩ : ∃ v : Int32, fs16[1]? = some (.int v : Value) ∧ (v = (-1) ∨ ∃ c : Nat, c < 1000 ∧ v = nI c) := hl16 1 (by decide)
    have hx1 : (fx M b13 1) = (v18 : Int32).toInt := (congrFun hV.2.1 1).symm.trans (fx_of hM16 rfl hv18)
    obtain ⟨v19, hv19, hc19⟩ : ∃ v : Nat, fs16[11]? = some (.int (nI v) : Value) ∧ v ≤ 16 := hl16 11 (by decide)
    have hx11 : (fx M b13 11) = ((v19 : Nat) : Int) := (congrFun hV.2.1 11).symm.trans ((fx_of hM16 rfl hv19).trans (nI_toInt (by omega)))
    obtain ⟨v20, hv20, hc20⟩ : ∃ v : Nat, fs16[12]? = some (.int (nI v) : Value) ∧ v ≤ 12 := hl16 12 (by decide)
    have hx12 : (fx M b13 12) = ((v20 : Nat) : Int) := (congrFun hV.2.1 12).symm.trans ((fx_of hM16 rfl hv20).trans (nI_toInt (by omega)))
    obtain ⟨v21, hv21, hc21⟩ : ∃ v : Nat, fs16[13]? = some (.int (nI v) : Value) ∧ v ≤ 12 := hl16 13 (by decide)
    have hx13 : (fx M b13 13) = ((v21 : Nat) : Int) := (congrFun hV.2.1 13).symm.trans ((fx_of hM16 rfl hv21).trans (nI_toInt (by omega)))
    obtain ⟨v22, hv22, hc22⟩ : ∃ v : Nat, fs16[37]? = some (.ref v : Value) ∧ isk K L v 38 12 := hl16 37 (by decide)
    obtain ⟨f23, hM23, hf23⟩ := hW.open_38 hc22
    have hy37 : (ax M b13 37) = f23 := (congrFun hV.2.2.1 37).symm.trans (ax_of hM16 (by decide) hv22 hM23)
    have hb13 := hx13
    have hb12 := hx12
    have hb0 := hx0
    have hb37 := hy37
    refine lv_aload_n hx hb dX13_close_26 rfl (lv_at hl 0 rfl) ?_
    refine pg_getN (D := D) (ci := 12) (v := .int (nI v21)) (C := RX12) (T := TX12) (N := 51) hx hb hg inG12 hown hK hP hb_15.1 hM16 rfl 13 (by decide) (hN.use (Cond.fieldLinkNest RX13 244 RX12 "closed" "I" RX13) 22 rfl rfl) (fun _ h9 => h9) hv21 dX13_close_27 ?_
    refine lv_aload_n hx hb dX13_close_30 rfl (lv_at hl 0 rfl) ?_
    refine pg_getN (D := D) (ci := 12) (v := .int (nI v20)) (C := RX12) (T := TX12) (N := 51) hx hb hg inG12 hown hK hP hb_15.1 hM16 rfl 12 (by decide) (hN.use (Cond.fieldLinkNest RX13 233 RX12 "years" "I" RX13) 21 rfl rfl) (fun _ h9 => h9) hv20 dX13_close_31 ?_
    refine lv_icmp_ne (tgt := 44) hx hb dX13_close_34 (by decide) (fun c_24 => ?_) (fun c_24 => ?_)
    · have hz := rfl (a := 0)
      have n_25 : ¬ (v21 = v20) := fun q => c_24 ((iEQ (a := v21) (b := v20) (by omega) (by omega)).mpr q)
      refine lv_aload_n hx hb dX13_close_44 rfl (lv_at hl 0 rfl) ?_
      refine pg_getN (D := D) (ci := 12) (v := .int (nI v19)) (C := RX12) (T := TX12) (N := 51) hx hb hg inG12 hown hK hP hb_15.1 hM16 rfl 11 (by decide) (hN.use (Cond.fieldLinkNest RX13 142 RX12 "rules" "I" RX13) 20 rfl rfl) (fun _ h9 => h9) hv19 dX13_close_45 ?_
      refine lv_if_ne (tgt := 57) hx hb dX13_close_48 (by decide) (fun c_26 => ?_) (fun c_26 => ?_)
      · have hz := rfl (a := 0)
        have n_27 : ¬ (v19 = 0) := fun q => c_26 ((iEQ (a := v19) (b := 0) (by omega) (by omega)).mpr q)
        refine lv_aload_n hx hb dX13_close_57 rfl (lv_at hl 0 rfl) ?_
        refine pg_getN (D := D) (ci := 12) (v := .int v18) (C := RX12) (T := TX12) (N := 51) hx hb hg inG12 hown hK hP hb_15.1 hM16 rfl 1 (by decide) (hN.use (Cond.fieldLinkNest RX13 80 RX12 "to" "I" RX13) 10 rfl rfl) (fun _ h9 => h9) hv18 dX13_close_58 ?_
        rcases hc18 with rfl | ⟨c_28, hc_29, rfl⟩
        · have hz := rfl (a := 0)
          refine lv_iconst (v := 1) hx hb dX13_close_61 (by decide) ?_
          refine lv_iadd hx hb dX13_close_62 ?_
          refine lv_topi (fun f_30 ef_30 => ?_)
          obtain rfl : f_30 = 0 := by rw [ef_30]; decide
          refine lv_istore_n (lv' := [(3, .int 0), (2, .ref b13), (0, .ref za), (1, .int k1)]) hx hb dX13_close_63 rfl hl (by decide) rfl (fun ls hl => ?_)
          have hlt13 : v21 < v20 := by have h := hAT.2.2.2.2.1; omega
          refine lv_aload_n hx hb dX13_close_64 rfl (lv_at hl 1 rfl) ?_
          refine pg_getN (D := D) (ci := 12) (v := .ref v22) (C := RX12) (T := TX12) (N := 51) hx hb hg inG12 hown hK hP hb_15.1 hM16 rfl 37 (by decide) (hN.use (Cond.fieldLinkNest RX13 236 RX12 "end" "[I" RX13) 46 rfl rfl) (fun _ h9 => h9) hv22 dX13_close_65 ?_
          refine lv_aload_n hx hb dX13_close_68 rfl (lv_at hl 1 rfl) ?_
          refine pg_getN (D := D) (ci := 12) (v := .int (nI v21)) (C := RX12) (T := TX12) (N := 51) hx hb hg inG12 hown hK hP hb_15.1 hM16 rfl 13 (by decide) (hN.use (Cond.fieldLinkNest RX13 244 RX12 "closed" "I" RX13) 22 rfl rfl) (fun _ h9 => h9) hv21 dX13_close_69 ?_
          have hi_31 : vp_in (nI v21) 12 := (inbN v21 12 (by omega) (by omega))
          refine pg_iald hx hb hK hP hc22.1 0 hM23 rfl hi_31 dX13_close_72 ?_
          have hp_32 := hf23 _ (vp_lt hi_31)
          obtain ⟨c_33, hc_34, ec_35⟩ := hp_32
          rw [ec_35]
          refine lv_istore (lv' := [(4, .int (nI c_33)), (3, .int 0), (2, .ref b13), (0, .ref za), (1, .int k1)]) hx hb dX13_close_73 hl (by decide) rfl (fun ls hl => ?_)
          have hx1b : fx M b13 1 = ((0 : Nat) : Int) - 1 := by rw [hx1]; first | decide | (rw [nI_toInt (by omega)]; omega)
          obtain ⟨hq1, hq2, hq3, hq4⟩ := heC hAT.2.2.2.2 hb13 hb12 (by omega) (by omega) hb37 (nI_cl (by omega)) ec_35 (by omega)
          have h11 : 1 ≤ fx M b13 11 := by omega
          have hT37 : (ax M b13 37 v21).toInt = ((c_33 : Nat) : Int) := by
            have h := ec_35
            rw [nI_cl (by omega)] at h
            rw [hb37, h, nI_toInt (by omega)]
          have hEd : enD (SX (k1 : Int32).toNatClampNeg) (SY (k1 : Int32).toNatClampNeg) = ((c_33 : Nat) : Int) := by unfold enD; rw [← hZk.2, show (SX (k1 : Int32).toNatClampNeg 13).toNat = v21 by omega]; exact hT37
          refine lv_iload_n hx hb dX13_close_75 rfl (lv_at hl 1 rfl) ?_
          refine lv_istore (lv' := [(5, .int 0), (4, .int (nI c_33)), (3, .int 0), (2, .ref b13), (0, .ref za), (1, .int k1)]) hx hb dX13_close_76 hl (by decide) rfl (fun ls hl => ?_)
          have key_36 : ∀ (fu_38 : Nat) (v5w39 : Nat) (M_43 : Hp) (H_44 : Heap) (locs : List Loc) (ls : Array Slot), 1001 - v5w39 < fu_38 → M_43 b13 = .inr (12, fs16) → v5w39 ≤ 1000 → (∀ d : Nat, SX (k1 : Int32).toNatClampNeg 1 < (d : Int) → d < v5w39 → ¬ opD (SY (k1 : Int32).toNatClampNeg) d) → SX (k1 : Int32).toNatClampNeg 1 < ((v5w39 : Nat) : Int) → WOM cy K L M_43 → fr K L [12, 14, 15, 32, 42, 45, 46, 79, 80, 81, 83, 86, 87, 88, 89, 90, 91, 92, 93, 94, 95, 96, 97, 98, 99] M M_43 → fG K L [1, 7, 8, 13, 14, 15, 16, 17, 18] M M_43 → VW K L M M_43 b13 (fx M b13) (ax M b13) → va_P D vwCl ([(za, (b13_0 0 z1 (nI z2) (nI z3) z4 z5 z6 z7 z8 z9 (nI z10) z11 z12 z13 z14 z15 (nI z16) z17 z18 z19))] ++ va_pl L M_43) H_44 → va_D A ([(za, (b13_0 0 z1 (nI z2) (nI z3) z4 z5 z6 z7 z8 z9 (nI z10) z11 z12 z13 z14 z15 (nI z16) z17 z18 z19))] ++ va_pl L M_43) → va_S A s.heap H_44 locs → lv_has ls 8 [(5, .int (nI v5w39)), (4, .int (nI c_33)), (3, .int 0), (2, .ref b13), (0, .ref za), (1, .int k1)] → W p l e R s m ([.ref za, .int k1] : List Value).toArray below meth c H_44 locs 0 0 Q (F0 m 78 ls []) := by
            intro fu_38
            induction fu_38 with
            | zero => intro v5w39 M_43 H_44 locs ls h; exact absurd h (Nat.not_lt_zero _)
            | succ fu_38 ih_37 =>
              intro v5w39 M_43 H_44 locs ls hfu hM_45 hx_40 hx_41 hx_42 hW hF hG hV hP hD hS hl
              refine lv_iload hx hb dX13_close_78 (lv_at hl 0 rfl) ?_
              refine lv_iload hx hb dX13_close_80 (lv_at hl 1 rfl) ?_
              refine lv_icmp_gt (tgt := 108) hx hb dX13_close_82 (by decide) (fun c_46 => ?_) (fun c_46 => ?_)
              · have hz := rfl (a := 0)
                have n_47 : c_33 < v5w39 := (iLT (a := c_33) (b := v5w39) (by omega) (by omega)).mp c_46
                have hall := hx_41
                have hv5 : c_33 < v5w39 := by omega
                have hI_48 : (0 : Int) ≤ (k1 : Int32).toInt := inltI rfl rfl c_7
                have hI_49 : (k1 : Int32).toInt < ((z2 : Nat) : Int) := inleI (nI_toInt (by omega)) rfl c_8
                have hI_50 : ((v21 : Nat) : Int) ≠ ((v20 : Nat) : Int) := ineI (nI_toInt (by omega)) (nI_toInt (by omega)) c_24
                have hI_51 : ((v19 : Nat) : Int) ≠ (0 : Int) := ineI (nI_toInt (by omega)) rfl c_26
                have hI_52 : ((c_33 : Nat) : Int) < ((v5w39 : Nat) : Int) := iltI (nI_toInt (by omega)) (nI_toInt (by omega)) c_46
                have hZSw := ZSx.fin hW0 i1 b2 hZS hGI.1 hkn hb9 hV (hF.at i1 (by decide)) hZk.1 hZk.2
                rw [va_upJ, va_upJ] at hZSw
                have hZPw := ZP.mv hZP i6 i7 hF (by decide) (by decide)
                refine lv_aload_n hx hb dX13_close_108 rfl (lv_at hl 4 rfl) ?_
                refine lv_iload_n hx hb dX13_close_109 rfl (lv_at hl 5 rfl) ?_
                refine lv_iload hx hb dX13_close_110 (lv_at hl 1 rfl) ?_
                have hPc : va_P D vwCl ([(za, (b13_0 0 z1 (nI z2) (nI z3) z4 z5 z6 z7 z8 z9 (nI z10) z11 z12 z13 z14 z15 (nI z16) z17 z18 z19))] ++ va_pl L M_43) H_44 := hP
                have hDc : va_D A ([(za, (b13_0 0 z1 (nI z2) (nI z3) z4 z5 z6 z7 z8 z9 (nI z10) z11 z12 z13 z14 z15 (nI z16) z17 z18 z19))] ++ va_pl L M_43) := hD
                have hFc : ∀ q, va_A ([(za, (b13_0 0 z1 (nI z2) (nI z3) z4 z5 z6 z7 z8 z9 (nI z10) z11 z12 z13 z14 z15 (nI z16) z17 z18 z19))] ++ va_pl L M_43) H_44.size q → A q := pg_free hDc hS hA
                refine va_calli (va_runV (As := [.int k1, .int (nI c_33)]) (rest := []) ⟨hx, hb, hml, hown, hg⟩ (z_behind l D cy K L M_43 H_44.size za 0 z1 z2 z3 z4 z5 z6 z7 z8 z9 z10 z11 z12 z13 z14 z15 z16 z17 z18 z19 k1 (nI c_33) SX SY PK PT  hW i1 b2 b3 i6 i7 i8 i9 b10 i11 i12 i13 i14 i15 b16 i17 i19 hZSw hZPw (by omega)) (cwV 2 hg (gV wd_853 wd_854 wd_855 wd_717 wd_856) rfl rfl rfl (by decide +kernel) ⟨(Nat.le_trans (Nat.le_of_ble_eq_true rfl) hRf), (Nat.le_trans (Nat.le_of_ble_eq_true rfl) hRl)⟩) ⟨PG.blind, va_recv hK hP (ci := 13) (q0 := 0) rfl rfl, fun U hU hW => ⟨rfl, PG.at hPc hK hDc hN hU hW⟩⟩ rfl rfl hl.1 rfl (lv_room (Nat.le_of_ble_eq_true rfl)) dX13_close_112 ⟨(Nat.le_trans (Nat.le_of_ble_eq_true rfl) hRc), (Nat.le_trans (Nat.le_of_ble_eq_true rfl) hRs)⟩) hS (fun q _ h => hFc q h) hFc (fun r_54 M_55 t H_53 locs ht hvm hw hB hz1 hk1 hS => ?_)
                have hp_56 := hw
                obtain ⟨hP1, hD1⟩ := hB
                rw [ht] at hP1
                have hP : va_P D vwCl ([(za, (b13_0 0 z1 (nI z2) (nI z3) z4 z5 z6 z7 z8 z9 (nI z10) z11 z12 z13 z14 z15 (nI z16) z17 z18 z19))] ++ va_pl L M_43) H_53 := hP1
                have hD : va_D A ([(za, (b13_0 0 z1 (nI z2) (nI z3) z4 z5 z6 z7 z8 z9 (nI z10) z11 z12 z13 z14 z15 (nI z16) z17 z18 z19))] ++ va_pl L M_43) := hD1.mono hFc
                rcases hp_56 with ⟨rfl, c_57⟩ | ⟨j_58, rfl, c_59, c_60, c_61, c_62⟩
                · have hz := rfl (a := 0)
                  refine lv_istore (lv' := [(5, .int (-1)), (4, .int (nI c_33)), (3, .int 0), (2, .ref b13), (0, .ref za), (1, .int k1)]) hx hb dX13_close_115 hl (by decide) rfl (fun ls hl => ?_)
                  refine lv_iload hx hb dX13_close_117 (lv_at hl 0 rfl) ?_
                  refine lv_iconst (v := (-1)) hx hb dX13_close_119 (by decide) ?_
                  refine lv_icmp_eq (tgt := 132) hx hb dX13_close_120 (by decide) (fun _ => ?_) (fun c_63 => absurd c_63 (by decide))
                  refine lv_aload_n hx hb dX13_close_132 rfl (lv_at hl 3 rfl) ?_
                  refine lv_iconst (v := 0) hx hb dX13_close_133 (by decide) ?_
                  refine pg_putN (D := D) (ci := 12) (v := .int 0) (ty := .int) (C := RX12) (T := TX12) (N := 51) hx hb hg inG12 tyX12 tyX12_ok nmX12 hown hK hP hD hS hb_15.1 hM_45 rfl 17 (by decide) (hN.use (Cond.fieldLinkNest RX13 256 RX12 "stretches" "I" RX13) 26 rfl rfl) (fun _ h9 => h9) rfl (by decide +kernel) rfl rfl (by rw [hn16]; decide) dX13_close_134 (fun H_64 locs hP hD hS => ?_)
                  have hs_67 : (fs16.set 17 (.int 0))[17]? = some (.int (nI 0)) := List.getElem?_set_self (by rw [hn16]; decide)
                  have hk_66 := fld12_set (k := 17) (w := .int 0) hl16 (show fld12 K L 17 (fs16.set 17 (.int 0)) from ⟨0, hs_67, by omega⟩)
                  have hn_68 : (fs16.set 17 (.int 0)).length = 51 := by rw [List.length_set]; exact hn16
                  have hv_69 : (fs16.set 17 (.int 0))[0]? = some (.int (nI v17)) := by rw [List.getElem?_set_ne (by decide)]; exact hv17
                  have hv_70 : (fs16.set 17 (.int 0))[1]? = some (.int (-1)) := by rw [List.getElem?_set_ne (by decide)]; exact hv18
                  have hv_71 : (fs16.set 17 (.int 0))[11]? = some (.int (nI v19)) := by rw [List.getElem?_set_ne (by decide)]; exact hv19
                  have hv_72 : (fs16.set 17 (.int 0))[12]? = some (.int (nI v20)) := by rw [List.getElem?_set_ne (by decide)]; exact hv20
                  have hv_73 : (fs16.set 17 (.int 0))[13]? = some (.int (nI v21)) := by rw [List.getElem?_set_ne (by decide)]; exact hv21
                  have hv_74 : (fs16.set 17 (.int 0))[37]? = some (.ref v22) := by rw [List.getElem?_set_ne (by decide)]; exact hv22
                  have hb_75 : 0 ≤ 120 := by omega
                  obtain ⟨M_76, eM_76⟩ : ∃ M1 : Hp, M1 = va_up M_43 b13 (.inr (12, fs16.set 17 (.int 0))) := ⟨_, rfl⟩
                  have hV : VW K L M M_76 b13 (va_up (fx M b13) 17 (0 : Int)) (ax M b13) := by rw [eM_76]; exact hV.put hW hb_15 hM_45 hn16 rfl (by decide) rfl (by decide)
                  have hP : va_P D vwCl ([(za, (b13_0 0 z1 (nI z2) (nI z3) z4 z5 z6 z7 z8 z9 (nI z10) z11 z12 z13 z14 z15 (nI z16) z17 z18 z19))] ++ va_pl L M_76) H_64 := by rw [eM_76]; exact hP
                  have hD : va_D A ([(za, (b13_0 0 z1 (nI z2) (nI z3) z4 z5 z6 z7 z8 z9 (nI z10) z11 z12 z13 z14 z15 (nI z16) z17 z18 z19))] ++ va_pl L M_76) := by rw [eM_76]; exact hD
                  have hW : WOM cy K L M_76 := by rw [eM_76]; exact hW.up_12 hb_15 ⟨_, rfl, hn_68, hk_66⟩
                  have hF : fr K L [12, 14, 15, 32, 42, 45, 46, 79, 80, 81, 83, 86, 87, 88, 89, 90, 91, 92, 93, 94, 95, 96, 97, 98, 99] M M_76 := by rw [eM_76]; exact hF.up hb_15 (by decide)
                  have hG : fG K L [1, 7, 8, 13, 14, 15, 16, 17, 18] M M_76 := by rw [eM_76]; exact hG.up hM_45 (by decide)
                  have hM_77 : M_76 b13 = .inr (12, fs16.set 17 (.int 0)) := by rw [eM_76]; exact va_up_self _ _ _
                  refine lv_iconst (v := 0) hx hb dX13_close_137 (by decide) ?_
                  refine lv_istore (lv' := [(6, .int 0), (5, .int (-1)), (4, .int (nI c_33)), (3, .int 0), (2, .ref b13), (0, .ref za), (1, .int k1)]) hx hb dX13_close_138 hl (by decide) rfl (fun ls hl => ?_)
                  have key_78 : ∀ (fu_80 : Nat) (v6w81 : Nat) (M_83 : Hp) (H_84 : Heap) (locs : List Loc) (ls : Array Slot), 24 - v6w81 < fu_80 → M_83 b13 = .inr (12, fs16.set 17 (.int 0)) → v6w81 ≤ 24 → WOM cy K L M_83 → fr K L [12, 14, 15, 32, 42, 45, 46, 79, 80, 81, 83, 86, 87, 88, 89, 90, 91, 92, 93, 94, 95, 96, 97, 98, 99] M M_83 → fG K L [1, 7, 8, 13, 14, 15, 16, 17, 18] M M_83 → VW K L M M_83 b13 (va_up (fx M b13) 17 (0 : Int)) (ax M b13) → va_P D vwCl ([(za, (b13_0 0 z1 (nI z2) (nI z3) z4 z5 z6 z7 z8 z9 (nI z10) z11 z12 z13 z14 z15 (nI z16) z17 z18 z19))] ++ va_pl L M_83) H_84 → va_D A ([(za, (b13_0 0 z1 (nI z2) (nI z3) z4 z5 z6 z7 z8 z9 (nI z10) z11 z12 z13 z14 z15 (nI z16) z17 z18 z19))] ++ va_pl L M_83) → va_S A s.heap H_84 locs → lv_has ls 8 [(6, .int (nI v6w81)), (5, .int (-1)), (4, .int (nI c_33)), (3, .int 0), (2, .ref b13), (0, .ref za), (1, .int k1)] → W p l e R s m ([.ref za, .int k1] : List Value).toArray below meth c H_84 locs 0 0 Q (F0 m 140 ls []) := by
                    intro fu_80
                    induction fu_80 with
                    | zero => intro v6w81 M_83 H_84 locs ls h; exact absurd h (Nat.not_lt_zero _)
                    | succ fu_80 ih_79 =>
                      intro v6w81 M_83 H_84 locs ls hfu hM_85 hx_82 hW hF hG hV hP hD hS hl
                      refine lv_iload hx hb dX13_close_140 (lv_at hl 0 rfl) ?_
                      refine lv_bipush (v := 24) hx hb dX13_close_142 (by decide) ?_
                      refine lv_icmp_ge (tgt := 161) hx hb dX13_close_144 (by decide) (fun c_86 => ?_) (fun c_86 => ?_)
                      · have hz := rfl (a := 0)
                        have n_87 : 24 ≤ v6w81 := (iLE (a := 24) (b := v6w81) (by omega) (by omega)).mp c_86
                        refine lv_iload_n hx hb dX13_close_161 rfl (lv_at hl 3 rfl) ?_
                        refine lv_istore (lv' := [(6, .int 0), (5, .int (-1)), (4, .int (nI c_33)), (3, .int 0), (2, .ref b13), (0, .ref za), (1, .int k1)]) hx hb dX13_close_162 hl (by decide) rfl (fun ls hl => ?_)
                        have key_88 : ∀ (fu_90 : Nat) (v6w91 : Nat) (gnw91 : Nat) (gpw91 : Nat → Int32) (gqw91 : Nat → Int32) (M_95 : Hp) (H_96 : Heap) (locs : List Loc) (ls : Array Slot), 1001 - v6w91 < fu_90 → v6w91 ≤ c_33 + 1 → gnw91 = nst (prt (SX (k1 : Int32).toNatClampNeg) (SY (k1 : Int32).toNatClampNeg)) (SX (k1 : Int32).toNatClampNeg 1 + 1) (v6w91 - 0) → SD 0 gnw91 v6w91 gpw91 gqw91 → WOM cy K L M_95 → fr K L [12, 14, 15, 32, 42, 45, 46, 79, 80, 81, 83, 86, 87, 88, 89, 90, 91, 92, 93, 94, 95, 96, 97, 98, 99] M M_95 → fG K L [1, 7, 8, 13, 14, 15, 16, 17, 18] M M_95 → VW K L M M_95 b13 (va_up (fx M b13) 17 ((gnw91 : Nat) : Int)) (va_up (va_up (ax M b13) 44 gpw91) 45 gqw91) → va_P D vwCl ([(za, (b13_0 0 z1 (nI z2) (nI z3) z4 z5 z6 z7 z8 z9 (nI z10) z11 z12 z13 z14 z15 (nI z16) z17 z18 z19))] ++ va_pl L M_95) H_96 → va_D A ([(za, (b13_0 0 z1 (nI z2) (nI z3) z4 z5 z6 z7 z8 z9 (nI z10) z11 z12 z13 z14 z15 (nI z16) z17 z18 z19))] ++ va_pl L M_95) → va_S A s.heap H_96 locs → lv_has ls 8 [(6, .int (nI v6w91)), (5, .int (-1)), (4, .int (nI c_33)), (3, .int 0), (2, .ref b13), (0, .ref za), (1, .int k1)] → W p l e R s m ([.ref za, .int k1] : List Value).toArray below meth c H_96 locs 0 0 Q (F0 m 164 ls []) := by
                          intro fu_90
                          induction fu_90 with
                          | zero => intro v6w91 gnw91 gpw91 gqw91 M_95 H_96 locs ls h; exact absurd h (Nat.not_lt_zero _)
                          | succ fu_90 ih_89 =>
                            intro v6w91 gnw91 gpw91 gqw91 M_95 H_96 locs ls hfu hx_92 hx_93 hx_94 hW hF hG hV hP hD hS hl
                            refine lv_iload hx hb dX13_close_164 (lv_at hl 0 rfl) ?_
                            refine lv_iload hx hb dX13_close_166 (lv_at hl 2 rfl) ?_
                            refine lv_icmp_gt (tgt := 238) hx hb dX13_close_168 (by decide) (fun c_97 => ?_) (fun c_97 => ?_)
                            · have hz := rfl (a := 0)
                              have n_98 : c_33 < v6w91 := (iLT (a := c_33) (b := v6w91) (by omega) (by omega)).mp c_97
                              obtain ⟨fs99, hM99, hn99, hl99⟩ := hW.open_12 hb_15
                              obtain ⟨v100, hv100, hc100⟩ : ∃ v : Nat, fs99[17]? = some (.int (nI v) : Value) ∧ v ≤ 120 := hl99 17 (by decide)
                              have hx17 : ((gnw91 : Nat) : Int) = ((v100 : Nat) : Int) := (congrFun hV.2.1 17).symm.trans ((fx_of hM99 rfl hv100).trans (nI_toInt (by omega)))
                              have hSD := hx_94
                              obtain ⟨hs1, hs2, hs3, hs4⟩ := hx_94
                              have hNn : 1 ≤ gnw91 ∧ 1 ≤ (gqw91 0).toInt := by rcases hs3 with q | q <;> first | exact q | omega
                              have hN1 := hNn.1
                              have hs45 := hNn.2
                              have hcnt : gnw91 = nst (prt (SX (k1 : Int32).toNatClampNeg) (SY (k1 : Int32).toNatClampNeg)) (SX (k1 : Int32).toNatClampNeg 1 + 1) (((c_33 : Nat) : Int) - SX (k1 : Int32).toNatClampNeg 1).toNat := hx_93.trans (congrArg _ (by omega))
                              refine lv_aload_n hx hb dX13_close_238 rfl (lv_at hl 4 rfl) ?_
                              refine pg_getN (D := D) (ci := 12) (v := .int (nI v100)) (C := RX12) (T := TX12) (N := 51) hx hb hg inG12 hown hK hP hb_15.1 hM99 rfl 17 (by decide) (hN.use (Cond.fieldLinkNest RX13 256 RX12 "stretches" "I" RX13) 26 rfl rfl) (fun _ h9 => h9) hv100 dX13_close_239 ?_
                              refine lv_istore (lv' := [(6, .int (nI v100)), (5, .int (-1)), (4, .int (nI c_33)), (3, .int 0), (2, .ref b13), (0, .ref za), (1, .int k1)]) hx hb dX13_close_242 hl (by decide) rfl (fun ls hl => ?_)
                              refine lv_aload_n hx hb dX13_close_244 rfl (lv_at hl 5 rfl) ?_
                              refine lv_aload_n hx hb dX13_close_245 rfl (lv_at hl 4 rfl) ?_
                              refine lv_iload hx hb dX13_close_246 (lv_at hl 0 rfl) ?_
                              have hPc : va_P D vwCl ([(za, (b13_0 0 z1 (nI z2) (nI z3) z4 z5 z6 z7 z8 z9 (nI z10) z11 z12 z13 z14 z15 (nI z16) z17 z18 z19))] ++ va_pl L M_95) H_96 := hP
                              have hDc : va_D A ([(za, (b13_0 0 z1 (nI z2) (nI z3) z4 z5 z6 z7 z8 z9 (nI z10) z11 z12 z13 z14 z15 (nI z16) z17 z18 z19))] ++ va_pl L M_95) := hD
                              have hFc : ∀ q, va_A ([(za, (b13_0 0 z1 (nI z2) (nI z3) z4 z5 z6 z7 z8 z9 (nI z10) z11 z12 z13 z14 z15 (nI z16) z17 z18 z19))] ++ va_pl L M_95) H_96.size q → A q := pg_free hDc hS hA
                              refine va_callv (va_runV (As := [.ref b13, .int (nI v100)]) (rest := []) ⟨hx, hb, hml, hown, hg⟩ (g_X13_looses l D cy K L M_95 H_96.size za 0 z1 z2 z3 z4 z5 z6 z7 z8 z9 z10 z11 z12 z13 z14 z15 z16 z17 z18 z19 b13 v100  hW i1 b2 b3 i6 i7 i8 i9 b10 i11 i12 i13 i14 i15 b16 i17 i19 hb_15 (by omega) hV.2.2.2 (by omega) (by rw [hV.2.2.1]; exact hs45)) (cwV 2 hg (gV wd_857 wd_858 wd_859 wd_717 wd_860) rfl rfl rfl (by decide +kernel) ⟨(Nat.le_trans (Nat.le_of_ble_eq_true rfl) hRf), (Nat.le_trans (Nat.le_of_ble_eq_true rfl) hRl)⟩) ⟨PG.blind, va_recv hK hP (ci := 13) (q0 := 0) rfl rfl, fun U hU hW => ⟨rfl, PG.at hPc hK hDc hN hU hW⟩⟩ rfl rfl hl.1 rfl (lv_room (Nat.le_of_ble_eq_true rfl)) dX13_close_248 ⟨(Nat.le_trans (Nat.le_of_ble_eq_true rfl) hRc), (Nat.le_trans (Nat.le_of_ble_eq_true rfl) hRs)⟩) hS (fun q _ h => hFc q h) hFc (fun M_103 t H_101 locs ht hvm hw hB hz1 hk1 hS => ?_)
                              have hWb := hW
                              obtain ⟨hW, hF2, hG2, hp_104⟩ := hw
                              obtain ⟨hP1, hD1⟩ := hB
                              rw [ht] at hP1
                              have hP : va_P D vwCl ([(za, (b13_0 0 z1 (nI z2) (nI z3) z4 z5 z6 z7 z8 z9 (nI z10) z11 z12 z13 z14 z15 (nI z16) z17 z18 z19))] ++ va_pl L M_103) H_101 := hP1
                              have hD : va_D A ([(za, (b13_0 0 z1 (nI z2) (nI z3) z4 z5 z6 z7 z8 z9 (nI z10) z11 z12 z13 z14 z15 (nI z16) z17 z18 z19))] ++ va_pl L M_103) := hD1.mono hFc
                              have hM_105 : M_103 b13 = .inr (12, fs99) := (hF2.at hb_15 (by decide)).trans hM99
                              have hF : fr K L [12, 14, 15, 32, 42, 45, 46, 79, 80, 81, 83, 86, 87, 88, 89, 90, 91, 92, 93, 94, 95, 96, 97, 98, 99] M M_103 := hF.tr hF2 (by decide)
                              have hG : fG K L [1, 7, 8, 13, 14, 15, 16, 17, 18] M M_103 := hG.tr hWb hG2 (by decide)
                              have hV : VW K L M M_103 b13 (va_up (fx M b13) 17 ((gnw91 : Nat) : Int)) (va_up (va_up (ax M b13) 44 gpw91) 45 gqw91) := hV.cal hWb hW hF2 hG2 (by decide) (by decide) hb_15
                              refine lv_iconst (v := 0) hx hb dX13_close_251 (by decide) ?_
                              refine lv_istore (lv' := [(7, .int 0), (6, .int (nI v100)), (5, .int (-1)), (4, .int (nI c_33)), (3, .int 0), (2, .ref b13), (0, .ref za), (1, .int k1)]) hx hb dX13_close_252 hl (by decide) rfl (fun ls hl => ?_)
                              have key_106 : ∀ (fu_108 : Nat) (v7w109 : Nat) (zgw109 : Nat) (M_112 : Hp) (H_113 : Heap) (locs : List Loc) (ls : Array Slot), 1001 - v7w109 < fu_108 → v7w109 ≤ v100 → zgw109 ≤ 24 → WOM cy K L M_112 → fr K L [12, 14, 15, 32, 42, 45, 46, 79, 80, 81, 83, 86, 87, 88, 89, 90, 91, 92, 93, 94, 95, 96, 97, 98, 99] M M_112 → fG K L [1, 7, 8, 13, 14, 15, 16, 17, 18] M M_112 → VW K L M M_112 b13 (va_up (fx M b13) 17 ((gnw91 : Nat) : Int)) (va_up (va_up (ax M b13) 44 gpw91) 45 gqw91) → va_P D vwCl ([(za, (b13_0 0 z1 (nI z2) (nI z3) z4 z5 z6 z7 z8 z9 (nI z10) z11 z12 z13 z14 z15 (nI zgw109) z17 z18 z19))] ++ va_pl L M_112) H_113 → va_D A ([(za, (b13_0 0 z1 (nI z2) (nI z3) z4 z5 z6 z7 z8 z9 (nI z10) z11 z12 z13 z14 z15 (nI zgw109) z17 z18 z19))] ++ va_pl L M_112) → va_S A s.heap H_113 locs → lv_has ls 8 [(7, .int (nI v7w109)), (6, .int (nI v100)), (5, .int (-1)), (4, .int (nI c_33)), (3, .int 0), (2, .ref b13), (0, .ref za), (1, .int k1)] → W p l e R s m ([.ref za, .int k1] : List Value).toArray below meth c H_113 locs 0 0 Q (F0 m 254 ls []) := by
                                intro fu_108
                                induction fu_108 with
                                | zero => intro v7w109 zgw109 M_112 H_113 locs ls h; exact absurd h (Nat.not_lt_zero _)
                                | succ fu_108 ih_107 =>
                                  intro v7w109 zgw109 M_112 H_113 locs ls hfu hx_110 hx_111 hW hF hG hV hP hD hS hl
                                  refine lv_iload hx hb dX13_close_254 (lv_at hl 0 rfl) ?_
                                  refine lv_iload hx hb dX13_close_256 (lv_at hl 1 rfl) ?_
                                  refine lv_icmp_ge (tgt := 275) hx hb dX13_close_258 (by decide) (fun c_114 => ?_) (fun c_114 => ?_)
                                  · have hz := rfl (a := 0)
                                    have n_115 : v100 ≤ v7w109 := (iLE (a := v100) (b := v7w109) (by omega) (by omega)).mp c_114
                                    obtain ⟨fs116, hM116, hn116, hl116⟩ := hW.open_12 hb_15
                                    obtain ⟨v117, hv117, hc117⟩ : ∃ v : Nat, fs116[15]? = some (.int (nI v) : Value) ∧ v ≤ 20 := hl116 15 (by decide)
                                    have hx15 : (fx M b13 15) = ((v117 : Nat) : Int) := (congrFun hV.2.1 15).symm.trans ((fx_of hM116 rfl hv117).trans (nI_toInt (by omega)))
                                    refine lv_iconst (v := 0) hx hb dX13_close_275 (by decide) ?_
                                    refine lv_istore (lv' := [(7, .int 0), (6, .int (nI v100)), (5, .int (-1)), (4, .int (nI c_33)), (3, .int 0), (2, .ref b13), (0, .ref za), (1, .int k1)]) hx hb dX13_close_276 hl (by decide) rfl (fun ls hl => ?_)
                                    have key_118 : ∀ (fu_120 : Nat) (v7w121 : Nat) (zgw121 : Nat) (gnw121 : Nat) (gpw121 : Nat → Int32) (gqw121 : Nat → Int32) (M_127 : Hp) (H_128 : Heap) (locs : List Loc) (ls : Array Slot), 24 - v7w121 < fu_120 → v7w121 ≤ 20 → zgw121 ≤ 24 → ((v7w121 : Nat) : Int) ≤ SX (k1 : Int32).toNatClampNeg 15 → gnw121 = gnw91 + v7w121 → gnw121 ≤ 100 + v7w121 → WOM cy K L M_127 → fr K L [12, 14, 15, 32, 42, 45, 46, 79, 80, 81, 83, 86, 87, 88, 89, 90, 91, 92, 93, 94, 95, 96, 97, 98, 99] M M_127 → fG K L [1, 7, 8, 13, 14, 15, 16, 17, 18] M M_127 → VW K L M M_127 b13 (va_up (fx M b13) 17 ((gnw121 : Nat) : Int)) (va_up (va_up (ax M b13) 44 gpw121) 45 gqw121) → va_P D vwCl ([(za, (b13_0 0 z1 (nI z2) (nI z3) z4 z5 z6 z7 z8 z9 (nI z10) z11 z12 z13 z14 z15 (nI zgw121) z17 z18 z19))] ++ va_pl L M_127) H_128 → va_D A ([(za, (b13_0 0 z1 (nI z2) (nI z3) z4 z5 z6 z7 z8 z9 (nI z10) z11 z12 z13 z14 z15 (nI zgw121) z17 z18 z19))] ++ va_pl L M_127) → va_S A s.heap H_128 locs → lv_has ls 8 [(7, .int (nI v7w121)), (6, .int (nI v100)), (5, .int (-1)), (4, .int (nI c_33)), (3, .int 0), (2, .ref b13), (0, .ref za), (1, .int k1)] → W p l e R s m ([.ref za, .int k1] : List Value).toArray below meth c H_128 locs 0 0 Q (F0 m 278 ls []) := by
                                      intro fu_120
                                      induction fu_120 with
                                      | zero => intro v7w121 zgw121 gnw121 gpw121 gqw121 M_127 H_128 locs ls h; exact absurd h (Nat.not_lt_zero _)
                                      | succ fu_120 ih_119 =>
                                        intro v7w121 zgw121 gnw121 gpw121 gqw121 M_127 H_128 locs ls hfu hx_122 hx_123 hx_124 hx_125 hx_126 hW hF hG hV hP hD hS hl
                                        refine lv_iload hx hb dX13_close_278 (lv_at hl 0 rfl) ?_
                                        refine lv_aload_n hx hb dX13_close_280 rfl (lv_at hl 5 rfl) ?_
                                        obtain ⟨fs129, hM129, hn129, hl129⟩ := hW.open_12 hb_15
                                        obtain ⟨v130, hv130, hc130⟩ : ∃ v : Nat, fs129[15]? = some (.int (nI v) : Value) ∧ v ≤ 20 := hl129 15 (by decide)
                                        refine pg_getN (D := D) (ci := 12) (v := .int (nI v130)) (C := RX12) (T := TX12) (N := 51) hx hb hg inG12 hown hK hP hb_15.1 hM129 rfl 15 (by decide) (hN.use (Cond.fieldLinkNest RX13 279 RX12 "mends" "I" RX13) 24 rfl rfl) (fun _ h9 => h9) hv130 dX13_close_281 ?_
                                        refine lv_icmp_ge (tgt := 300) hx hb dX13_close_284 (by decide) (fun c_131 => ?_) (fun c_131 => ?_)
                                        · have hz := rfl (a := 0)
                                          have n_132 : v130 ≤ v7w121 := (iLE (a := v130) (b := v7w121) (by omega) (by omega)).mp c_131
                                          have hx15 : (fx M b13 15) = ((v130 : Nat) : Int) := (congrFun hV.2.1 15).symm.trans ((fx_of hM129 rfl hv130).trans (nI_toInt (by omega)))
                                          refine lv_aload_n hx hb dX13_close_300 rfl (lv_at hl 5 rfl) ?_
                                          refine lv_iload_n hx hb dX13_close_301 rfl (lv_at hl 4 rfl) ?_
                                          refine lv_iload hx hb dX13_close_302 (lv_at hl 3 rfl) ?_
                                          have hPc : va_P D vwCl ([] ++ va_pl L M_127) H_128 := hP.part (cx := []) [] rfl
                                          have hDc : va_D A ([] ++ va_pl L M_127) := hD.part (cx := []) [] (by decide) rfl
                                          have hFc : ∀ q, va_A ([] ++ va_pl L M_127) H_128.size q → A q := pg_free hDc hS hA
                                          refine va_callv (va_runS (As := [.ref b13, .int 0, .int (nI c_33)]) (rest := []) ⟨hx, hb, hml, hown, hg⟩ (r_settled2 l D cy K L M_127 H_128.size b13 0 (nI c_33)  hW hb_15 hV.2.2.2) (va_cwS 3 hg (gS wd_861 wd_862 wd_717 wd_863) rfl rfl rfl (by decide +kernel) ⟨(Nat.le_trans (Nat.le_of_ble_eq_true rfl) hRf), (Nat.le_trans (Nat.le_of_ble_eq_true rfl) hRl)⟩) ⟨PG.blind, fun U hU hW => ⟨rfl, PG.at hPc hK hDc hN hU hW⟩⟩ rfl rfl hl.1 rfl (lv_room (Nat.le_of_ble_eq_true rfl)) dX13_close_304 ⟨(Nat.le_trans (Nat.le_of_ble_eq_true rfl) hRc), (Nat.le_trans (Nat.le_of_ble_eq_true rfl) hRs)⟩) hS (fun q _ h => hFc q h) hFc (fun M_135 t H_133 locs ht hvm hw hB hz1 hk1 hS => ?_)
                                          have hWb := hW
                                          obtain ⟨hW, hF2, hG2, hVP, hp_136⟩ := hw
                                          obtain ⟨hP1, hD1⟩ := hB
                                          rw [ht] at hP1
                                          obtain ⟨hP, hD⟩ := va_joinP (X := [(za, (b13_0 0 z1 (nI z2) (nI z3) z4 z5 z6 z7 z8 z9 (nI z10) z11 z12 z13 z14 z15 (nI zgw121) z17 z18 z19))]) (cx := []) (wr := [(za, (b13_0 0 z1 (nI z2) (nI z3) z4 z5 z6 z7 z8 z9 (nI z10) z11 z12 z13 z14 z15 (nI zgw121) z17 z18 z19))]) (rx := []) (pl := va_pl L M_127) (pl1 := va_pl L M_135) hP hD [] [0] rfl rfl (by decide) (by decide) hk1 hFc hP1 hD1
                                          have hP : va_P D vwCl ([(za, (b13_0 0 z1 (nI z2) (nI z3) z4 z5 z6 z7 z8 z9 (nI z10) z11 z12 z13 z14 z15 (nI zgw121) z17 z18 z19))] ++ va_pl L M_135) H_133 := hP
                                          have hD : va_D A ([(za, (b13_0 0 z1 (nI z2) (nI z3) z4 z5 z6 z7 z8 z9 (nI z10) z11 z12 z13 z14 z15 (nI zgw121) z17 z18 z19))] ++ va_pl L M_135) := hD
                                          obtain ⟨fs137, hM137, hn137, hl137⟩ := hW.open_12 hb_15
                                          have hv_138 : fs137[15]? = some (.int (nI v130) : Value) := (hG2 _ hb_15 _ _ hM129 hM137 15 (by decide)).trans hv130
                                          have hF : fr K L [12, 14, 15, 32, 42, 45, 46, 79, 80, 81, 83, 86, 87, 88, 89, 90, 91, 92, 93, 94, 95, 96, 97, 98, 99] M M_135 := hF.tr hF2 (by decide)
                                          have hG : fG K L [1, 7, 8, 13, 14, 15, 16, 17, 18] M M_135 := hG.tr hWb hG2 (by decide)
                                          obtain ⟨n_139, p_140, q_141, r_142, n_143, h8, hle8, htr8, hV2⟩ := hVP
                                          rw [hV.2.1] at h8
                                          rw [hV.2.2.1] at htr8
                                          rw [hV.2.1, hV.2.2.1] at hV2
                                          have hn14 : (0 : Int) ≤ ((n_139 : Nat) : Int) := by omega
                                          have hV : VW K L M M_135 b13 (va_up (va_up (fx M b13) 17 ((gnw121 : Nat) : Int)) 14 ((n_139 : Nat) : Int)) (va_up (va_up (va_up (va_up (va_up (ax M b13) 44 gpw121) 45 gqw121) 38 p_140) 39 q_141) 40 r_142) := hV.tr hV2
                                          have h8s : fx M b13 14 = ((n_143 : Nat) : Int) := h8
                                          refine lv_aload_n hx hb dX13_close_307 rfl (lv_at hl 5 rfl) ?_
                                          refine lv_lconst (v := 0) hx hb dX13_close_308 (by decide) ?_
                                          refine pg_putN (D := D) (ci := 12) (v := .long 0) (ty := .long) (C := RX12) (T := TX12) (N := 51) hx hb hg inG12 tyX12 tyX12_ok nmX12 hown hK hP hD hS hb_15.1 hM137 rfl 7 (by decide) (hN.use (Cond.fieldLinkNest RX13 179 RX12 "loose" "J" RX13) 16 rfl rfl) (fun _ h9 => h9) rfl (by decide +kernel) rfl rfl (by rw [hn137]; decide) dX13_close_309 (fun H_144 locs hP hD hS => ?_)
                                          have hs_147 : (fs137.set 7 (.long 0))[7]? = some (.long 0) := List.getElem?_set_self (by rw [hn137]; decide)
                                          have hk_146 := fld12_set (k := 7) (w := .long 0) hl137 (show fld12 K L 7 (fs137.set 7 (.long 0)) from ⟨0, hs_147⟩)
                                          have hn_148 : (fs137.set 7 (.long 0)).length = 51 := by rw [List.length_set]; exact hn137
                                          have hv_149 : (fs137.set 7 (.long 0))[15]? = some (.int (nI v130)) := by rw [List.getElem?_set_ne (by decide)]; exact hv_138
                                          obtain ⟨M_150, eM_150⟩ : ∃ M1 : Hp, M1 = va_up M_135 b13 (.inr (12, fs137.set 7 (.long 0))) := ⟨_, rfl⟩
                                          have hV : VW K L M M_150 b13 (va_up (va_up (fx M b13) 17 ((gnw121 : Nat) : Int)) 14 ((n_139 : Nat) : Int)) (va_up (va_up (va_up (va_up (va_up (ax M b13) 44 gpw121) 45 gqw121) 38 p_140) 39 q_141) 40 r_142) := by rw [eM_150]; exact hV.put0 hW hb_15 hM137 rfl rfl
                                          have hP : va_P D vwCl ([(za, (b13_0 0 z1 (nI z2) (nI z3) z4 z5 z6 z7 z8 z9 (nI z10) z11 z12 z13 z14 z15 (nI zgw121) z17 z18 z19))] ++ va_pl L M_150) H_144 := by rw [eM_150]; exact hP
                                          have hD : va_D A ([(za, (b13_0 0 z1 (nI z2) (nI z3) z4 z5 z6 z7 z8 z9 (nI z10) z11 z12 z13 z14 z15 (nI zgw121) z17 z18 z19))] ++ va_pl L M_150) := by rw [eM_150]; exact hD
                                          have hW : WOM cy K L M_150 := by rw [eM_150]; exact hW.up_12 hb_15 ⟨_, rfl, hn_148, hk_146⟩
                                          have hF : fr K L [12, 14, 15, 32, 42, 45, 46, 79, 80, 81, 83, 86, 87, 88, 89, 90, 91, 92, 93, 94, 95, 96, 97, 98, 99] M M_150 := by rw [eM_150]; exact hF.up hb_15 (by decide)
                                          have hG : fG K L [1, 7, 8, 13, 14, 15, 16, 17, 18] M M_150 := by rw [eM_150]; exact hG.up hM137 (by decide)
                                          have hM_151 : M_150 b13 = .inr (12, fs137.set 7 (.long 0)) := by rw [eM_150]; exact va_up_self _ _ _
                                          refine lv_aload_n hx hb dX13_close_312 rfl (lv_at hl 5 rfl) ?_
                                          refine lv_iconst (v := 0) hx hb dX13_close_313 (by decide) ?_
                                          refine pg_putN (D := D) (ci := 12) (v := .int 0) (ty := .int) (C := RX12) (T := TX12) (N := 51) hx hb hg inG12 tyX12 tyX12_ok nmX12 hown hK hP hD hS hb_15.1 hM_151 rfl 15 (by decide) (hN.use (Cond.fieldLinkNest RX13 279 RX12 "mends" "I" RX13) 24 rfl rfl) (fun _ h9 => h9) rfl (by decide +kernel) rfl rfl (by rw [hn_148]; decide) dX13_close_314 (fun H_152 locs hP hD hS => ?_)
                                          have hs_155 : ((fs137.set 7 (.long 0)).set 15 (.int 0))[15]? = some (.int (nI 0)) := List.getElem?_set_self (by rw [hn_148]; decide)
                                          have hk_154 := fld12_set (k := 15) (w := .int 0) hk_146 (show fld12 K L 15 ((fs137.set 7 (.long 0)).set 15 (.int 0)) from ⟨0, hs_155, by omega⟩)
                                          have hn_156 : ((fs137.set 7 (.long 0)).set 15 (.int 0)).length = 51 := by rw [List.length_set]; exact hn_148
                                          have hv_157 : ((fs137.set 7 (.long 0)).set 15 (.int 0))[7]? = some (.long 0) := by rw [List.getElem?_set_ne (by decide)]; exact hs_147
                                          have hb_158 : 0 ≤ 20 := by omega
                                          obtain ⟨M_159, eM_159⟩ : ∃ M1 : Hp, M1 = va_up M_150 b13 (.inr (12, (fs137.set 7 (.long 0)).set 15 (.int 0))) := ⟨_, rfl⟩
                                          have hx15 : (fx M b13 15) = ((v130 : Nat) : Int) := (congrFun hV.2.1 15).symm.trans ((fx_of hM_151 rfl hv_149).trans (nI_toInt (by omega)))
                                          have hV : VW K L M M_159 b13 (va_up (va_up (va_up (fx M b13) 17 ((gnw121 : Nat) : Int)) 14 ((n_139 : Nat) : Int)) 15 (0 : Int)) (va_up (va_up (va_up (va_up (va_up (ax M b13) 44 gpw121) 45 gqw121) 38 p_140) 39 q_141) 40 r_142) := by rw [eM_159]; exact hV.put hW hb_15 hM_151 hn_148 rfl (by decide) rfl (by decide)
                                          have hP : va_P D vwCl ([(za, (b13_0 0 z1 (nI z2) (nI z3) z4 z5 z6 z7 z8 z9 (nI z10) z11 z12 z13 z14 z15 (nI zgw121) z17 z18 z19))] ++ va_pl L M_159) H_152 := by rw [eM_159]; exact hP
                                          have hD : va_D A ([(za, (b13_0 0 z1 (nI z2) (nI z3) z4 z5 z6 z7 z8 z9 (nI z10) z11 z12 z13 z14 z15 (nI zgw121) z17 z18 z19))] ++ va_pl L M_159) := by rw [eM_159]; exact hD
                                          have hW : WOM cy K L M_159 := by rw [eM_159]; exact hW.up_12 hb_15 ⟨_, rfl, hn_156, hk_154⟩
                                          have hF : fr K L [12, 14, 15, 32, 42, 45, 46, 79, 80, 81, 83, 86, 87, 88, 89, 90, 91, 92, 93, 94, 95, 96, 97, 98, 99] M M_159 := by rw [eM_159]; exact hF.up hb_15 (by decide)
                                          have hG : fG K L [1, 7, 8, 13, 14, 15, 16, 17, 18] M M_159 := by rw [eM_159]; exact hG.up hM_151 (by decide)
                                          have hM_160 : M_159 b13 = .inr (12, (fs137.set 7 (.long 0)).set 15 (.int 0)) := by rw [eM_159]; exact va_up_self _ _ _
                                          refine lv_aload_n hx hb dX13_close_317 rfl (lv_at hl 5 rfl) ?_
                                          refine lv_iconst (v := 0) hx hb dX13_close_318 (by decide) ?_
                                          refine pg_putN (D := D) (ci := 12) (v := .int 0) (ty := .int) (C := RX12) (T := TX12) (N := 51) hx hb hg inG12 tyX12 tyX12_ok nmX12 hown hK hP hD hS hb_15.1 hM_160 rfl 16 (by decide) (hN.use (Cond.fieldLinkNest RX13 161 RX12 "undone" "I" RX13) 25 rfl rfl) (fun _ h9 => h9) rfl (by decide +kernel) rfl rfl (by rw [hn_156]; decide) dX13_close_319 (fun H_161 locs hP hD hS => ?_)
                                          have hs_164 : (((fs137.set 7 (.long 0)).set 15 (.int 0)).set 16 (.int 0))[16]? = some (.int (nI 0)) := List.getElem?_set_self (by rw [hn_156]; decide)
                                          have hk_163 := fld12_set (k := 16) (w := .int 0) hk_154 (show fld12 K L 16 (((fs137.set 7 (.long 0)).set 15 (.int 0)).set 16 (.int 0)) from ⟨0, hs_164, by omega⟩)
                                          have hn_165 : (((fs137.set 7 (.long 0)).set 15 (.int 0)).set 16 (.int 0)).length = 51 := by rw [List.length_set]; exact hn_156
                                          have hv_166 : (((fs137.set 7 (.long 0)).set 15 (.int 0)).set 16 (.int 0))[7]? = some (.long 0) := by rw [List.getElem?_set_ne (by decide)]; exact hv_157
                                          have hv_167 : (((fs137.set 7 (.long 0)).set 15 (.int 0)).set 16 (.int 0))[15]? = some (.int (nI 0)) := by rw [List.getElem?_set_ne (by decide)]; exact hs_155
                                          have hb_168 : 0 ≤ 60 := by omega
                                          obtain ⟨M_169, eM_169⟩ : ∃ M1 : Hp, M1 = va_up M_159 b13 (.inr (12, ((fs137.set 7 (.long 0)).set 15 (.int 0)).set 16 (.int 0))) := ⟨_, rfl⟩
                                          have hV : VW K L M M_169 b13 (va_up (va_up (va_up (va_up (fx M b13) 17 ((gnw121 : Nat) : Int)) 14 ((n_139 : Nat) : Int)) 15 (0 : Int)) 16 (0 : Int)) (va_up (va_up (va_up (va_up (va_up (ax M b13) 44 gpw121) 45 gqw121) 38 p_140) 39 q_141) 40 r_142) := by rw [eM_169]; exact hV.put hW hb_15 hM_160 hn_156 rfl (by decide) rfl (by decide)
                                          have hP : va_P D vwCl ([(za, (b13_0 0 z1 (nI z2) (nI z3) z4 z5 z6 z7 z8 z9 (nI z10) z11 z12 z13 z14 z15 (nI zgw121) z17 z18 z19))] ++ va_pl L M_169) H_161 := by rw [eM_169]; exact hP
                                          have hD : va_D A ([(za, (b13_0 0 z1 (nI z2) (nI z3) z4 z5 z6 z7 z8 z9 (nI z10) z11 z12 z13 z14 z15 (nI zgw121) z17 z18 z19))] ++ va_pl L M_169) := by rw [eM_169]; exact hD
                                          have hW : WOM cy K L M_169 := by rw [eM_169]; exact hW.up_12 hb_15 ⟨_, rfl, hn_165, hk_163⟩
                                          have hF : fr K L [12, 14, 15, 32, 42, 45, 46, 79, 80, 81, 83, 86, 87, 88, 89, 90, 91, 92, 93, 94, 95, 96, 97, 98, 99] M M_169 := by rw [eM_169]; exact hF.up hb_15 (by decide)
                                          have hG : fG K L [1, 7, 8, 13, 14, 15, 16, 17, 18] M M_169 := by rw [eM_169]; exact hG.up hM_160 (by decide)
                                          have hM_170 : M_169 b13 = .inr (12, ((fs137.set 7 (.long 0)).set 15 (.int 0)).set 16 (.int 0)) := by rw [eM_169]; exact va_up_self _ _ _
                                          refine lv_aload_n hx hb dX13_close_322 rfl (lv_at hl 5 rfl) ?_
                                          refine lv_iload hx hb dX13_close_323 (lv_at hl 3 rfl) ?_
                                          refine pg_putN (D := D) (ci := 12) (v := .int (nI c_33)) (ty := .int) (C := RX12) (T := TX12) (N := 51) hx hb hg inG12 tyX12 tyX12_ok nmX12 hown hK hP hD hS hb_15.1 hM_170 rfl 1 (by decide) (hN.use (Cond.fieldLinkNest RX13 80 RX12 "to" "I" RX13) 10 rfl rfl) (fun _ h9 => h9) rfl (by decide +kernel) rfl rfl (by rw [hn_165]; decide) dX13_close_325 (fun H_171 locs hP hD hS => ?_)
                                          have hs_174 : ((((fs137.set 7 (.long 0)).set 15 (.int 0)).set 16 (.int 0)).set 1 (.int (nI c_33)))[1]? = some (.int (nI c_33)) := List.getElem?_set_self (by rw [hn_165]; decide)
                                          have hk_173 := fld12_set (k := 1) (w := .int (nI c_33)) hk_163 (show fld12 K L 1 ((((fs137.set 7 (.long 0)).set 15 (.int 0)).set 16 (.int 0)).set 1 (.int (nI c_33))) from ⟨(nI c_33), hs_174, Or.inr ⟨c_33, by omega, rfl⟩⟩)
                                          have hn_175 : ((((fs137.set 7 (.long 0)).set 15 (.int 0)).set 16 (.int 0)).set 1 (.int (nI c_33))).length = 51 := by rw [List.length_set]; exact hn_165
                                          have hv_176 : ((((fs137.set 7 (.long 0)).set 15 (.int 0)).set 16 (.int 0)).set 1 (.int (nI c_33)))[7]? = some (.long 0) := by rw [List.getElem?_set_ne (by decide)]; exact hv_166
                                          have hv_177 : ((((fs137.set 7 (.long 0)).set 15 (.int 0)).set 16 (.int 0)).set 1 (.int (nI c_33)))[15]? = some (.int (nI 0)) := by rw [List.getElem?_set_ne (by decide)]; exact hv_167
                                          have hv_178 : ((((fs137.set 7 (.long 0)).set 15 (.int 0)).set 16 (.int 0)).set 1 (.int (nI c_33)))[16]? = some (.int (nI 0)) := by rw [List.getElem?_set_ne (by decide)]; exact hs_164
                                          obtain ⟨M_179, eM_179⟩ : ∃ M1 : Hp, M1 = va_up M_169 b13 (.inr (12, (((fs137.set 7 (.long 0)).set 15 (.int 0)).set 16 (.int 0)).set 1 (.int (nI c_33)))) := ⟨_, rfl⟩
                                          have hV : VW K L M M_179 b13 (va_up (va_up (va_up (va_up (va_up (fx M b13) 17 ((gnw121 : Nat) : Int)) 14 ((n_139 : Nat) : Int)) 15 (0 : Int)) 16 (0 : Int)) 1 ((c_33 : Nat) : Int)) (va_up (va_up (va_up (va_up (va_up (ax M b13) 44 gpw121) 45 gqw121) 38 p_140) 39 q_141) 40 r_142) := by rw [eM_179]; exact hV.put hW hb_15 hM_170 hn_165 rfl (by decide) rfl (nI_toInt (by omega))
                                          have hP : va_P D vwCl ([(za, (b13_0 0 z1 (nI z2) (nI z3) z4 z5 z6 z7 z8 z9 (nI z10) z11 z12 z13 z14 z15 (nI zgw121) z17 z18 z19))] ++ va_pl L M_179) H_171 := by rw [eM_179]; exact hP
                                          have hD : va_D A ([(za, (b13_0 0 z1 (nI z2) (nI z3) z4 z5 z6 z7 z8 z9 (nI z10) z11 z12 z13 z14 z15 (nI zgw121) z17 z18 z19))] ++ va_pl L M_179) := by rw [eM_179]; exact hD
                                          have hW : WOM cy K L M_179 := by rw [eM_179]; exact hW.up_12 hb_15 ⟨_, rfl, hn_175, hk_173⟩
                                          have hF : fr K L [12, 14, 15, 32, 42, 45, 46, 79, 80, 81, 83, 86, 87, 88, 89, 90, 91, 92, 93, 94, 95, 96, 97, 98, 99] M M_179 := by rw [eM_179]; exact hF.up hb_15 (by decide)
                                          have hG : fG K L [1, 7, 8, 13, 14, 15, 16, 17, 18] M M_179 := by rw [eM_179]; exact hG.up hM_170 (by decide)
                                          have hM_180 : M_179 b13 = .inr (12, (((fs137.set 7 (.long 0)).set 15 (.int 0)).set 16 (.int 0)).set 1 (.int (nI c_33))) := by rw [eM_179]; exact va_up_self _ _ _
                                          refine lv_aload_n hx hb dX13_close_328 rfl (lv_at hl 5 rfl) ?_
                                          refine lv_dup hx hb dX13_close_329 rfl ?_
                                          obtain ⟨v181, hv181, hc181⟩ : ∃ v : Nat, ((((fs137.set 7 (.long 0)).set 15 (.int 0)).set 16 (.int 0)).set 1 (.int (nI c_33)))[13]? = some (.int (nI v) : Value) ∧ v ≤ 12 := hk_173 13 (by decide)
                                          refine pg_getN (D := D) (ci := 12) (v := .int (nI v181)) (C := RX12) (T := TX12) (N := 51) hx hb hg inG12 hown hK hP hb_15.1 hM_180 rfl 13 (by decide) (hN.use (Cond.fieldLinkNest RX13 244 RX12 "closed" "I" RX13) 22 rfl rfl) (fun _ h9 => h9) hv181 dX13_close_330 ?_
                                          have hx13 : (fx M b13 13) = ((v181 : Nat) : Int) := (congrFun hV.2.1 13).symm.trans ((fx_of hM_180 rfl hv181).trans (nI_toInt (by omega)))
                                          refine lv_iconst (v := 1) hx hb dX13_close_333 (by decide) ?_
                                          refine lv_iadd hx hb dX13_close_334 ?_
                                          refine lv_topi (fun f_182 ef_182 => ?_)
                                          obtain rfl : f_182 = (nI (v181 + 1)) := ef_182.trans (nI_add v181 1)
                                          refine pg_putN (D := D) (ci := 12) (v := .int (nI (v181 + 1))) (ty := .int) (C := RX12) (T := TX12) (N := 51) hx hb hg inG12 tyX12 tyX12_ok nmX12 hown hK hP hD hS hb_15.1 hM_180 rfl 13 (by decide) (hN.use (Cond.fieldLinkNest RX13 244 RX12 "closed" "I" RX13) 22 rfl rfl) (fun _ h9 => h9) rfl (by decide +kernel) rfl rfl (by rw [hn_175]; decide) dX13_close_335 (fun H_183 locs hP hD hS => ?_)
                                          have hs_186 : (((((fs137.set 7 (.long 0)).set 15 (.int 0)).set 16 (.int 0)).set 1 (.int (nI c_33))).set 13 (.int (nI (v181 + 1))))[13]? = some (.int (nI (v181 + 1))) := List.getElem?_set_self (by rw [hn_175]; decide)
                                          have hk_185 := fld12_set (k := 13) (w := .int (nI (v181 + 1))) hk_173 (show fld12 K L 13 (((((fs137.set 7 (.long 0)).set 15 (.int 0)).set 16 (.int 0)).set 1 (.int (nI c_33))).set 13 (.int (nI (v181 + 1)))) from ⟨(v181 + 1), hs_186, by omega⟩)
                                          have hn_187 : (((((fs137.set 7 (.long 0)).set 15 (.int 0)).set 16 (.int 0)).set 1 (.int (nI c_33))).set 13 (.int (nI (v181 + 1)))).length = 51 := by rw [List.length_set]; exact hn_175
                                          have hv_188 : (((((fs137.set 7 (.long 0)).set 15 (.int 0)).set 16 (.int 0)).set 1 (.int (nI c_33))).set 13 (.int (nI (v181 + 1))))[7]? = some (.long 0) := by rw [List.getElem?_set_ne (by decide)]; exact hv_176
                                          have hv_189 : (((((fs137.set 7 (.long 0)).set 15 (.int 0)).set 16 (.int 0)).set 1 (.int (nI c_33))).set 13 (.int (nI (v181 + 1))))[15]? = some (.int (nI 0)) := by rw [List.getElem?_set_ne (by decide)]; exact hv_177
                                          have hv_190 : (((((fs137.set 7 (.long 0)).set 15 (.int 0)).set 16 (.int 0)).set 1 (.int (nI c_33))).set 13 (.int (nI (v181 + 1))))[16]? = some (.int (nI 0)) := by rw [List.getElem?_set_ne (by decide)]; exact hv_178
                                          have hv_191 : (((((fs137.set 7 (.long 0)).set 15 (.int 0)).set 16 (.int 0)).set 1 (.int (nI c_33))).set 13 (.int (nI (v181 + 1))))[1]? = some (.int (nI c_33)) := by rw [List.getElem?_set_ne (by decide)]; exact hs_174
                                          have hb_192 : (v181 + 1) ≤ 12 := by omega
                                          obtain ⟨M_193, eM_193⟩ : ∃ M1 : Hp, M1 = va_up M_179 b13 (.inr (12, ((((fs137.set 7 (.long 0)).set 15 (.int 0)).set 16 (.int 0)).set 1 (.int (nI c_33))).set 13 (.int (nI (v181 + 1))))) := ⟨_, rfl⟩
                                          have hx13 : (fx M b13 13) = ((v181 : Nat) : Int) := (congrFun hV.2.1 13).symm.trans ((fx_of hM_180 rfl hv181).trans (nI_toInt (by omega)))
                                          have hV : VW K L M M_193 b13 (va_up (va_up (va_up (va_up (va_up (va_up (fx M b13) 17 ((gnw121 : Nat) : Int)) 14 ((n_139 : Nat) : Int)) 15 (0 : Int)) 16 (0 : Int)) 1 ((c_33 : Nat) : Int)) 13 (((v181 + 1) : Nat) : Int)) (va_up (va_up (va_up (va_up (va_up (ax M b13) 44 gpw121) 45 gqw121) 38 p_140) 39 q_141) 40 r_142) := by rw [eM_193]; exact hV.put hW hb_15 hM_180 hn_175 rfl (by decide) rfl (nI_toInt (by omega))
                                          have hP : va_P D vwCl ([(za, (b13_0 0 z1 (nI z2) (nI z3) z4 z5 z6 z7 z8 z9 (nI z10) z11 z12 z13 z14 z15 (nI zgw121) z17 z18 z19))] ++ va_pl L M_193) H_183 := by rw [eM_193]; exact hP
                                          have hD : va_D A ([(za, (b13_0 0 z1 (nI z2) (nI z3) z4 z5 z6 z7 z8 z9 (nI z10) z11 z12 z13 z14 z15 (nI zgw121) z17 z18 z19))] ++ va_pl L M_193) := by rw [eM_193]; exact hD
                                          have hW : WOM cy K L M_193 := by rw [eM_193]; exact hW.up_12 hb_15 ⟨_, rfl, hn_187, hk_185⟩
                                          have hF : fr K L [12, 14, 15, 32, 42, 45, 46, 79, 80, 81, 83, 86, 87, 88, 89, 90, 91, 92, 93, 94, 95, 96, 97, 98, 99] M M_193 := by rw [eM_193]; exact hF.up hb_15 (by decide)
                                          have hG : fG K L [1, 7, 8, 13, 14, 15, 16, 17, 18] M M_193 := by rw [eM_193]; exact hG.up hM_180 (by decide)
                                          have hM_194 : M_193 b13 = .inr (12, ((((fs137.set 7 (.long 0)).set 15 (.int 0)).set 16 (.int 0)).set 1 (.int (nI c_33))).set 13 (.int (nI (v181 + 1)))) := by rw [eM_193]; exact va_up_self _ _ _
                                          refine lv_aload_n hx hb dX13_close_338 rfl (lv_at hl 5 rfl) ?_
                                          refine lv_iconst (v := 1) hx hb dX13_close_339 (by decide) ?_
                                          refine pg_putN (D := D) (ci := 12) (v := .int 1) (ty := .boolean) (C := RX12) (T := TX12) (N := 51) hx hb hg inG12 tyX12 tyX12_ok nmX12 hown hK hP hD hS hb_15.1 hM_194 rfl 18 (by decide) (hN.use (Cond.fieldLinkNest RX13 288 RX12 "hasClosed" "Z" RX13) 27 rfl rfl) (fun _ h9 => h9) rfl (by decide +kernel) rfl rfl (by rw [hn_187]; decide) dX13_close_340 (fun H_195 locs hP hD hS => ?_)
                                          have hs_198 : ((((((fs137.set 7 (.long 0)).set 15 (.int 0)).set 16 (.int 0)).set 1 (.int (nI c_33))).set 13 (.int (nI (v181 + 1)))).set 18 (.int 1))[18]? = some (.int 1) := List.getElem?_set_self (by rw [hn_187]; decide)
                                          have hk_197 := fld12_set (k := 18) (w := .int 1) hk_185 (show fld12 K L 18 ((((((fs137.set 7 (.long 0)).set 15 (.int 0)).set 16 (.int 0)).set 1 (.int (nI c_33))).set 13 (.int (nI (v181 + 1)))).set 18 (.int 1)) from ⟨1, hs_198, by decide⟩)
                                          have hn_199 : ((((((fs137.set 7 (.long 0)).set 15 (.int 0)).set 16 (.int 0)).set 1 (.int (nI c_33))).set 13 (.int (nI (v181 + 1)))).set 18 (.int 1)).length = 51 := by rw [List.length_set]; exact hn_187
                                          have hv_200 : ((((((fs137.set 7 (.long 0)).set 15 (.int 0)).set 16 (.int 0)).set 1 (.int (nI c_33))).set 13 (.int (nI (v181 + 1)))).set 18 (.int 1))[7]? = some (.long 0) := by rw [List.getElem?_set_ne (by decide)]; exact hv_188
                                          have hv_201 : ((((((fs137.set 7 (.long 0)).set 15 (.int 0)).set 16 (.int 0)).set 1 (.int (nI c_33))).set 13 (.int (nI (v181 + 1)))).set 18 (.int 1))[15]? = some (.int (nI 0)) := by rw [List.getElem?_set_ne (by decide)]; exact hv_189
                                          have hv_202 : ((((((fs137.set 7 (.long 0)).set 15 (.int 0)).set 16 (.int 0)).set 1 (.int (nI c_33))).set 13 (.int (nI (v181 + 1)))).set 18 (.int 1))[16]? = some (.int (nI 0)) := by rw [List.getElem?_set_ne (by decide)]; exact hv_190
                                          have hv_203 : ((((((fs137.set 7 (.long 0)).set 15 (.int 0)).set 16 (.int 0)).set 1 (.int (nI c_33))).set 13 (.int (nI (v181 + 1)))).set 18 (.int 1))[1]? = some (.int (nI c_33)) := by rw [List.getElem?_set_ne (by decide)]; exact hv_191
                                          have hv_204 : ((((((fs137.set 7 (.long 0)).set 15 (.int 0)).set 16 (.int 0)).set 1 (.int (nI c_33))).set 13 (.int (nI (v181 + 1)))).set 18 (.int 1))[13]? = some (.int (nI (v181 + 1))) := by rw [List.getElem?_set_ne (by decide)]; exact hs_186
                                          obtain ⟨M_205, eM_205⟩ : ∃ M1 : Hp, M1 = va_up M_193 b13 (.inr (12, (((((fs137.set 7 (.long 0)).set 15 (.int 0)).set 16 (.int 0)).set 1 (.int (nI c_33))).set 13 (.int (nI (v181 + 1)))).set 18 (.int 1))) := ⟨_, rfl⟩
                                          have hV : VW K L M M_205 b13 (va_up (va_up (va_up (va_up (va_up (va_up (va_up (fx M b13) 17 ((gnw121 : Nat) : Int)) 14 ((n_139 : Nat) : Int)) 15 (0 : Int)) 16 (0 : Int)) 1 ((c_33 : Nat) : Int)) 13 (((v181 + 1) : Nat) : Int)) 18 (1 : Int)) (va_up (va_up (va_up (va_up (va_up (ax M b13) 44 gpw121) 45 gqw121) 38 p_140) 39 q_141) 40 r_142) := by rw [eM_205]; exact hV.put hW hb_15 hM_194 hn_187 rfl (by decide) rfl (by decide)
                                          have hP : va_P D vwCl ([(za, (b13_0 0 z1 (nI z2) (nI z3) z4 z5 z6 z7 z8 z9 (nI z10) z11 z12 z13 z14 z15 (nI zgw121) z17 z18 z19))] ++ va_pl L M_205) H_195 := by rw [eM_205]; exact hP
                                          have hD : va_D A ([(za, (b13_0 0 z1 (nI z2) (nI z3) z4 z5 z6 z7 z8 z9 (nI z10) z11 z12 z13 z14 z15 (nI zgw121) z17 z18 z19))] ++ va_pl L M_205) := by rw [eM_205]; exact hD
                                          have hW : WOM cy K L M_205 := by rw [eM_205]; exact hW.up_12 hb_15 ⟨_, rfl, hn_199, hk_197⟩
                                          have hF : fr K L [12, 14, 15, 32, 42, 45, 46, 79, 80, 81, 83, 86, 87, 88, 89, 90, 91, 92, 93, 94, 95, 96, 97, 98, 99] M M_205 := by rw [eM_205]; exact hF.up hb_15 (by decide)
                                          have hG : fG K L [1, 7, 8, 13, 14, 15, 16, 17, 18] M M_205 := by rw [eM_205]; exact hG.up hM_194 (by decide)
                                          have hM_206 : M_205 b13 = .inr (12, (((((fs137.set 7 (.long 0)).set 15 (.int 0)).set 16 (.int 0)).set 1 (.int (nI c_33))).set 13 (.int (nI (v181 + 1)))).set 18 (.int 1)) := by rw [eM_205]; exact va_up_self _ _ _
                                          refine lv_aload_n hx hb dX13_close_343 rfl (lv_at hl 6 rfl) ?_
                                          refine lv_aload_n hx hb dX13_close_344 rfl (lv_at hl 5 rfl) ?_
                                          refine lv_iload hx hb dX13_close_345 (lv_at hl 3 rfl) ?_
                                          have hPc : va_P D vwCl ([(za, (b13_0 0 z1 (nI z2) (nI z3) z4 z5 z6 z7 z8 z9 (nI z10) z11 z12 z13 z14 z15 (nI zgw121) z17 z18 z19))] ++ va_pl L M_205) H_195 := hP
                                          have hDc : va_D A ([(za, (b13_0 0 z1 (nI z2) (nI z3) z4 z5 z6 z7 z8 z9 (nI z10) z11 z12 z13 z14 z15 (nI zgw121) z17 z18 z19))] ++ va_pl L M_205) := hD
                                          have hFc : ∀ q, va_A ([(za, (b13_0 0 z1 (nI z2) (nI z3) z4 z5 z6 z7 z8 z9 (nI z10) z11 z12 z13 z14 z15 (nI zgw121) z17 z18 z19))] ++ va_pl L M_205) H_195.size q → A q := pg_free hDc hS hA
                                          refine va_callv (va_runV (As := [.ref b13, .int (nI c_33)]) (rest := []) ⟨hx, hb, hml, hown, hg⟩ (g_X13_incomes l D cy K L M_205 H_195.size za 0 z1 z2 z3 z4 z5 z6 z7 z8 z9 z10 z11 z12 z13 z14 z15 zgw121 z17 z18 z19 b13 c_33  hW i1 b2 b3 i6 i7 i8 i9 b10 i11 i12 i13 i14 i15 (by omega) i17 i19 hb_15 hc_34 (R5.mv hR5 i6 i7 hF (by decide) (by decide))) (cwV 2 hg (gV wd_864 wd_865 wd_866 wd_717 wd_867) rfl rfl rfl (by decide +kernel) ⟨(Nat.le_trans (Nat.le_of_ble_eq_true rfl) hRf), (Nat.le_trans (Nat.le_of_ble_eq_true rfl) hRl)⟩) ⟨PG.blind, va_recv hK hP (ci := 13) (q0 := 0) rfl rfl, fun U hU hW => ⟨rfl, PG.at hPc hK hDc hN hU hW⟩⟩ rfl rfl hl.1 rfl (lv_room (Nat.le_of_ble_eq_true rfl)) dX13_close_347 ⟨(Nat.le_trans (Nat.le_of_ble_eq_true rfl) hRc), (Nat.le_trans (Nat.le_of_ble_eq_true rfl) hRs)⟩) hS (fun q _ h => hFc q h) hFc (fun M_209 t H_207 locs ht hvm hw hB hz1 hk1 hS => ?_)
                                          have hWb := hW
                                          obtain ⟨hW, hF2, hG2, hp_210⟩ := hw
                                          obtain ⟨hP1, hD1⟩ := hB
                                          rw [ht] at hP1
                                          have hP : va_P D vwCl ([(za, (b13_0 0 z1 (nI z2) (nI z3) z4 z5 z6 z7 z8 z9 (nI z10) z11 z12 z13 z14 z15 (nI zgw121) z17 z18 z19))] ++ va_pl L M_209) H_207 := hP1
                                          have hD : va_D A ([(za, (b13_0 0 z1 (nI z2) (nI z3) z4 z5 z6 z7 z8 z9 (nI z10) z11 z12 z13 z14 z15 (nI zgw121) z17 z18 z19))] ++ va_pl L M_209) := hD1.mono hFc
                                          obtain ⟨fs211, hM211, hn211, hl211⟩ := hW.open_12 hb_15
                                          have hv_212 : fs211[15]? = some (.int (nI 0) : Value) := (hG2 _ hb_15 _ _ hM_206 hM211 15 (by decide)).trans hv_201
                                          have hv_213 : fs211[16]? = some (.int (nI 0) : Value) := (hG2 _ hb_15 _ _ hM_206 hM211 16 (by decide)).trans hv_202
                                          have hv_214 : fs211[1]? = some (.int (nI c_33) : Value) := (hG2 _ hb_15 _ _ hM_206 hM211 1 (by decide)).trans hv_203
                                          have hv_215 : fs211[13]? = some (.int (nI (v181 + 1)) : Value) := (hG2 _ hb_15 _ _ hM_206 hM211 13 (by decide)).trans hv_204
                                          have hv_216 : fs211[18]? = some (.int 1 : Value) := (hG2 _ hb_15 _ _ hM_206 hM211 18 (by decide)).trans hs_198
                                          have hF : fr K L [12, 14, 15, 32, 42, 45, 46, 79, 80, 81, 83, 86, 87, 88, 89, 90, 91, 92, 93, 94, 95, 96, 97, 98, 99] M M_209 := hF.tr hF2 (by decide)
                                          have hG : fG K L [1, 7, 8, 13, 14, 15, 16, 17, 18] M M_209 := hG.tr hWb hG2 (by decide)
                                          have hV : VW K L M M_209 b13 (va_up (va_up (va_up (va_up (va_up (va_up (va_up (fx M b13) 17 ((gnw121 : Nat) : Int)) 14 ((n_139 : Nat) : Int)) 15 (0 : Int)) 16 (0 : Int)) 1 ((c_33 : Nat) : Int)) 13 (((v181 + 1) : Nat) : Int)) 18 (1 : Int)) (va_up (va_up (va_up (va_up (va_up (ax M b13) 44 gpw121) 45 gqw121) 38 p_140) 39 q_141) 40 r_142) := hV.cal hWb hW hF2 hG2 (by decide) (by decide) hb_15
                                          refine lv_aload_n hx hb dX13_close_350 rfl (lv_at hl 5 rfl) ?_
                                          refine lv_iload hx hb dX13_close_351 (lv_at hl 3 rfl) ?_
                                          have hPc : va_P D vwCl ([] ++ va_pl L M_209) H_207 := hP.part (cx := []) [] rfl
                                          have hDc : va_D A ([] ++ va_pl L M_209) := hD.part (cx := []) [] (by decide) rfl
                                          have hFc : ∀ q, va_A ([] ++ va_pl L M_209) H_207.size q → A q := pg_free hDc hS hA
                                          refine va_callv (va_runS (As := [.ref b13, .int (nI c_33)]) (rest := []) ⟨hx, hb, hml, hown, hg⟩ (z_ends l D cy K L M_209 H_207.size b13 c_33  hW hb_15 hc_34 hV.2.2.2 (by rw [hV.2.1, hV.2.2.1]; exact hAT.2.2.1)) (va_cwS 2 hg (gS wd_868 wd_869 wd_717 wd_870) rfl rfl rfl (by decide +kernel) ⟨(Nat.le_trans (Nat.le_of_ble_eq_true rfl) hRf), (Nat.le_trans (Nat.le_of_ble_eq_true rfl) hRl)⟩) ⟨PG.blind, fun U hU hW => ⟨rfl, PG.at hPc hK hDc hN hU hW⟩⟩ rfl rfl hl.1 rfl (lv_room (Nat.le_of_ble_eq_true rfl)) dX13_close_353 ⟨(Nat.le_trans (Nat.le_of_ble_eq_true rfl) hRc), (Nat.le_trans (Nat.le_of_ble_eq_true rfl) hRs)⟩) hS (fun q _ h => hFc q h) hFc (fun M_219 t H_217 locs ht hvm hw hB hz1 hk1 hS => ?_)
                                          have hWb := hW
                                          obtain ⟨hW, hF2, hG2, hVP, hp_220⟩ := hw
                                          obtain ⟨hP1, hD1⟩ := hB
                                          rw [ht] at hP1
                                          obtain ⟨hP, hD⟩ := va_joinP (X := [(za, (b13_0 0 z1 (nI z2) (nI z3) z4 z5 z6 z7 z8 z9 (nI z10) z11 z12 z13 z14 z15 (nI zgw121) z17 z18 z19))]) (cx := []) (wr := [(za, (b13_0 0 z1 (nI z2) (nI z3) z4 z5 z6 z7 z8 z9 (nI z10) z11 z12 z13 z14 z15 (nI zgw121) z17 z18 z19))]) (rx := []) (pl := va_pl L M_209) (pl1 := va_pl L M_219) hP hD [] [0] rfl rfl (by decide) (by decide) hk1 hFc hP1 hD1
                                          have hP : va_P D vwCl ([(za, (b13_0 0 z1 (nI z2) (nI z3) z4 z5 z6 z7 z8 z9 (nI z10) z11 z12 z13 z14 z15 (nI zgw121) z17 z18 z19))] ++ va_pl L M_219) H_217 := hP
                                          have hD : va_D A ([(za, (b13_0 0 z1 (nI z2) (nI z3) z4 z5 z6 z7 z8 z9 (nI z10) z11 z12 z13 z14 z15 (nI zgw121) z17 z18 z19))] ++ va_pl L M_219) := hD
                                          have hM_221 : M_219 b13 = .inr (12, fs211) := (hF2.at hb_15 (by decide)).trans hM211
                                          have hF : fr K L [12, 14, 15, 32, 42, 45, 46, 79, 80, 81, 83, 86, 87, 88, 89, 90, 91, 92, 93, 94, 95, 96, 97, 98, 99] M M_219 := hF.tr hF2 (by decide)
                                          have hG : fG K L [1, 7, 8, 13, 14, 15, 16, 17, 18] M M_219 := hG.tr hWb hG2 (by decide)
                                          obtain ⟨g_222, hg23, hV2⟩ := hVP
                                          rw [hV.2.1, hV.2.2.1] at hg23
                                          rw [hV.2.1, hV.2.2.1] at hV2
                                          have hV : VW K L M M_219 b13 (va_up (va_up (va_up (va_up (va_up (va_up (va_up (fx M b13) 17 ((gnw121 : Nat) : Int)) 14 ((n_139 : Nat) : Int)) 15 (0 : Int)) 16 (0 : Int)) 1 ((c_33 : Nat) : Int)) 13 (((v181 + 1) : Nat) : Int)) 18 (1 : Int)) (va_up (va_up (va_up (va_up (va_up (va_up (ax M b13) 44 gpw121) 45 gqw121) 38 p_140) 39 q_141) 40 r_142) 23 g_222) := hV.tr hV2
                                          refine lv_aload_n hx hb dX13_close_356 rfl (lv_at hl 6 rfl) ?_
                                          refine lv_aload_n hx hb dX13_close_357 rfl (lv_at hl 5 rfl) ?_
                                          refine pg_getN (D := D) (ci := 12) (v := .int (nI (v181 + 1))) (C := RX12) (T := TX12) (N := 51) hx hb hg inG12 hown hK hP hb_15.1 hM_221 rfl 13 (by decide) (hN.use (Cond.fieldLinkNest RX13 244 RX12 "closed" "I" RX13) 22 rfl rfl) (fun _ h9 => h9) hv_215 dX13_close_358 ?_
                                          have hx13 : (((v181 + 1) : Nat) : Int) = (((v181 + 1) : Nat) : Int) := (congrFun hV.2.1 13).symm.trans ((fx_of hM_221 rfl hv_215).trans (nI_toInt (by omega)))
                                          refine lv_iconst (v := 1) hx hb dX13_close_361 (by decide) ?_
                                          refine lv_isub hx hb dX13_close_362 ?_
                                          refine lv_topi (fun f_223 ef_223 => ?_)
                                          obtain rfl : f_223 = (nI ((v181 + 1) - 1)) := ef_223.trans (nI_prd (by omega))
                                          have hPc := hP.sub (ws' := [(za, (b13_0 0 z1 (nI z2) (nI z3) z4 z5 z6 z7 z8 z9 (nI z10) z11 z12 z13 z14 z15 (nI zgw121) z17 z18 z19))]) [0] rfl
                                          have hDc := hD.sub (ws' := [(za, (b13_0 0 z1 (nI z2) (nI z3) z4 z5 z6 z7 z8 z9 (nI z10) z11 z12 z13 z14 z15 (nI zgw121) z17 z18 z19))]) [0] (by decide) rfl
                                          have hKc := hK.sub (tys' := []) [] rfl
                                          have hFc := va_free (wc := [(za, (b13_0 0 z1 (nI z2) (nI z3) z4 z5 z6 z7 z8 z9 (nI z10) z11 z12 z13 z14 z15 (nI zgw121) z17 z18 z19))]) hD hS hA [0] rfl
                                          refine va_calli (va_runV (As := [.int (nI ((v181 + 1) - 1))]) (rest := []) ⟨hx, hb, hml, hown, hg⟩ (m_done l D H_217.size za 0 z1 (nI z2) (nI z3) z4 z5 z6 z7 z8 z9 (nI z10) z11 z12 z13 z14 z15 (nI zgw121) z17 z18 z19 (nI ((v181 + 1) - 1))) (cwV 1 hg (gV wd_730 wd_731 wd_732 wd_717 wd_733) rfl rfl rfl (by decide +kernel) ⟨(Nat.le_trans (Nat.le_of_ble_eq_true rfl) hRf), (Nat.le_trans (Nat.le_of_ble_eq_true rfl) hRl)⟩) ⟨Pr.blind, va_recv hK hP (ci := 13) (q0 := 0) rfl rfl, fun U hU hW => ⟨rfl, Pr.at hPc hKc hDc hN hU hW⟩⟩ rfl rfl hl.1 rfl (lv_room (Nat.le_of_ble_eq_true rfl)) dX13_close_363 ⟨(Nat.le_trans (Nat.le_of_ble_eq_true rfl) hRc), (Nat.le_trans (Nat.le_of_ble_eq_true rfl) hRs)⟩) hS (fun q _ h => hFc q h) hFc (fun r_225 M_226 t H_224 locs ht hvm hw hB hz1 hk1 hS => ?_)
                                          have hp_227 := hw
                                          obtain ⟨hP1, hK1, hD1⟩ := hB
                                          rw [ht] at hP1
                                          obtain ⟨hP, hD⟩ := va_joinQ (X := [(za, (b13_0 0 z1 (nI z2) (nI z3) z4 z5 z6 z7 z8 z9 (nI z10) z11 z12 z13 z14 z15 (nI zgw121) z17 z18 z19))]) (cx := [(za, (b13_0 0 z1 (nI z2) (nI z3) z4 z5 z6 z7 z8 z9 (nI z10) z11 z12 z13 z14 z15 (nI zgw121) z17 z18 z19))]) (wr := []) (w1 := [(za, (b13_0 0 z1 (nI z2) (nI z3) 0 (-1) z6 z7 z8 z9 (nI z10) z11 z12 z13 z14 z15 (nI zgw121) z17 z18 z19))]) (pl := va_pl L M_219) hP hD [0] [] rfl rfl (by decide) (by decide) hk1 hFc hP1 hD1
                                          have hP : va_P D vwCl ([(za, (b13_0 0 z1 (nI z2) (nI z3) 0 (-1) z6 z7 z8 z9 (nI z10) z11 z12 z13 z14 z15 (nI zgw121) z17 z18 z19))] ++ va_pl L M_219) H_224 := hP
                                          have hD : va_D A ([(za, (b13_0 0 z1 (nI z2) (nI z3) 0 (-1) z6 z7 z8 z9 (nI z10) z11 z12 z13 z14 z15 (nI zgw121) z17 z18 z19))] ++ va_pl L M_219) := hD
                                          have hq := Eq.symm hp_227
                                          subst hq
                                          have hI_228 : (24 : Int) ≤ ((v6w81 : Nat) : Int) := ileI rfl (nI_toInt (by omega)) c_86
                                          have hI_229 : ((c_33 : Nat) : Int) < ((v6w91 : Nat) : Int) := iltI (nI_toInt (by omega)) (nI_toInt (by omega)) c_97
                                          have hI_230 : ((v100 : Nat) : Int) ≤ ((v7w109 : Nat) : Int) := ileI (nI_toInt (by omega)) (nI_toInt (by omega)) c_114
                                          have hI_231 : ((v130 : Nat) : Int) ≤ ((v7w121 : Nat) : Int) := ileI (nI_toInt (by omega)) (nI_toInt (by omega)) c_131
                                          have hy4 : ∀ d : Nat, SX (k1 : Int32).toNatClampNeg 1 < (d : Int) → (d : Int) ≤ enD (SX (k1 : Int32).toNatClampNeg) (SY (k1 : Int32).toNatClampNeg) → ¬ opD (SY (k1 : Int32).toNatClampNeg) d := fun d h1 h2 => hall d h1 (by rw [hEd] at h2; omega)
                                          have hy5 : ∀ b, b < z2 → ¬ LAG PK PT SX SY (k1 : Int32).toNatClampNeg (enD (SX (k1 : Int32).toNatClampNeg) (SY (k1 : Int32).toNatClampNeg)) b := by rw [hEd]; have h9 := c_57; rw [nI_toInt (by omega)] at h9; exact h9
                                          have hyes : okCl z2 PK PT SX SY k1 := by unfold okCl okH; refine ⟨⟨?_, ?_⟩, ?_, ?_, ?_, ?_⟩ <;> first | omega | assumption
                                          have hA9 : HA (ax M b13 2) (ax M b13 3) := hAT.1
                                          have hB9 : HB (0 : Int) ((n_139 : Nat) : Int) (ax M b13 3) (ax M b13 43) := HB.zero hAT.2.1.nn.1 hn14
                                          have hC9 : HC (fx M b13 10) (ax M b13 22) g_222 := HC.insg hAT.2.2.1 (fun i hi => hg23 i hi)
                                          have hD9 : HD (fx M b13 0) (fx M b13 11) (0 : Int) (ax M b13 34) (ax M b13 41) := HD.clr hAT.2.2.2.1
                                          have hE9 : HE (fx M b13 0) ((c_33 : Nat) : Int) (fx M b13 12) (((v181 + 1) : Nat) : Int) (ax M b13 37) := HE.close hAT.2.2.2.2 hb13 (by omega) (by omega) (by rw [hT37])
                                          have hH9 : HI (va_up (va_up (va_up (va_up (va_up (va_up (va_up (fx M b13) 17 ((gnw121 : Nat) : Int)) 14 ((n_139 : Nat) : Int)) 15 (0 : Int)) 16 (0 : Int)) 1 ((c_33 : Nat) : Int)) 13 (((v181 + 1) : Nat) : Int)) 18 (1 : Int)) (va_up (va_up (va_up (va_up (va_up (va_up (ax M b13) 44 gpw121) 45 gqw121) 38 p_140) 39 q_141) 40 r_142) 23 g_222) := ⟨hA9, hB9, hC9, hD9, hE9⟩
                                          have hGI9 : GI K L z1 z2 M_219 := GI.fin hW0 i1 b2 hGI hact hV (hF.at i1 (by decide)) hH9
                                          have hX1 : (va_up (va_up (va_up (va_up (va_up (va_up (va_up (fx M b13) 17 ((gnw121 : Nat) : Int)) 14 ((n_139 : Nat) : Int)) 15 (0 : Int)) 16 (0 : Int)) 1 ((c_33 : Nat) : Int)) 13 (((v181 + 1) : Nat) : Int)) 18 (1 : Int)) 1 = ((c_33 : Nat) : Int) := rfl
                                          have hX13 : (va_up (va_up (va_up (va_up (va_up (va_up (va_up (fx M b13) 17 ((gnw121 : Nat) : Int)) 14 ((n_139 : Nat) : Int)) 15 (0 : Int)) 16 (0 : Int)) 1 ((c_33 : Nat) : Int)) 13 (((v181 + 1) : Nat) : Int)) 18 (1 : Int)) 13 = SX (k1 : Int32).toNatClampNeg 13 + 1 := by show (((v181 + 1) : Nat) : Int) = _; omega
                                          have hkp : kpF (nI 0) (nI c_33) = clk (SX (k1 : Int32).toNatClampNeg 1) ((c_33 : Nat) : Int) := by funext z9; unfold kpF clk; rw [show (decide (nI 0 ≤ z9.2.1)) = decide (SX (k1 : Int32).toNatClampNeg 1 + 1 ≤ z9.2.1.toInt) from decide_eq_decide.mpr (by rw [Int32.le_iff_toInt_le, nI_toInt (by omega)]; omega), show (decide (z9.2.1 ≤ nI c_33)) = decide (z9.2.1.toInt ≤ ((c_33 : Nat) : Int)) from decide_eq_decide.mpr (by rw [Int32.le_iff_toInt_le, nI_toInt (by omega)])]
                                          have hX17 : (va_up (va_up (va_up (va_up (va_up (va_up (va_up (fx M b13) 17 ((gnw121 : Nat) : Int)) 14 ((n_139 : Nat) : Int)) 15 (0 : Int)) 16 (0 : Int)) 1 ((c_33 : Nat) : Int)) 13 (((v181 + 1) : Nat) : Int)) 18 (1 : Int)) 17 = cntC (SX (k1 : Int32).toNatClampNeg) (SY (k1 : Int32).toNatClampNeg) ((c_33 : Nat) : Int) := by show ((gnw121 : Nat) : Int) = _; unfold cntC; omega
                                          have hCLF : CLF (enD (SX (k1 : Int32).toNatClampNeg) (SY (k1 : Int32).toNatClampNeg)) (SX (k1 : Int32).toNatClampNeg) (SY (k1 : Int32).toNatClampNeg) (va_up (va_up (va_up (va_up (va_up (va_up (va_up (fx M b13) 17 ((gnw121 : Nat) : Int)) 14 ((n_139 : Nat) : Int)) 15 (0 : Int)) 16 (0 : Int)) 1 ((c_33 : Nat) : Int)) 13 (((v181 + 1) : Nat) : Int)) 18 (1 : Int)) (va_up (va_up (va_up (va_up (va_up (va_up (ax M b13) 44 gpw121) 45 gqw121) 38 p_140) 39 q_141) 40 r_142) 23 g_222) := by
                                            rw [hEd]
                                            refine ⟨congrFun hZk.1 0, hX1, congrFun hZk.1 10, congrFun hZk.1 11, congrFun hZk.1 12, hX13, rfl, rfl, hX17, ⟨n_139, rfl, ?_⟩, fun j q23 q38 q39 q40 q44 q45 => ?_, fun i hi => ?_, fun r i => (lKup _ r i _ _ (by decide)).trans ((lKup _ r i _ _ (by decide)).trans ((lKup _ r i _ _ (by decide)).trans ((lKup _ r i _ _ (by decide)).trans ((lKup _ r i _ _ (by decide)).trans ((lKup _ r i _ _ (by decide)).trans ((lKup _ r i _ _ (by decide)).trans (congrFun hZk.1 _)))))))⟩
                                            · rw [← hkp, show (SX (k1 : Int32).toNatClampNeg 14).toNat = n_143 by omega]; rw [← hZk.2]; exact htr8
                                            · rw [← hZk.2]; simp only [va_up_ne _ _ q23, va_up_ne _ _ q38, va_up_ne _ _ q39, va_up_ne _ _ q40, va_up_ne _ _ q44, va_up_ne _ _ q45]
                                            · rw [← hZk.2]; exact (hg23 i (by show (i : Int) < fx M b13 10; omega))
                                          rw [hQ]
                                          exact W.iret (v := (nI ((v181 + 1) - 1))) hx hb hr (fun t ht hW9 => ⟨⟨(nI ((v181 + 1) - 1)), M_219, rfl, ⟨hW, hF, hG, ⟨hGI9, (va_up (va_up (va_up (va_up (va_up (va_up (va_up (fx M b13) 17 ((gnw121 : Nat) : Int)) 14 ((n_139 : Nat) : Int)) 15 (0 : Int)) 16 (0 : Int)) 1 ((c_33 : Nat) : Int)) 13 (((v181 + 1) : Nat) : Int)) 18 (1 : Int)), (va_up (va_up (va_up (va_up (va_up (va_up (ax M b13) 44 gpw121) 45 gqw121) 38 p_140) 39 q_141) 40 r_142) 23 g_222), fun _ => hCLF, (by unfold sxCl syCl; rw [if_pos hyes, if_pos hyes]; exact ZSx.fin hW0 i1 b2 hZS hGI.1 hkn hb9 hV (hF.at i1 (by decide)) rfl rfl)⟩, (by unfold anCl; rw [if_pos hyes]; exact congrArg nI (by omega))⟩, ⟨0, (-1), zgw121, (by omega), (WHR.ok hyes), by rw [ht]; exact hP, hD⟩⟩, hS.F ht⟩) hS.2.2 dX13_close_366
                                        · have hz := rfl (a := 0)
                                          have n_232 : ¬ (v130 ≤ v7w121) := fun q => c_131 ((iLE (a := v130) (b := v7w121) (by omega) (by omega)).mpr q)
                                          obtain ⟨v233, hv233, hc233⟩ : ∃ v : Nat, fs129[17]? = some (.int (nI v) : Value) ∧ v ≤ 120 := hl129 17 (by decide)
                                          have hx17 : ((gnw121 : Nat) : Int) = ((v233 : Nat) : Int) := (congrFun hV.2.1 17).symm.trans ((fx_of hM129 rfl hv233).trans (nI_toInt (by omega)))
                                          have hx15 : (fx M b13 15) = ((v130 : Nat) : Int) := (congrFun hV.2.1 15).symm.trans ((fx_of hM129 rfl hv130).trans (nI_toInt (by omega)))
                                          refine lv_aload_n hx hb dX13_close_287 rfl (lv_at hl 6 rfl) ?_
                                          refine lv_aload_n hx hb dX13_close_288 rfl (lv_at hl 5 rfl) ?_
                                          refine lv_iload hx hb dX13_close_289 (lv_at hl 0 rfl) ?_
                                          have hPc : va_P D vwCl ([(za, (b13_0 0 z1 (nI z2) (nI z3) z4 z5 z6 z7 z8 z9 (nI z10) z11 z12 z13 z14 z15 (nI zgw121) z17 z18 z19))] ++ va_pl L M_127) H_128 := hP
                                          have hDc : va_D A ([(za, (b13_0 0 z1 (nI z2) (nI z3) z4 z5 z6 z7 z8 z9 (nI z10) z11 z12 z13 z14 z15 (nI zgw121) z17 z18 z19))] ++ va_pl L M_127) := hD
                                          have hFc : ∀ q, va_A ([(za, (b13_0 0 z1 (nI z2) (nI z3) z4 z5 z6 z7 z8 z9 (nI z10) z11 z12 z13 z14 z15 (nI zgw121) z17 z18 z19))] ++ va_pl L M_127) H_128.size q → A q := pg_free hDc hS hA
                                          refine va_callv (va_runV (As := [.ref b13, .int (nI v7w121)]) (rest := []) ⟨hx, hb, hml, hown, hg⟩ (g_X13_mended l D cy K L M_127 H_128.size za 0 z1 z2 z3 z4 z5 z6 z7 z8 z9 z10 z11 z12 z13 z14 z15 zgw121 z17 z18 z19 b13 v7w121  hW i1 b2 b3 i6 i7 i8 i9 b10 i11 i12 i13 i14 i15 (by omega) i17 i19 hb_15 (by omega) hV.2.2.2 ⟨_, _, hM129, hv233, by omega⟩ (by rw [hV.2.1]; exact h11) (by rw [hV.2.1, hV.2.2.1]; exact hAT.2.2.2.1) (by rw [hV.2.1]; show ((v7w121 : Nat) : Int) < fx M b13 15; omega)) (cwV 2 hg (gV wd_871 wd_872 wd_873 wd_717 wd_874) rfl rfl rfl (by decide +kernel) ⟨(Nat.le_trans (Nat.le_of_ble_eq_true rfl) hRf), (Nat.le_trans (Nat.le_of_ble_eq_true rfl) hRl)⟩) ⟨PG.blind, va_recv hK hP (ci := 13) (q0 := 0) rfl rfl, fun U hU hW => ⟨rfl, PG.at hPc hK hDc hN hU hW⟩⟩ rfl rfl hl.1 rfl (lv_room (Nat.le_of_ble_eq_true rfl)) dX13_close_291 ⟨(Nat.le_trans (Nat.le_of_ble_eq_true rfl) hRc), (Nat.le_trans (Nat.le_of_ble_eq_true rfl) hRs)⟩) hS (fun q _ h => hFc q h) hFc (fun M_236 t H_234 locs ht hvm hw hB hz1 hk1 hS => ?_)
                                          have hWb := hW
                                          obtain ⟨hW, hF2, hG2, hVP, hp_237⟩ := hw
                                          obtain ⟨w16_238, hg_239, hP1, hD1⟩ := hB
                                          rw [ht] at hP1
                                          have hP : va_P D vwCl ([(za, (b13_0 0 z1 (nI z2) (nI z3) z4 z5 z6 z7 z8 z9 (nI z10) z11 z12 z13 z14 z15 (nI w16_238) z17 z18 z19))] ++ va_pl L M_236) H_234 := hP1
                                          have hD : va_D A ([(za, (b13_0 0 z1 (nI z2) (nI z3) z4 z5 z6 z7 z8 z9 (nI z10) z11 z12 z13 z14 z15 (nI w16_238) z17 z18 z19))] ++ va_pl L M_236) := hD1.mono hFc
                                          obtain ⟨fs240, hM240, hn240, hl240⟩ := hW.open_12 hb_15
                                          have hv_241 : fs240[15]? = some (.int (nI v130) : Value) := (hG2 _ hb_15 _ _ hM129 hM240 15 (by decide)).trans hv130
                                          have hF : fr K L [12, 14, 15, 32, 42, 45, 46, 79, 80, 81, 83, 86, 87, 88, 89, 90, 91, 92, 93, 94, 95, 96, 97, 98, 99] M M_236 := hF.tr hF2 (by decide)
                                          have hG : fG K L [1, 7, 8, 13, 14, 15, 16, 17, 18] M M_236 := hG.tr hWb hG2 (by decide)
                                          obtain ⟨n_242, g_243, g_244, hn17, hV2⟩ := hVP
                                          rw [hV.2.1] at hn17
                                          rw [hV.2.1, hV.2.2.1] at hV2
                                          have hn17 : ((gnw121 : Nat) : Int) = (n_242 : Int) := hn17
                                          have hV : VW K L M M_236 b13 (va_up (va_up (fx M b13) 17 ((gnw121 : Nat) : Int)) 17 ((n_242 + 1 : Nat) : Int)) (va_up (va_up (va_up (va_up (ax M b13) 44 gpw121) 45 gqw121) 44 g_243) 45 g_244) := hV.tr hV2
                                          refine lv_iinc (v := (nI (v7w121 + 1))) (lv' := [(7, .int (nI (v7w121 + 1))), (6, .int (nI v100)), (5, .int (-1)), (4, .int (nI c_33)), (3, .int 0), (2, .ref b13), (0, .ref za), (1, .int k1)]) hx hb dX13_close_294 hl (k := 0) rfl (nI_1 v7w121) (by decide) rfl (fun ls hl => ?_)
                                          refine lv_goto (tgt := 278) hx hb dX13_close_297 (by decide) ?_
                                          exact ih_119 (v7w121 + 1) w16_238 (n_242 + 1) g_243 g_244 M_236 H_234 _ _ (by omega) (by omega) (by omega) (by omega) (by omega) (by omega) hW hF hG (by have h := hV; simp only [va_up_up] at h; rw [va_up_4] at h; exact h) hP hD hS (lv_sub hl [0, 1, 2, 3, 4, 5, 6, 7] rfl)
                                    exact key_118 (24 - 0 + 1) 0 zgw109 gnw91 gpw91 gqw91 M_112 H_113 _ _ (by omega) (by omega) (by omega) (by omega) (by omega) (by omega) hW hF hG hV hP hD hS (lv_sub hl [0, 1, 2, 3, 4, 5, 6, 7] rfl)
                                  · have hz := rfl (a := 0)
                                    have n_245 : ¬ (v100 ≤ v7w109) := fun q => c_114 ((iLE (a := v100) (b := v7w109) (by omega) (by omega)).mpr q)
                                    refine lv_aload_n hx hb dX13_close_261 rfl (lv_at hl 6 rfl) ?_
                                    refine lv_aload_n hx hb dX13_close_262 rfl (lv_at hl 5 rfl) ?_
                                    refine lv_iload hx hb dX13_close_263 (lv_at hl 0 rfl) ?_
                                    refine lv_iload_n hx hb dX13_close_265 rfl (lv_at hl 4 rfl) ?_
                                    have hPc : va_P D vwCl ([(za, (b13_0 0 z1 (nI z2) (nI z3) z4 z5 z6 z7 z8 z9 (nI z10) z11 z12 z13 z14 z15 (nI zgw109) z17 z18 z19))] ++ va_pl L M_112) H_113 := hP
                                    have hDc : va_D A ([(za, (b13_0 0 z1 (nI z2) (nI z3) z4 z5 z6 z7 z8 z9 (nI z10) z11 z12 z13 z14 z15 (nI zgw109) z17 z18 z19))] ++ va_pl L M_112) := hD
                                    have hFc : ∀ q, va_A ([(za, (b13_0 0 z1 (nI z2) (nI z3) z4 z5 z6 z7 z8 z9 (nI z10) z11 z12 z13 z14 z15 (nI zgw109) z17 z18 z19))] ++ va_pl L M_112) H_113.size q → A q := pg_free hDc hS hA
                                    refine va_callv (va_runV (As := [.ref b13, .int (nI v7w109), .int 0]) (rest := []) ⟨hx, hb, hml, hown, hg⟩ (g_X13_stretch l D cy K L M_112 H_113.size za 0 z1 z2 z3 z4 z5 z6 z7 z8 z9 z10 z11 z12 z13 z14 z15 zgw109 z17 z18 z19 b13 v7w109 0  hW i1 b2 b3 i6 i7 i8 i9 b10 i11 i12 i13 i14 i15 (by omega) i17 i19 hb_15 (by omega) hV.2.2.2 (by rw [hV.2.1]; exact h11) (by rw [hV.2.1, hV.2.2.1]; exact hAT.2.2.2.1.1 h11) (by have hq9 := hs4 v7w109 (by omega); rw [hV.2.1, hV.2.2.1]; show fx M b13 0 ≤ (gpw91 v7w109).toInt; omega) (by have hq9 := hs4 v7w109 (by omega); rw [hV.2.2.1]; show (gpw91 v7w109).toInt + (gqw91 v7w109).toInt ≤ 1000; omega)) (cwV 3 hg (gV wd_875 wd_876 wd_877 wd_717 wd_878) rfl rfl rfl (by decide +kernel) ⟨(Nat.le_trans (Nat.le_of_ble_eq_true rfl) hRf), (Nat.le_trans (Nat.le_of_ble_eq_true rfl) hRl)⟩) ⟨PG.blind, va_recv hK hP (ci := 13) (q0 := 0) rfl rfl, fun U hU hW => ⟨rfl, PG.at hPc hK hDc hN hU hW⟩⟩ rfl rfl hl.1 rfl (lv_room (Nat.le_of_ble_eq_true rfl)) dX13_close_266 ⟨(Nat.le_trans (Nat.le_of_ble_eq_true rfl) hRc), (Nat.le_trans (Nat.le_of_ble_eq_true rfl) hRs)⟩) hS (fun q _ h => hFc q h) hFc (fun M_248 t H_246 locs ht hvm hw hB hz1 hk1 hS => ?_)
                                    have hWb := hW
                                    obtain ⟨hW, hF2, hG2, hp_249⟩ := hw
                                    obtain ⟨w16_250, hg_251, hP1, hD1⟩ := hB
                                    rw [ht] at hP1
                                    have hP : va_P D vwCl ([(za, (b13_0 0 z1 (nI z2) (nI z3) z4 z5 z6 z7 z8 z9 (nI z10) z11 z12 z13 z14 z15 (nI w16_250) z17 z18 z19))] ++ va_pl L M_248) H_246 := hP1
                                    have hD : va_D A ([(za, (b13_0 0 z1 (nI z2) (nI z3) z4 z5 z6 z7 z8 z9 (nI z10) z11 z12 z13 z14 z15 (nI w16_250) z17 z18 z19))] ++ va_pl L M_248) := hD1.mono hFc
                                    have hF : fr K L [12, 14, 15, 32, 42, 45, 46, 79, 80, 81, 83, 86, 87, 88, 89, 90, 91, 92, 93, 94, 95, 96, 97, 98, 99] M M_248 := hF.tr hF2 (by decide)
                                    have hG : fG K L [1, 7, 8, 13, 14, 15, 16, 17, 18] M M_248 := hG.tr hWb hG2 (by decide)
                                    have hV : VW K L M M_248 b13 (va_up (fx M b13) 17 ((gnw91 : Nat) : Int)) (va_up (va_up (ax M b13) 44 gpw91) 45 gqw91) := hV.cal hWb hW hF2 hG2 (by decide) (by decide) hb_15
                                    refine lv_iinc (v := (nI (v7w109 + 1))) (lv' := [(7, .int (nI (v7w109 + 1))), (6, .int (nI v100)), (5, .int (-1)), (4, .int (nI c_33)), (3, .int 0), (2, .ref b13), (0, .ref za), (1, .int k1)]) hx hb dX13_close_269 hl (k := 0) rfl (nI_1 v7w109) (by decide) rfl (fun ls hl => ?_)
                                    refine lv_goto (tgt := 254) hx hb dX13_close_272 (by decide) ?_
                                    exact ih_107 (v7w109 + 1) w16_250 M_248 H_246 _ _ (by omega) (by omega) (by omega) hW hF hG hV hP hD hS (lv_sub hl [0, 1, 2, 3, 4, 5, 6, 7] rfl)
                              exact key_106 (1001 - 0 + 1) 0 z16 M_103 H_101 _ _ (by omega) (by omega) (by omega) hW hF hG hV hP hD hS (lv_sub hl [0, 1, 2, 3, 4, 5, 6, 7] rfl)
                            · have hz := rfl (a := 0)
                              have n_252 : ¬ (c_33 < v6w91) := fun q => c_97 ((iLT (a := c_33) (b := v6w91) (by omega) (by omega)).mpr q)
                              obtain ⟨fs253, hM253, hn253, hl253⟩ := hW.open_12 hb_15
                              obtain ⟨v254, hv254, hc254⟩ : ∃ v : Nat, fs253[17]? = some (.int (nI v) : Value) ∧ v ≤ 120 := hl253 17 (by decide)
                              have hx17 : ((gnw91 : Nat) : Int) = ((v254 : Nat) : Int) := (congrFun hV.2.1 17).symm.trans ((fx_of hM253 rfl hv254).trans (nI_toInt (by omega)))
                              obtain ⟨v255, hv255, hc255⟩ : ∃ v : Nat, fs253[44]? = some (.ref v : Value) ∧ isk K L v 45 120 := hl253 44 (by decide)
                              obtain ⟨f256, hM256, hf256⟩ := hW.open_45 hc255
                              have hy44 : gpw91 = f256 := (congrFun hV.2.2.1 44).symm.trans (ax_of hM253 (by decide) hv255 hM256)
                              obtain ⟨v257, hv257, hc257⟩ : ∃ v : Nat, fs253[45]? = some (.ref v : Value) ∧ isk K L v 46 120 := hl253 45 (by decide)
                              obtain ⟨f258, hM258, hf258⟩ := hW.open_46 hc257
                              have hy45 : gqw91 = f258 := (congrFun hV.2.2.1 45).symm.trans (ax_of hM253 (by decide) hv257 hM258)
                              have hSD := hx_94
                              obtain ⟨hs1, hs2, hs3, hs4⟩ := hx_94
                              have hgn : v254 = gnw91 := by omega
                              refine lv_iload hx hb dX13_close_171 (lv_at hl 0 rfl) ?_
                              refine lv_iload_n hx hb dX13_close_173 rfl (lv_at hl 3 rfl) ?_
                              refine lv_icmp_eq (tgt := 186) hx hb dX13_close_174 (by decide) (fun c_259 => ?_) (fun c_259 => ?_)
                              · have hz := rfl (a := 0)
                                have n_260 : v6w91 = 0 := (iEQ (a := v6w91) (b := 0) (by omega) (by omega)).mp c_259
                                refine lv_aload_n hx hb dX13_close_186 rfl (lv_at hl 4 rfl) ?_
                                refine pg_getN (D := D) (ci := 12) (v := .ref v255) (C := RX12) (T := TX12) (N := 51) hx hb hg inG12 hown hK hP hb_15.1 hM253 rfl 44 (by decide) (hN.use (Cond.fieldLinkNest RX13 265 RX12 "stretchDay" "[I" RX13) 53 rfl rfl) (fun _ h9 => h9) hv255 dX13_close_187 ?_
                                refine lv_aload_n hx hb dX13_close_190 rfl (lv_at hl 4 rfl) ?_
                                refine pg_getN (D := D) (ci := 12) (v := .int (nI v254)) (C := RX12) (T := TX12) (N := 51) hx hb hg inG12 hown hK hP hb_15.1 hM253 rfl 17 (by decide) (hN.use (Cond.fieldLinkNest RX13 256 RX12 "stretches" "I" RX13) 26 rfl rfl) (fun _ h9 => h9) hv254 dX13_close_191 ?_
                                refine lv_iload hx hb dX13_close_194 (lv_at hl 0 rfl) ?_
                                refine pg_iast hx hb hK hP hD hS hc255.1 0 hM256 rfl (inbN v254 120 (by omega) (by omega)) dX13_close_196 (fun H_261 locs hP hD hS => ?_)
                                obtain ⟨M_262, eM_262⟩ : ∃ M1 : Hp, M1 = va_up M_95 v255 (.inl (cy 14, 120, .inl (upd f256 ((nI v254) : Int32).toNatClampNeg (nI v6w91)))) := ⟨_, rfl⟩
                                have hy44 : gpw91 = f256 := (congrFun hV.2.2.1 44).symm.trans (ax_of hM253 (by decide) hv255 hM256)
                                have hV : VW K L M M_262 b13 (va_up (fx M b13) 17 ((gnw91 : Nat) : Int)) (va_up (va_up (va_up (ax M b13) 44 gpw91) 45 gqw91) 44 (upd gpw91 ((nI v254) : Int32).toNatClampNeg (nI v6w91))) := by rw [eM_262]; exact hV.ast (j := 44) hW hb_15 hM253 (by decide) hv255 hc255 hM256
                                have hP : va_P D vwCl ([(za, (b13_0 0 z1 (nI z2) (nI z3) z4 z5 z6 z7 z8 z9 (nI z10) z11 z12 z13 z14 z15 (nI z16) z17 z18 z19))] ++ va_pl L M_262) H_261 := by rw [eM_262]; exact hP
                                have hD : va_D A ([(za, (b13_0 0 z1 (nI z2) (nI z3) z4 z5 z6 z7 z8 z9 (nI z10) z11 z12 z13 z14 z15 (nI z16) z17 z18 z19))] ++ va_pl L M_262) := by rw [eM_262]; exact hD
                                have hW : WOM cy K L M_262 := by rw [eM_262]; exact hW.up_45 hc255 ⟨_, rfl, (updP (P := fun z => ∃ c : Nat, c < 1000 ∧ z = nI c) hf256 ⟨v6w91, by omega, rfl⟩)⟩
                                have hF : fr K L [12, 14, 15, 32, 42, 45, 46, 79, 80, 81, 83, 86, 87, 88, 89, 90, 91, 92, 93, 94, 95, 96, 97, 98, 99] M M_262 := by rw [eM_262]; exact hF.up hc255 (by decide)
                                have hG : fG K L [1, 7, 8, 13, 14, 15, 16, 17, 18] M M_262 := by rw [eM_262]; exact hG.arr hc255 (by decide)
                                have hM_263 : M_262 v255 = .inl (cy 14, 120, .inl (upd f256 ((nI v254) : Int32).toNatClampNeg (nI v6w91))) := by rw [eM_262]; exact va_up_self _ _ _
                                have hM_264 : M_262 b13 = .inr (12, fs253) := by rw [eM_262, va_up_ne _ _ (hb_15.neT hc255 (by decide))]; exact hM253
                                have hM_265 : M_262 v257 = .inl (cy 14, 120, .inl (f258)) := by rw [eM_262, va_up_ne _ _ (hc257.neT hc255 (by decide))]; exact hM258
                                have hf_267 : ∀ j, j < 120 → ∃ c : Nat, c < 1000 ∧ (upd f256 ((nI v254) : Int32).toNatClampNeg (nI v6w91)) j = nI c := (updP (P := fun z => ∃ c : Nat, c < 1000 ∧ z = nI c) hf256 ⟨v6w91, by omega, rfl⟩)
                                obtain ⟨f_266, ef_266⟩ : ∃ f : Nat → Int32, f = upd f256 ((nI v254) : Int32).toNatClampNeg (nI v6w91) := ⟨_, rfl⟩
                                rw [← ef_266] at hM_263 hf_267
                                refine lv_aload_n hx hb dX13_close_197 rfl (lv_at hl 4 rfl) ?_
                                refine pg_getN (D := D) (ci := 12) (v := .ref v257) (C := RX12) (T := TX12) (N := 51) hx hb hg inG12 hown hK hP hb_15.1 hM_264 rfl 45 (by decide) (hN.use (Cond.fieldLinkNest RX13 268 RX12 "stretchDays" "[I" RX13) 54 rfl rfl) (fun _ h9 => h9) hv257 dX13_close_198 ?_
                                refine lv_aload_n hx hb dX13_close_201 rfl (lv_at hl 4 rfl) ?_
                                refine pg_getN (D := D) (ci := 12) (v := .int (nI v254)) (C := RX12) (T := TX12) (N := 51) hx hb hg inG12 hown hK hP hb_15.1 hM_264 rfl 17 (by decide) (hN.use (Cond.fieldLinkNest RX13 256 RX12 "stretches" "I" RX13) 26 rfl rfl) (fun _ h9 => h9) hv254 dX13_close_202 ?_
                                refine lv_iconst (v := 0) hx hb dX13_close_205 (by decide) ?_
                                refine pg_iast hx hb hK hP hD hS hc257.1 0 hM_265 rfl (inbN v254 120 (by omega) (by omega)) dX13_close_206 (fun H_268 locs hP hD hS => ?_)
                                obtain ⟨M_269, eM_269⟩ : ∃ M1 : Hp, M1 = va_up M_262 v257 (.inl (cy 14, 120, .inl (upd f258 ((nI v254) : Int32).toNatClampNeg 0))) := ⟨_, rfl⟩
                                have hy45 : gqw91 = f258 := (congrFun hV.2.2.1 45).symm.trans (ax_of hM_264 (by decide) hv257 hM_265)
                                have hV : VW K L M M_269 b13 (va_up (fx M b13) 17 ((gnw91 : Nat) : Int)) (va_up (va_up (va_up (va_up (ax M b13) 44 gpw91) 45 gqw91) 44 (upd gpw91 ((nI v254) : Int32).toNatClampNeg (nI v6w91))) 45 (upd gqw91 ((nI v254) : Int32).toNatClampNeg 0)) := by rw [eM_269]; exact hV.ast (j := 45) hW hb_15 hM_264 (by decide) hv257 hc257 hM_265
                                have hP : va_P D vwCl ([(za, (b13_0 0 z1 (nI z2) (nI z3) z4 z5 z6 z7 z8 z9 (nI z10) z11 z12 z13 z14 z15 (nI z16) z17 z18 z19))] ++ va_pl L M_269) H_268 := by rw [eM_269]; exact hP
                                have hD : va_D A ([(za, (b13_0 0 z1 (nI z2) (nI z3) z4 z5 z6 z7 z8 z9 (nI z10) z11 z12 z13 z14 z15 (nI z16) z17 z18 z19))] ++ va_pl L M_269) := by rw [eM_269]; exact hD
                                have hW : WOM cy K L M_269 := by rw [eM_269]; exact hW.up_46 hc257 ⟨_, rfl, (updP (P := fun z => ∃ c : Nat, c < 1001 ∧ z = nI c) hf258 ⟨0, by omega, rfl⟩)⟩
                                have hF : fr K L [12, 14, 15, 32, 42, 45, 46, 79, 80, 81, 83, 86, 87, 88, 89, 90, 91, 92, 93, 94, 95, 96, 97, 98, 99] M M_269 := by rw [eM_269]; exact hF.up hc257 (by decide)
                                have hG : fG K L [1, 7, 8, 13, 14, 15, 16, 17, 18] M M_269 := by rw [eM_269]; exact hG.arr hc257 (by decide)
                                have hM_270 : M_269 v257 = .inl (cy 14, 120, .inl (upd f258 ((nI v254) : Int32).toNatClampNeg 0)) := by rw [eM_269]; exact va_up_self _ _ _
                                have hM_271 : M_269 v255 = .inl (cy 14, 120, .inl (f_266)) := by rw [eM_269, va_up_ne _ _ (hc255.neT hc257 (by decide))]; exact hM_263
                                have hM_272 : M_269 b13 = .inr (12, fs253) := by rw [eM_269, va_up_ne _ _ (hb_15.neT hc257 (by decide))]; exact hM_264
                                have hf_274 : ∀ j, j < 120 → ∃ c : Nat, c < 1001 ∧ (upd f258 ((nI v254) : Int32).toNatClampNeg 0) j = nI c := (updP (P := fun z => ∃ c : Nat, c < 1001 ∧ z = nI c) hf258 ⟨0, by omega, rfl⟩)
                                obtain ⟨f_273, ef_273⟩ : ∃ f : Nat → Int32, f = upd f258 ((nI v254) : Int32).toNatClampNeg 0 := ⟨_, rfl⟩
                                rw [← ef_273] at hM_270 hf_274
                                refine lv_aload_n hx hb dX13_close_207 rfl (lv_at hl 4 rfl) ?_
                                refine lv_dup hx hb dX13_close_208 rfl ?_
                                refine pg_getN (D := D) (ci := 12) (v := .int (nI v254)) (C := RX12) (T := TX12) (N := 51) hx hb hg inG12 hown hK hP hb_15.1 hM_272 rfl 17 (by decide) (hN.use (Cond.fieldLinkNest RX13 256 RX12 "stretches" "I" RX13) 26 rfl rfl) (fun _ h9 => h9) hv254 dX13_close_209 ?_
                                refine lv_iconst (v := 1) hx hb dX13_close_212 (by decide) ?_
                                refine lv_iadd hx hb dX13_close_213 ?_
                                refine lv_topi (fun f_275 ef_275 => ?_)
                                obtain rfl : f_275 = (nI (v254 + 1)) := ef_275.trans (nI_add v254 1)
                                refine pg_putN (D := D) (ci := 12) (v := .int (nI (v254 + 1))) (ty := .int) (C := RX12) (T := TX12) (N := 51) hx hb hg inG12 tyX12 tyX12_ok nmX12 hown hK hP hD hS hb_15.1 hM_272 rfl 17 (by decide) (hN.use (Cond.fieldLinkNest RX13 256 RX12 "stretches" "I" RX13) 26 rfl rfl) (fun _ h9 => h9) rfl (by decide +kernel) rfl rfl (by rw [hn253]; decide) dX13_close_214 (fun H_276 locs hP hD hS => ?_)
                                have hs_279 : (fs253.set 17 (.int (nI (v254 + 1))))[17]? = some (.int (nI (v254 + 1))) := List.getElem?_set_self (by rw [hn253]; decide)
                                have hk_278 := fld12_set (k := 17) (w := .int (nI (v254 + 1))) hl253 (show fld12 K L 17 (fs253.set 17 (.int (nI (v254 + 1)))) from ⟨(v254 + 1), hs_279, by omega⟩)
                                have hn_280 : (fs253.set 17 (.int (nI (v254 + 1)))).length = 51 := by rw [List.length_set]; exact hn253
                                have hv_281 : (fs253.set 17 (.int (nI (v254 + 1))))[44]? = some (.ref v255) := by rw [List.getElem?_set_ne (by decide)]; exact hv255
                                have hv_282 : (fs253.set 17 (.int (nI (v254 + 1))))[45]? = some (.ref v257) := by rw [List.getElem?_set_ne (by decide)]; exact hv257
                                have hb_283 : (v254 + 1) ≤ 120 := by omega
                                obtain ⟨M_284, eM_284⟩ : ∃ M1 : Hp, M1 = va_up M_269 b13 (.inr (12, fs253.set 17 (.int (nI (v254 + 1))))) := ⟨_, rfl⟩
                                have hx17 : ((gnw91 : Nat) : Int) = ((v254 : Nat) : Int) := (congrFun hV.2.1 17).symm.trans ((fx_of hM_272 rfl hv254).trans (nI_toInt (by omega)))
                                have hV : VW K L M M_284 b13 (va_up (va_up (fx M b13) 17 ((gnw91 : Nat) : Int)) 17 (((v254 + 1) : Nat) : Int)) (va_up (va_up (va_up (va_up (ax M b13) 44 gpw91) 45 gqw91) 44 (upd gpw91 ((nI v254) : Int32).toNatClampNeg (nI v6w91))) 45 (upd gqw91 ((nI v254) : Int32).toNatClampNeg 0)) := by rw [eM_284]; exact hV.put hW hb_15 hM_272 hn253 rfl (by decide) rfl (nI_toInt (by omega))
                                have hP : va_P D vwCl ([(za, (b13_0 0 z1 (nI z2) (nI z3) z4 z5 z6 z7 z8 z9 (nI z10) z11 z12 z13 z14 z15 (nI z16) z17 z18 z19))] ++ va_pl L M_284) H_276 := by rw [eM_284]; exact hP
                                have hD : va_D A ([(za, (b13_0 0 z1 (nI z2) (nI z3) z4 z5 z6 z7 z8 z9 (nI z10) z11 z12 z13 z14 z15 (nI z16) z17 z18 z19))] ++ va_pl L M_284) := by rw [eM_284]; exact hD
                                have hW : WOM cy K L M_284 := by rw [eM_284]; exact hW.up_12 hb_15 ⟨_, rfl, hn_280, hk_278⟩
                                have hF : fr K L [12, 14, 15, 32, 42, 45, 46, 79, 80, 81, 83, 86, 87, 88, 89, 90, 91, 92, 93, 94, 95, 96, 97, 98, 99] M M_284 := by rw [eM_284]; exact hF.up hb_15 (by decide)
                                have hG : fG K L [1, 7, 8, 13, 14, 15, 16, 17, 18] M M_284 := by rw [eM_284]; exact hG.up hM_272 (by decide)
                                have hM_285 : M_284 b13 = .inr (12, fs253.set 17 (.int (nI (v254 + 1)))) := by rw [eM_284]; exact va_up_self _ _ _
                                have hM_286 : M_284 v257 = .inl (cy 14, 120, .inl (f_273)) := by rw [eM_284, va_up_ne _ _ (hc257.neT hb_15 (by decide))]; exact hM_270
                                have hM_287 : M_284 v255 = .inl (cy 14, 120, .inl (f_266)) := by rw [eM_284, va_up_ne _ _ (hc255.neT hb_15 (by decide))]; exact hM_271
                                refine lv_aload_n hx hb dX13_close_217 rfl (lv_at hl 4 rfl) ?_
                                refine pg_getN (D := D) (ci := 12) (v := .ref v257) (C := RX12) (T := TX12) (N := 51) hx hb hg inG12 hown hK hP hb_15.1 hM_285 rfl 45 (by decide) (hN.use (Cond.fieldLinkNest RX13 268 RX12 "stretchDays" "[I" RX13) 54 rfl rfl) (fun _ h9 => h9) hv_282 dX13_close_218 ?_
                                refine lv_aload_n hx hb dX13_close_221 rfl (lv_at hl 4 rfl) ?_
                                refine pg_getN (D := D) (ci := 12) (v := .int (nI (v254 + 1))) (C := RX12) (T := TX12) (N := 51) hx hb hg inG12 hown hK hP hb_15.1 hM_285 rfl 17 (by decide) (hN.use (Cond.fieldLinkNest RX13 256 RX12 "stretches" "I" RX13) 26 rfl rfl) (fun _ h9 => h9) hs_279 dX13_close_222 ?_
                                refine lv_iconst (v := 1) hx hb dX13_close_225 (by decide) ?_
                                refine lv_isub hx hb dX13_close_226 ?_
                                refine lv_topi (fun f_288 ef_288 => ?_)
                                obtain rfl : f_288 = (nI ((v254 + 1) - 1)) := ef_288.trans (nI_prd (by omega))
                                refine lv_dup2_11 hx hb dX13_close_227 rfl rfl ?_
                                have hi_289 : vp_in (nI ((v254 + 1) - 1)) 120 := (inbN ((v254 + 1) - 1) 120 (by omega) (by omega))
                                refine pg_iald hx hb hK hP hc257.1 0 hM_286 rfl hi_289 dX13_close_228 ?_
                                have hp_290 := hf_274 _ (vp_lt hi_289)
                                obtain ⟨c_291, hc_292, ec_293⟩ := hp_290
                                rw [ec_293]
                                have hy45 : (upd gqw91 ((nI v254) : Int32).toNatClampNeg 0) = f_273 := (congrFun hV.2.2.1 45).symm.trans (ax_of hM_285 (by decide) hv_282 hM_286)
                                have hec : (upd gqw91 ((nI v254) : Int32).toNatClampNeg 0) ((nI ((v254 + 1) - 1)) : Int32).toNatClampNeg = nI c_291 := by rw [hy45]; exact ec_293
                                have hcc : c_291 = 0 := updz (n := v254) (nI_cl (by omega)) ((nI_cl (by omega)).trans (by omega)) hec (by omega)
                                refine lv_iconst (v := 1) hx hb dX13_close_229 (by decide) ?_
                                refine lv_iadd hx hb dX13_close_230 ?_
                                refine lv_topi (fun f_294 ef_294 => ?_)
                                obtain rfl : f_294 = (nI (c_291 + 1)) := ef_294.trans (nI_add c_291 1)
                                refine pg_iast hx hb hK hP hD hS hc257.1 0 hM_286 rfl (inbN ((v254 + 1) - 1) 120 (by omega) (by omega)) dX13_close_231 (fun H_295 locs hP hD hS => ?_)
                                obtain ⟨M_296, eM_296⟩ : ∃ M1 : Hp, M1 = va_up M_284 v257 (.inl (cy 14, 120, .inl (upd f_273 ((nI ((v254 + 1) - 1)) : Int32).toNatClampNeg (nI (c_291 + 1))))) := ⟨_, rfl⟩
                                have hy45 : (upd gqw91 ((nI v254) : Int32).toNatClampNeg 0) = f_273 := (congrFun hV.2.2.1 45).symm.trans (ax_of hM_285 (by decide) hv_282 hM_286)
                                have hV : VW K L M M_296 b13 (va_up (va_up (fx M b13) 17 ((gnw91 : Nat) : Int)) 17 (((v254 + 1) : Nat) : Int)) (va_up (va_up (va_up (va_up (va_up (ax M b13) 44 gpw91) 45 gqw91) 44 (upd gpw91 ((nI v254) : Int32).toNatClampNeg (nI v6w91))) 45 (upd gqw91 ((nI v254) : Int32).toNatClampNeg 0)) 45 (upd (upd gqw91 ((nI v254) : Int32).toNatClampNeg 0) ((nI ((v254 + 1) - 1)) : Int32).toNatClampNeg (nI (c_291 + 1)))) := by rw [eM_296]; exact hV.ast (j := 45) hW hb_15 hM_285 (by decide) hv_282 hc257 hM_286
                                have hP : va_P D vwCl ([(za, (b13_0 0 z1 (nI z2) (nI z3) z4 z5 z6 z7 z8 z9 (nI z10) z11 z12 z13 z14 z15 (nI z16) z17 z18 z19))] ++ va_pl L M_296) H_295 := by rw [eM_296]; exact hP
                                have hD : va_D A ([(za, (b13_0 0 z1 (nI z2) (nI z3) z4 z5 z6 z7 z8 z9 (nI z10) z11 z12 z13 z14 z15 (nI z16) z17 z18 z19))] ++ va_pl L M_296) := by rw [eM_296]; exact hD
                                have hW : WOM cy K L M_296 := by rw [eM_296]; exact hW.up_46 hc257 ⟨_, rfl, (updP (P := fun z => ∃ c : Nat, c < 1001 ∧ z = nI c) hf_274 ⟨(c_291 + 1), by omega, rfl⟩)⟩
                                have hF : fr K L [12, 14, 15, 32, 42, 45, 46, 79, 80, 81, 83, 86, 87, 88, 89, 90, 91, 92, 93, 94, 95, 96, 97, 98, 99] M M_296 := by rw [eM_296]; exact hF.up hc257 (by decide)
                                have hG : fG K L [1, 7, 8, 13, 14, 15, 16, 17, 18] M M_296 := by rw [eM_296]; exact hG.arr hc257 (by decide)
                                have hM_297 : M_296 v257 = .inl (cy 14, 120, .inl (upd f_273 ((nI ((v254 + 1) - 1)) : Int32).toNatClampNeg (nI (c_291 + 1)))) := by rw [eM_296]; exact va_up_self _ _ _
                                have hM_298 : M_296 b13 = .inr (12, fs253.set 17 (.int (nI (v254 + 1)))) := by rw [eM_296, va_up_ne _ _ (hb_15.neT hc257 (by decide))]; exact hM_285
                                have hM_299 : M_296 v255 = .inl (cy 14, 120, .inl (f_266)) := by rw [eM_296, va_up_ne _ _ (hc255.neT hc257 (by decide))]; exact hM_287
                                have hf_301 : ∀ j, j < 120 → ∃ c : Nat, c < 1001 ∧ (upd f_273 ((nI ((v254 + 1) - 1)) : Int32).toNatClampNeg (nI (c_291 + 1))) j = nI c := (updP (P := fun z => ∃ c : Nat, c < 1001 ∧ z = nI c) hf_274 ⟨(c_291 + 1), by omega, rfl⟩)
                                obtain ⟨f_300, ef_300⟩ : ∃ f : Nat → Int32, f = upd f_273 ((nI ((v254 + 1) - 1)) : Int32).toNatClampNeg (nI (c_291 + 1)) := ⟨_, rfl⟩
                                rw [← ef_300] at hM_297 hf_301
                                refine lv_iinc (v := (nI (v6w91 + 1))) (lv' := [(6, .int (nI (v6w91 + 1))), (5, .int (-1)), (4, .int (nI c_33)), (3, .int 0), (2, .ref b13), (0, .ref za), (1, .int k1)]) hx hb dX13_close_232 hl (k := 0) rfl (nI_1 v6w91) (by decide) rfl (fun ls hl => ?_)
                                refine lv_goto (tgt := 164) hx hb dX13_close_235 (by decide) ?_
                                have hDe : (SX (k1 : Int32).toNatClampNeg 1 + 1 + ((v6w91 - 0 : Nat) : Int)) = ((v6w91 : Nat) : Int) := by omega
                                have hst : nst (prt (SX (k1 : Int32).toNatClampNeg) (SY (k1 : Int32).toNatClampNeg)) (SX (k1 : Int32).toNatClampNeg 1 + 1) (v6w91 + 1 - 0) = nst (prt (SX (k1 : Int32).toNatClampNeg) (SY (k1 : Int32).toNatClampNeg)) (SX (k1 : Int32).toNatClampNeg 1 + 1) (v6w91 - 0) + 1 := by rw [show v6w91 + 1 - 0 = (v6w91 - 0) + 1 by omega]; exact nst_yes (Or.inl (by omega))
                                exact ih_89 (v6w91 + 1) (v254 + 1) (upd gpw91 ((nI v254) : Int32).toNatClampNeg (nI v6w91)) (upd (upd gqw91 ((nI v254) : Int32).toNatClampNeg 0) ((nI ((v254 + 1) - 1)) : Int32).toNatClampNeg (nI (c_291 + 1))) M_296 H_295 _ _ (by omega) (by omega) (by rw [hst, ← hx_93]; omega) (by have h := SD.new hSD (by omega) (show (nI v254).toNatClampNeg = gnw91 from (nI_cl (by omega)).trans (by omega)) (show (nI ((v254 + 1) - 1)).toNatClampNeg = gnw91 from (nI_cl (by omega)).trans (by omega)) hcc; rw [← hgn] at h; exact h) hW hF hG (by have h := hV; simp only [va_up_up] at h; rw [va_up_4] at h; exact h) hP hD hS (lv_sub hl [0, 1, 2, 3, 4, 5, 6] rfl)
                              · have hz := rfl (a := 0)
                                have n_302 : ¬ (v6w91 = 0) := fun q => c_259 ((iEQ (a := v6w91) (b := 0) (by omega) (by omega)).mpr q)
                                refine lv_aload_n hx hb dX13_close_177 rfl (lv_at hl 4 rfl) ?_
                                refine lv_iload hx hb dX13_close_178 (lv_at hl 0 rfl) ?_
                                have hPc : va_P D vwCl ([] ++ va_pl L M_95) H_96 := hP.part (cx := []) [] rfl
                                have hDc : va_D A ([] ++ va_pl L M_95) := hD.part (cx := []) [] (by decide) rfl
                                have hFc : ∀ q, va_A ([] ++ va_pl L M_95) H_96.size q → A q := pg_free hDc hS hA
                                refine va_calli (va_runS (As := [.ref b13, .int (nI v6w91)]) (rest := []) ⟨hx, hb, hml, hown, hg⟩ (z_parted l D cy K L M_95 H_96.size b13 (nI v6w91)  hW hb_15) (va_cwS 2 hg (gS wd_879 wd_880 wd_717 wd_881) rfl rfl rfl (by decide +kernel) ⟨(Nat.le_trans (Nat.le_of_ble_eq_true rfl) hRf), (Nat.le_trans (Nat.le_of_ble_eq_true rfl) hRl)⟩) ⟨PG.blind, fun U hU hW => ⟨rfl, PG.at hPc hK hDc hN hU hW⟩⟩ rfl rfl hl.1 rfl (lv_room (Nat.le_of_ble_eq_true rfl)) dX13_close_180 ⟨(Nat.le_trans (Nat.le_of_ble_eq_true rfl) hRc), (Nat.le_trans (Nat.le_of_ble_eq_true rfl) hRs)⟩) hS (fun q _ h => hFc q h) hFc (fun r_304 M_305 t H_303 locs ht hvm hw hB hz1 hk1 hS => ?_)
                                have hp_306 := hw
                                obtain ⟨hP1, hD1⟩ := hB
                                rw [ht] at hP1
                                obtain ⟨hP, hD⟩ := va_joinP (X := [(za, (b13_0 0 z1 (nI z2) (nI z3) z4 z5 z6 z7 z8 z9 (nI z10) z11 z12 z13 z14 z15 (nI z16) z17 z18 z19))]) (cx := []) (wr := [(za, (b13_0 0 z1 (nI z2) (nI z3) z4 z5 z6 z7 z8 z9 (nI z10) z11 z12 z13 z14 z15 (nI z16) z17 z18 z19))]) (rx := []) (pl := va_pl L M_95) (pl1 := va_pl L M_95) hP hD [] [0] rfl rfl (by decide) (by decide) hk1 hFc hP1 hD1
                                have hP : va_P D vwCl ([(za, (b13_0 0 z1 (nI z2) (nI z3) z4 z5 z6 z7 z8 z9 (nI z10) z11 z12 z13 z14 z15 (nI z16) z17 z18 z19))] ++ va_pl L M_95) H_303 := hP
                                have hD : va_D A ([(za, (b13_0 0 z1 (nI z2) (nI z3) z4 z5 z6 z7 z8 z9 (nI z10) z11 z12 z13 z14 z15 (nI z16) z17 z18 z19))] ++ va_pl L M_95) := hD
                                rcases hp_306 with ⟨rfl, c_307⟩ | ⟨rfl, c_308⟩
                                · have hz := rfl (a := 0)
                                  have hpp : (prt (SX (k1 : Int32).toNatClampNeg) (SY (k1 : Int32).toNatClampNeg)) ((v6w91 : Nat) : Int) := by have h9 := c_307; rw [hV.2.1, hV.2.2.1, nI_toInt (by omega)] at h9; rw [← hZk.1, ← hZk.2]; exact (prt_cg rfl rfl rfl rfl rfl rfl rfl).mp h9
                                  refine lv_if_eq (tgt := 217) hx hb dX13_close_183 (by decide) (fun c_309 => absurd c_309 (by decide)) (fun _ => ?_)
                                  refine lv_aload_n hx hb dX13_close_186 rfl (lv_at hl 4 rfl) ?_
                                  refine pg_getN (D := D) (ci := 12) (v := .ref v255) (C := RX12) (T := TX12) (N := 51) hx hb hg inG12 hown hK hP hb_15.1 hM253 rfl 44 (by decide) (hN.use (Cond.fieldLinkNest RX13 265 RX12 "stretchDay" "[I" RX13) 53 rfl rfl) (fun _ h9 => h9) hv255 dX13_close_187 ?_
                                  refine lv_aload_n hx hb dX13_close_190 rfl (lv_at hl 4 rfl) ?_
                                  refine pg_getN (D := D) (ci := 12) (v := .int (nI v254)) (C := RX12) (T := TX12) (N := 51) hx hb hg inG12 hown hK hP hb_15.1 hM253 rfl 17 (by decide) (hN.use (Cond.fieldLinkNest RX13 256 RX12 "stretches" "I" RX13) 26 rfl rfl) (fun _ h9 => h9) hv254 dX13_close_191 ?_
                                  refine lv_iload hx hb dX13_close_194 (lv_at hl 0 rfl) ?_
                                  refine pg_iast hx hb hK hP hD hS hc255.1 0 hM256 rfl (inbN v254 120 (by omega) (by omega)) dX13_close_196 (fun H_310 locs hP hD hS => ?_)
                                  obtain ⟨M_311, eM_311⟩ : ∃ M1 : Hp, M1 = va_up M_95 v255 (.inl (cy 14, 120, .inl (upd f256 ((nI v254) : Int32).toNatClampNeg (nI v6w91)))) := ⟨_, rfl⟩
                                  have hy44 : gpw91 = f256 := (congrFun hV.2.2.1 44).symm.trans (ax_of hM253 (by decide) hv255 hM256)
                                  have hV : VW K L M M_311 b13 (va_up (fx M b13) 17 ((gnw91 : Nat) : Int)) (va_up (va_up (va_up (ax M b13) 44 gpw91) 45 gqw91) 44 (upd gpw91 ((nI v254) : Int32).toNatClampNeg (nI v6w91))) := by rw [eM_311]; exact hV.ast (j := 44) hW hb_15 hM253 (by decide) hv255 hc255 hM256
                                  have hP : va_P D vwCl ([(za, (b13_0 0 z1 (nI z2) (nI z3) z4 z5 z6 z7 z8 z9 (nI z10) z11 z12 z13 z14 z15 (nI z16) z17 z18 z19))] ++ va_pl L M_311) H_310 := by rw [eM_311]; exact hP
                                  have hD : va_D A ([(za, (b13_0 0 z1 (nI z2) (nI z3) z4 z5 z6 z7 z8 z9 (nI z10) z11 z12 z13 z14 z15 (nI z16) z17 z18 z19))] ++ va_pl L M_311) := by rw [eM_311]; exact hD
                                  have hW : WOM cy K L M_311 := by rw [eM_311]; exact hW.up_45 hc255 ⟨_, rfl, (updP (P := fun z => ∃ c : Nat, c < 1000 ∧ z = nI c) hf256 ⟨v6w91, by omega, rfl⟩)⟩
                                  have hF : fr K L [12, 14, 15, 32, 42, 45, 46, 79, 80, 81, 83, 86, 87, 88, 89, 90, 91, 92, 93, 94, 95, 96, 97, 98, 99] M M_311 := by rw [eM_311]; exact hF.up hc255 (by decide)
                                  have hG : fG K L [1, 7, 8, 13, 14, 15, 16, 17, 18] M M_311 := by rw [eM_311]; exact hG.arr hc255 (by decide)
                                  have hM_312 : M_311 v255 = .inl (cy 14, 120, .inl (upd f256 ((nI v254) : Int32).toNatClampNeg (nI v6w91))) := by rw [eM_311]; exact va_up_self _ _ _
                                  have hM_313 : M_311 b13 = .inr (12, fs253) := by rw [eM_311, va_up_ne _ _ (hb_15.neT hc255 (by decide))]; exact hM253
                                  have hM_314 : M_311 v257 = .inl (cy 14, 120, .inl (f258)) := by rw [eM_311, va_up_ne _ _ (hc257.neT hc255 (by decide))]; exact hM258
                                  have hf_316 : ∀ j, j < 120 → ∃ c : Nat, c < 1000 ∧ (upd f256 ((nI v254) : Int32).toNatClampNeg (nI v6w91)) j = nI c := (updP (P := fun z => ∃ c : Nat, c < 1000 ∧ z = nI c) hf256 ⟨v6w91, by omega, rfl⟩)
                                  obtain ⟨f_315, ef_315⟩ : ∃ f : Nat → Int32, f = upd f256 ((nI v254) : Int32).toNatClampNeg (nI v6w91) := ⟨_, rfl⟩
                                  rw [← ef_315] at hM_312 hf_316
                                  refine lv_aload_n hx hb dX13_close_197 rfl (lv_at hl 4 rfl) ?_
                                  refine pg_getN (D := D) (ci := 12) (v := .ref v257) (C := RX12) (T := TX12) (N := 51) hx hb hg inG12 hown hK hP hb_15.1 hM_313 rfl 45 (by decide) (hN.use (Cond.fieldLinkNest RX13 268 RX12 "stretchDays" "[I" RX13) 54 rfl rfl) (fun _ h9 => h9) hv257 dX13_close_198 ?_
                                  refine lv_aload_n hx hb dX13_close_201 rfl (lv_at hl 4 rfl) ?_
                                  refine pg_getN (D := D) (ci := 12) (v := .int (nI v254)) (C := RX12) (T := TX12) (N := 51) hx hb hg inG12 hown hK hP hb_15.1 hM_313 rfl 17 (by decide) (hN.use (Cond.fieldLinkNest RX13 256 RX12 "stretches" "I" RX13) 26 rfl rfl) (fun _ h9 => h9) hv254 dX13_close_202 ?_
                                  refine lv_iconst (v := 0) hx hb dX13_close_205 (by decide) ?_
                                  refine pg_iast hx hb hK hP hD hS hc257.1 0 hM_314 rfl (inbN v254 120 (by omega) (by omega)) dX13_close_206 (fun H_317 locs hP hD hS => ?_)
                                  obtain ⟨M_318, eM_318⟩ : ∃ M1 : Hp, M1 = va_up M_311 v257 (.inl (cy 14, 120, .inl (upd f258 ((nI v254) : Int32).toNatClampNeg 0))) := ⟨_, rfl⟩
                                  have hy45 : gqw91 = f258 := (congrFun hV.2.2.1 45).symm.trans (ax_of hM_313 (by decide) hv257 hM_314)
                                  have hV : VW K L M M_318 b13 (va_up (fx M b13) 17 ((gnw91 : Nat) : Int)) (va_up (va_up (va_up (va_up (ax M b13) 44 gpw91) 45 gqw91) 44 (upd gpw91 ((nI v254) : Int32).toNatClampNeg (nI v6w91))) 45 (upd gqw91 ((nI v254) : Int32).toNatClampNeg 0)) := by rw [eM_318]; exact hV.ast (j := 45) hW hb_15 hM_313 (by decide) hv257 hc257 hM_314
                                  have hP : va_P D vwCl ([(za, (b13_0 0 z1 (nI z2) (nI z3) z4 z5 z6 z7 z8 z9 (nI z10) z11 z12 z13 z14 z15 (nI z16) z17 z18 z19))] ++ va_pl L M_318) H_317 := by rw [eM_318]; exact hP
                                  have hD : va_D A ([(za, (b13_0 0 z1 (nI z2) (nI z3) z4 z5 z6 z7 z8 z9 (nI z10) z11 z12 z13 z14 z15 (nI z16) z17 z18 z19))] ++ va_pl L M_318) := by rw [eM_318]; exact hD
                                  have hW : WOM cy K L M_318 := by rw [eM_318]; exact hW.up_46 hc257 ⟨_, rfl, (updP (P := fun z => ∃ c : Nat, c < 1001 ∧ z = nI c) hf258 ⟨0, by omega, rfl⟩)⟩
                                  have hF : fr K L [12, 14, 15, 32, 42, 45, 46, 79, 80, 81, 83, 86, 87, 88, 89, 90, 91, 92, 93, 94, 95, 96, 97, 98, 99] M M_318 := by rw [eM_318]; exact hF.up hc257 (by decide)
                                  have hG : fG K L [1, 7, 8, 13, 14, 15, 16, 17, 18] M M_318 := by rw [eM_318]; exact hG.arr hc257 (by decide)
                                  have hM_319 : M_318 v257 = .inl (cy 14, 120, .inl (upd f258 ((nI v254) : Int32).toNatClampNeg 0)) := by rw [eM_318]; exact va_up_self _ _ _
                                  have hM_320 : M_318 v255 = .inl (cy 14, 120, .inl (f_315)) := by rw [eM_318, va_up_ne _ _ (hc255.neT hc257 (by decide))]; exact hM_312
                                  have hM_321 : M_318 b13 = .inr (12, fs253) := by rw [eM_318, va_up_ne _ _ (hb_15.neT hc257 (by decide))]; exact hM_313
                                  have hf_323 : ∀ j, j < 120 → ∃ c : Nat, c < 1001 ∧ (upd f258 ((nI v254) : Int32).toNatClampNeg 0) j = nI c := (updP (P := fun z => ∃ c : Nat, c < 1001 ∧ z = nI c) hf258 ⟨0, by omega, rfl⟩)
                                  obtain ⟨f_322, ef_322⟩ : ∃ f : Nat → Int32, f = upd f258 ((nI v254) : Int32).toNatClampNeg 0 := ⟨_, rfl⟩
                                  rw [← ef_322] at hM_319 hf_323
                                  refine lv_aload_n hx hb dX13_close_207 rfl (lv_at hl 4 rfl) ?_
                                  refine lv_dup hx hb dX13_close_208 rfl ?_
                                  refine pg_getN (D := D) (ci := 12) (v := .int (nI v254)) (C := RX12) (T := TX12) (N := 51) hx hb hg inG12 hown hK hP hb_15.1 hM_321 rfl 17 (by decide) (hN.use (Cond.fieldLinkNest RX13 256 RX12 "stretches" "I" RX13) 26 rfl rfl) (fun _ h9 => h9) hv254 dX13_close_209 ?_
                                  refine lv_iconst (v := 1) hx hb dX13_close_212 (by decide) ?_
                                  refine lv_iadd hx hb dX13_close_213 ?_
                                  refine lv_topi (fun f_324 ef_324 => ?_)
                                  obtain rfl : f_324 = (nI (v254 + 1)) := ef_324.trans (nI_add v254 1)
                                  refine pg_putN (D := D) (ci := 12) (v := .int (nI (v254 + 1))) (ty := .int) (C := RX12) (T := TX12) (N := 51) hx hb hg inG12 tyX12 tyX12_ok nmX12 hown hK hP hD hS hb_15.1 hM_321 rfl 17 (by decide) (hN.use (Cond.fieldLinkNest RX13 256 RX12 "stretches" "I" RX13) 26 rfl rfl) (fun _ h9 => h9) rfl (by decide +kernel) rfl rfl (by rw [hn253]; decide) dX13_close_214 (fun H_325 locs hP hD hS => ?_)
                                  have hs_328 : (fs253.set 17 (.int (nI (v254 + 1))))[17]? = some (.int (nI (v254 + 1))) := List.getElem?_set_self (by rw [hn253]; decide)
                                  have hk_327 := fld12_set (k := 17) (w := .int (nI (v254 + 1))) hl253 (show fld12 K L 17 (fs253.set 17 (.int (nI (v254 + 1)))) from ⟨(v254 + 1), hs_328, by omega⟩)
                                  have hn_329 : (fs253.set 17 (.int (nI (v254 + 1)))).length = 51 := by rw [List.length_set]; exact hn253
                                  have hv_330 : (fs253.set 17 (.int (nI (v254 + 1))))[44]? = some (.ref v255) := by rw [List.getElem?_set_ne (by decide)]; exact hv255
                                  have hv_331 : (fs253.set 17 (.int (nI (v254 + 1))))[45]? = some (.ref v257) := by rw [List.getElem?_set_ne (by decide)]; exact hv257
                                  have hb_332 : (v254 + 1) ≤ 120 := by omega
                                  obtain ⟨M_333, eM_333⟩ : ∃ M1 : Hp, M1 = va_up M_318 b13 (.inr (12, fs253.set 17 (.int (nI (v254 + 1))))) := ⟨_, rfl⟩
                                  have hx17 : ((gnw91 : Nat) : Int) = ((v254 : Nat) : Int) := (congrFun hV.2.1 17).symm.trans ((fx_of hM_321 rfl hv254).trans (nI_toInt (by omega)))
                                  have hV : VW K L M M_333 b13 (va_up (va_up (fx M b13) 17 ((gnw91 : Nat) : Int)) 17 (((v254 + 1) : Nat) : Int)) (va_up (va_up (va_up (va_up (ax M b13) 44 gpw91) 45 gqw91) 44 (upd gpw91 ((nI v254) : Int32).toNatClampNeg (nI v6w91))) 45 (upd gqw91 ((nI v254) : Int32).toNatClampNeg 0)) := by rw [eM_333]; exact hV.put hW hb_15 hM_321 hn253 rfl (by decide) rfl (nI_toInt (by omega))
                                  have hP : va_P D vwCl ([(za, (b13_0 0 z1 (nI z2) (nI z3) z4 z5 z6 z7 z8 z9 (nI z10) z11 z12 z13 z14 z15 (nI z16) z17 z18 z19))] ++ va_pl L M_333) H_325 := by rw [eM_333]; exact hP
                                  have hD : va_D A ([(za, (b13_0 0 z1 (nI z2) (nI z3) z4 z5 z6 z7 z8 z9 (nI z10) z11 z12 z13 z14 z15 (nI z16) z17 z18 z19))] ++ va_pl L M_333) := by rw [eM_333]; exact hD
                                  have hW : WOM cy K L M_333 := by rw [eM_333]; exact hW.up_12 hb_15 ⟨_, rfl, hn_329, hk_327⟩
                                  have hF : fr K L [12, 14, 15, 32, 42, 45, 46, 79, 80, 81, 83, 86, 87, 88, 89, 90, 91, 92, 93, 94, 95, 96, 97, 98, 99] M M_333 := by rw [eM_333]; exact hF.up hb_15 (by decide)
                                  have hG : fG K L [1, 7, 8, 13, 14, 15, 16, 17, 18] M M_333 := by rw [eM_333]; exact hG.up hM_321 (by decide)
                                  have hM_334 : M_333 b13 = .inr (12, fs253.set 17 (.int (nI (v254 + 1)))) := by rw [eM_333]; exact va_up_self _ _ _
                                  have hM_335 : M_333 v257 = .inl (cy 14, 120, .inl (f_322)) := by rw [eM_333, va_up_ne _ _ (hc257.neT hb_15 (by decide))]; exact hM_319
                                  have hM_336 : M_333 v255 = .inl (cy 14, 120, .inl (f_315)) := by rw [eM_333, va_up_ne _ _ (hc255.neT hb_15 (by decide))]; exact hM_320
                                  refine lv_aload_n hx hb dX13_close_217 rfl (lv_at hl 4 rfl) ?_
                                  refine pg_getN (D := D) (ci := 12) (v := .ref v257) (C := RX12) (T := TX12) (N := 51) hx hb hg inG12 hown hK hP hb_15.1 hM_334 rfl 45 (by decide) (hN.use (Cond.fieldLinkNest RX13 268 RX12 "stretchDays" "[I" RX13) 54 rfl rfl) (fun _ h9 => h9) hv_331 dX13_close_218 ?_
                                  refine lv_aload_n hx hb dX13_close_221 rfl (lv_at hl 4 rfl) ?_
                                  refine pg_getN (D := D) (ci := 12) (v := .int (nI (v254 + 1))) (C := RX12) (T := TX12) (N := 51) hx hb hg inG12 hown hK hP hb_15.1 hM_334 rfl 17 (by decide) (hN.use (Cond.fieldLinkNest RX13 256 RX12 "stretches" "I" RX13) 26 rfl rfl) (fun _ h9 => h9) hs_328 dX13_close_222 ?_
                                  refine lv_iconst (v := 1) hx hb dX13_close_225 (by decide) ?_
                                  refine lv_isub hx hb dX13_close_226 ?_
                                  refine lv_topi (fun f_337 ef_337 => ?_)
                                  obtain rfl : f_337 = (nI ((v254 + 1) - 1)) := ef_337.trans (nI_prd (by omega))
                                  refine lv_dup2_11 hx hb dX13_close_227 rfl rfl ?_
                                  have hi_338 : vp_in (nI ((v254 + 1) - 1)) 120 := (inbN ((v254 + 1) - 1) 120 (by omega) (by omega))
                                  refine pg_iald hx hb hK hP hc257.1 0 hM_335 rfl hi_338 dX13_close_228 ?_
                                  have hp_339 := hf_323 _ (vp_lt hi_338)
                                  obtain ⟨c_340, hc_341, ec_342⟩ := hp_339
                                  rw [ec_342]
                                  have hy45 : (upd gqw91 ((nI v254) : Int32).toNatClampNeg 0) = f_322 := (congrFun hV.2.2.1 45).symm.trans (ax_of hM_334 (by decide) hv_331 hM_335)
                                  have hec : (upd gqw91 ((nI v254) : Int32).toNatClampNeg 0) ((nI ((v254 + 1) - 1)) : Int32).toNatClampNeg = nI c_340 := by rw [hy45]; exact ec_342
                                  have hcc : c_340 = 0 := updz (n := v254) (nI_cl (by omega)) ((nI_cl (by omega)).trans (by omega)) hec (by omega)
                                  refine lv_iconst (v := 1) hx hb dX13_close_229 (by decide) ?_
                                  refine lv_iadd hx hb dX13_close_230 ?_
                                  refine lv_topi (fun f_343 ef_343 => ?_)
                                  obtain rfl : f_343 = (nI (c_340 + 1)) := ef_343.trans (nI_add c_340 1)
                                  refine pg_iast hx hb hK hP hD hS hc257.1 0 hM_335 rfl (inbN ((v254 + 1) - 1) 120 (by omega) (by omega)) dX13_close_231 (fun H_344 locs hP hD hS => ?_)
                                  obtain ⟨M_345, eM_345⟩ : ∃ M1 : Hp, M1 = va_up M_333 v257 (.inl (cy 14, 120, .inl (upd f_322 ((nI ((v254 + 1) - 1)) : Int32).toNatClampNeg (nI (c_340 + 1))))) := ⟨_, rfl⟩
                                  have hy45 : (upd gqw91 ((nI v254) : Int32).toNatClampNeg 0) = f_322 := (congrFun hV.2.2.1 45).symm.trans (ax_of hM_334 (by decide) hv_331 hM_335)
                                  have hV : VW K L M M_345 b13 (va_up (va_up (fx M b13) 17 ((gnw91 : Nat) : Int)) 17 (((v254 + 1) : Nat) : Int)) (va_up (va_up (va_up (va_up (va_up (ax M b13) 44 gpw91) 45 gqw91) 44 (upd gpw91 ((nI v254) : Int32).toNatClampNeg (nI v6w91))) 45 (upd gqw91 ((nI v254) : Int32).toNatClampNeg 0)) 45 (upd (upd gqw91 ((nI v254) : Int32).toNatClampNeg 0) ((nI ((v254 + 1) - 1)) : Int32).toNatClampNeg (nI (c_340 + 1)))) := by rw [eM_345]; exact hV.ast (j := 45) hW hb_15 hM_334 (by decide) hv_331 hc257 hM_335
                                  have hP : va_P D vwCl ([(za, (b13_0 0 z1 (nI z2) (nI z3) z4 z5 z6 z7 z8 z9 (nI z10) z11 z12 z13 z14 z15 (nI z16) z17 z18 z19))] ++ va_pl L M_345) H_344 := by rw [eM_345]; exact hP
                                  have hD : va_D A ([(za, (b13_0 0 z1 (nI z2) (nI z3) z4 z5 z6 z7 z8 z9 (nI z10) z11 z12 z13 z14 z15 (nI z16) z17 z18 z19))] ++ va_pl L M_345) := by rw [eM_345]; exact hD
                                  have hW : WOM cy K L M_345 := by rw [eM_345]; exact hW.up_46 hc257 ⟨_, rfl, (updP (P := fun z => ∃ c : Nat, c < 1001 ∧ z = nI c) hf_323 ⟨(c_340 + 1), by omega, rfl⟩)⟩
                                  have hF : fr K L [12, 14, 15, 32, 42, 45, 46, 79, 80, 81, 83, 86, 87, 88, 89, 90, 91, 92, 93, 94, 95, 96, 97, 98, 99] M M_345 := by rw [eM_345]; exact hF.up hc257 (by decide)
                                  have hG : fG K L [1, 7, 8, 13, 14, 15, 16, 17, 18] M M_345 := by rw [eM_345]; exact hG.arr hc257 (by decide)
                                  have hM_346 : M_345 v257 = .inl (cy 14, 120, .inl (upd f_322 ((nI ((v254 + 1) - 1)) : Int32).toNatClampNeg (nI (c_340 + 1)))) := by rw [eM_345]; exact va_up_self _ _ _
                                  have hM_347 : M_345 b13 = .inr (12, fs253.set 17 (.int (nI (v254 + 1)))) := by rw [eM_345, va_up_ne _ _ (hb_15.neT hc257 (by decide))]; exact hM_334
                                  have hM_348 : M_345 v255 = .inl (cy 14, 120, .inl (f_315)) := by rw [eM_345, va_up_ne _ _ (hc255.neT hc257 (by decide))]; exact hM_336
                                  have hf_350 : ∀ j, j < 120 → ∃ c : Nat, c < 1001 ∧ (upd f_322 ((nI ((v254 + 1) - 1)) : Int32).toNatClampNeg (nI (c_340 + 1))) j = nI c := (updP (P := fun z => ∃ c : Nat, c < 1001 ∧ z = nI c) hf_323 ⟨(c_340 + 1), by omega, rfl⟩)
                                  obtain ⟨f_349, ef_349⟩ : ∃ f : Nat → Int32, f = upd f_322 ((nI ((v254 + 1) - 1)) : Int32).toNatClampNeg (nI (c_340 + 1)) := ⟨_, rfl⟩
                                  rw [← ef_349] at hM_346 hf_350
                                  refine lv_iinc (v := (nI (v6w91 + 1))) (lv' := [(6, .int (nI (v6w91 + 1))), (5, .int (-1)), (4, .int (nI c_33)), (3, .int 0), (2, .ref b13), (0, .ref za), (1, .int k1)]) hx hb dX13_close_232 hl (k := 0) rfl (nI_1 v6w91) (by decide) rfl (fun ls hl => ?_)
                                  refine lv_goto (tgt := 164) hx hb dX13_close_235 (by decide) ?_
                                  have hDe : (SX (k1 : Int32).toNatClampNeg 1 + 1 + ((v6w91 - 0 : Nat) : Int)) = ((v6w91 : Nat) : Int) := by omega
                                  have hst : nst (prt (SX (k1 : Int32).toNatClampNeg) (SY (k1 : Int32).toNatClampNeg)) (SX (k1 : Int32).toNatClampNeg 1 + 1) (v6w91 + 1 - 0) = nst (prt (SX (k1 : Int32).toNatClampNeg) (SY (k1 : Int32).toNatClampNeg)) (SX (k1 : Int32).toNatClampNeg 1 + 1) (v6w91 - 0) + 1 := by rw [show v6w91 + 1 - 0 = (v6w91 - 0) + 1 by omega]; exact nst_yes (Or.inr (by rw [hDe]; exact hpp))
                                  exact ih_89 (v6w91 + 1) (v254 + 1) (upd gpw91 ((nI v254) : Int32).toNatClampNeg (nI v6w91)) (upd (upd gqw91 ((nI v254) : Int32).toNatClampNeg 0) ((nI ((v254 + 1) - 1)) : Int32).toNatClampNeg (nI (c_340 + 1))) M_345 H_344 _ _ (by omega) (by omega) (by rw [hst, ← hx_93]; omega) (by have h := SD.new hSD (by omega) (show (nI v254).toNatClampNeg = gnw91 from (nI_cl (by omega)).trans (by omega)) (show (nI ((v254 + 1) - 1)).toNatClampNeg = gnw91 from (nI_cl (by omega)).trans (by omega)) hcc; rw [← hgn] at h; exact h) hW hF hG (by have h := hV; simp only [va_up_up] at h; rw [va_up_4] at h; exact h) hP hD hS (lv_sub hl [0, 1, 2, 3, 4, 5, 6] rfl)
                                · have hz := rfl (a := 0)
                                  have hpp : ¬ (prt (SX (k1 : Int32).toNatClampNeg) (SY (k1 : Int32).toNatClampNeg)) ((v6w91 : Nat) : Int) := by have h9 := c_308; rw [hV.2.1, hV.2.2.1, nI_toInt (by omega)] at h9; rw [← hZk.1, ← hZk.2]; exact fun q9 => h9 ((prt_cg rfl rfl rfl rfl rfl rfl rfl).mpr q9)
                                  refine lv_if_eq (tgt := 217) hx hb dX13_close_183 (by decide) (fun _ => ?_) (fun c_351 => absurd c_351 (by decide))
                                  refine lv_aload_n hx hb dX13_close_217 rfl (lv_at hl 4 rfl) ?_
                                  refine pg_getN (D := D) (ci := 12) (v := .ref v257) (C := RX12) (T := TX12) (N := 51) hx hb hg inG12 hown hK hP hb_15.1 hM253 rfl 45 (by decide) (hN.use (Cond.fieldLinkNest RX13 268 RX12 "stretchDays" "[I" RX13) 54 rfl rfl) (fun _ h9 => h9) hv257 dX13_close_218 ?_
                                  refine lv_aload_n hx hb dX13_close_221 rfl (lv_at hl 4 rfl) ?_
                                  refine pg_getN (D := D) (ci := 12) (v := .int (nI v254)) (C := RX12) (T := TX12) (N := 51) hx hb hg inG12 hown hK hP hb_15.1 hM253 rfl 17 (by decide) (hN.use (Cond.fieldLinkNest RX13 256 RX12 "stretches" "I" RX13) 26 rfl rfl) (fun _ h9 => h9) hv254 dX13_close_222 ?_
                                  refine lv_iconst (v := 1) hx hb dX13_close_225 (by decide) ?_
                                  refine lv_isub hx hb dX13_close_226 ?_
                                  refine lv_topi (fun f_352 ef_352 => ?_)
                                  obtain rfl : f_352 = (nI (v254 - 1)) := ef_352.trans (nI_prd (by omega))
                                  refine lv_dup2_11 hx hb dX13_close_227 rfl rfl ?_
                                  have hi_353 : vp_in (nI (v254 - 1)) 120 := (inbN (v254 - 1) 120 (by omega) (by omega))
                                  refine pg_iald hx hb hK hP hc257.1 0 hM258 rfl hi_353 dX13_close_228 ?_
                                  have hp_354 := hf258 _ (vp_lt hi_353)
                                  obtain ⟨c_355, hc_356, ec_357⟩ := hp_354
                                  rw [ec_357]
                                  have hy45 : gqw91 = f258 := (congrFun hV.2.2.1 45).symm.trans (ax_of hM253 (by decide) hv257 hM258)
                                  have hec : gqw91 ((nI (v254 - 1)) : Int32).toNatClampNeg = nI c_355 := by rw [hy45]; exact ec_357
                                  have hcc : c_355 ≤ v6w91 := SD.c hSD (by omega) ((nI_cl (by omega)).trans (by omega)) hec (by omega)
                                  refine lv_iconst (v := 1) hx hb dX13_close_229 (by decide) ?_
                                  refine lv_iadd hx hb dX13_close_230 ?_
                                  refine lv_topi (fun f_358 ef_358 => ?_)
                                  obtain rfl : f_358 = (nI (c_355 + 1)) := ef_358.trans (nI_add c_355 1)
                                  refine pg_iast hx hb hK hP hD hS hc257.1 0 hM258 rfl (inbN (v254 - 1) 120 (by omega) (by omega)) dX13_close_231 (fun H_359 locs hP hD hS => ?_)
                                  obtain ⟨M_360, eM_360⟩ : ∃ M1 : Hp, M1 = va_up M_95 v257 (.inl (cy 14, 120, .inl (upd f258 ((nI (v254 - 1)) : Int32).toNatClampNeg (nI (c_355 + 1))))) := ⟨_, rfl⟩
                                  have hy45 : gqw91 = f258 := (congrFun hV.2.2.1 45).symm.trans (ax_of hM253 (by decide) hv257 hM258)
                                  have hV : VW K L M M_360 b13 (va_up (fx M b13) 17 ((gnw91 : Nat) : Int)) (va_up (va_up (va_up (ax M b13) 44 gpw91) 45 gqw91) 45 (upd gqw91 ((nI (v254 - 1)) : Int32).toNatClampNeg (nI (c_355 + 1)))) := by rw [eM_360]; exact hV.ast (j := 45) hW hb_15 hM253 (by decide) hv257 hc257 hM258
                                  have hP : va_P D vwCl ([(za, (b13_0 0 z1 (nI z2) (nI z3) z4 z5 z6 z7 z8 z9 (nI z10) z11 z12 z13 z14 z15 (nI z16) z17 z18 z19))] ++ va_pl L M_360) H_359 := by rw [eM_360]; exact hP
                                  have hD : va_D A ([(za, (b13_0 0 z1 (nI z2) (nI z3) z4 z5 z6 z7 z8 z9 (nI z10) z11 z12 z13 z14 z15 (nI z16) z17 z18 z19))] ++ va_pl L M_360) := by rw [eM_360]; exact hD
                                  have hW : WOM cy K L M_360 := by rw [eM_360]; exact hW.up_46 hc257 ⟨_, rfl, (updP (P := fun z => ∃ c : Nat, c < 1001 ∧ z = nI c) hf258 ⟨(c_355 + 1), by omega, rfl⟩)⟩
                                  have hF : fr K L [12, 14, 15, 32, 42, 45, 46, 79, 80, 81, 83, 86, 87, 88, 89, 90, 91, 92, 93, 94, 95, 96, 97, 98, 99] M M_360 := by rw [eM_360]; exact hF.up hc257 (by decide)
                                  have hG : fG K L [1, 7, 8, 13, 14, 15, 16, 17, 18] M M_360 := by rw [eM_360]; exact hG.arr hc257 (by decide)
                                  have hM_361 : M_360 v257 = .inl (cy 14, 120, .inl (upd f258 ((nI (v254 - 1)) : Int32).toNatClampNeg (nI (c_355 + 1)))) := by rw [eM_360]; exact va_up_self _ _ _
                                  have hM_362 : M_360 b13 = .inr (12, fs253) := by rw [eM_360, va_up_ne _ _ (hb_15.neT hc257 (by decide))]; exact hM253
                                  have hM_363 : M_360 v255 = .inl (cy 14, 120, .inl (f256)) := by rw [eM_360, va_up_ne _ _ (hc255.neT hc257 (by decide))]; exact hM256
                                  have hf_365 : ∀ j, j < 120 → ∃ c : Nat, c < 1001 ∧ (upd f258 ((nI (v254 - 1)) : Int32).toNatClampNeg (nI (c_355 + 1))) j = nI c := (updP (P := fun z => ∃ c : Nat, c < 1001 ∧ z = nI c) hf258 ⟨(c_355 + 1), by omega, rfl⟩)
                                  obtain ⟨f_364, ef_364⟩ : ∃ f : Nat → Int32, f = upd f258 ((nI (v254 - 1)) : Int32).toNatClampNeg (nI (c_355 + 1)) := ⟨_, rfl⟩
                                  rw [← ef_364] at hM_361 hf_365
                                  refine lv_iinc (v := (nI (v6w91 + 1))) (lv' := [(6, .int (nI (v6w91 + 1))), (5, .int (-1)), (4, .int (nI c_33)), (3, .int 0), (2, .ref b13), (0, .ref za), (1, .int k1)]) hx hb dX13_close_232 hl (k := 0) rfl (nI_1 v6w91) (by decide) rfl (fun ls hl => ?_)
                                  refine lv_goto (tgt := 164) hx hb dX13_close_235 (by decide) ?_
                                  have hDe : (SX (k1 : Int32).toNatClampNeg 1 + 1 + ((v6w91 - 0 : Nat) : Int)) = ((v6w91 : Nat) : Int) := by omega
                                  have hst : nst (prt (SX (k1 : Int32).toNatClampNeg) (SY (k1 : Int32).toNatClampNeg)) (SX (k1 : Int32).toNatClampNeg 1 + 1) (v6w91 + 1 - 0) = nst (prt (SX (k1 : Int32).toNatClampNeg) (SY (k1 : Int32).toNatClampNeg)) (SX (k1 : Int32).toNatClampNeg 1 + 1) (v6w91 - 0) := by rw [show v6w91 + 1 - 0 = (v6w91 - 0) + 1 by omega]; exact nst_no (fun w9 => by rcases w9 with w9 | w9; exfalso; omega; rw [hDe] at w9; exact hpp w9)
                                  exact ih_89 (v6w91 + 1) gnw91 gpw91 (upd gqw91 ((nI (v254 - 1)) : Int32).toNatClampNeg (nI (c_355 + 1))) M_360 H_359 _ _ (by omega) (by omega) (by rw [hst, ← hx_93]) (SD.old hSD (by omega) ((nI_cl (by omega)).trans (by omega)) hec (by omega)) hW hF hG (by have h := hV; simp only [va_up_up] at h; exact h) hP hD hS (lv_sub hl [0, 1, 2, 3, 4, 5, 6] rfl)
                        exact key_88 (1001 - 0 + 1) 0 0 (ax M b13 44) (ax M b13 45) M_83 H_84 _ _ (by omega) (by omega) (by rw [Nat.sub_self]; exact nst_0.symm) (SD.rf _ _ _) hW hF hG (by rw [va_up_id, va_up_id]; exact hV) hP hD hS (lv_sub hl [0, 1, 2, 3, 4, 5, 6] rfl)
                      · have hz := rfl (a := 0)
                        have n_366 : ¬ (24 ≤ v6w81) := fun q => c_86 ((iLE (a := 24) (b := v6w81) (by omega) (by omega)).mpr q)
                        refine lv_aload_n hx hb dX13_close_147 rfl (lv_at hl 4 rfl) ?_
                        obtain ⟨v367, hv367, hc367⟩ : ∃ v : Nat, (fs16.set 17 (.int 0))[33]? = some (.ref v : Value) ∧ isk K L v 92 24 := hk_66 33 (by decide)
                        refine pg_getN (D := D) (ci := 12) (v := .ref v367) (C := RX12) (T := TX12) (N := 51) hx hb hg inG12 hown hK hP hb_15.1 hM_85 rfl 33 (by decide) (hN.use (Cond.fieldLinkNest RX13 259 RX12 "dues" "[J" RX13) 42 rfl rfl) (fun _ h9 => h9) hv367 dX13_close_148 ?_
                        refine lv_iload hx hb dX13_close_151 (lv_at hl 0 rfl) ?_
                        refine lv_lconst (v := 0) hx hb dX13_close_153 (by decide) ?_
                        obtain ⟨f368, hM368⟩ := hW.open_92 hc367
                        refine pg_last hx hb hK hP hD hS hc367.1 1 hM368 rfl (inbN v6w81 24 (by omega) (by omega)) dX13_close_154 (fun H_369 locs hP hD hS => ?_)
                        obtain ⟨M_370, eM_370⟩ : ∃ M1 : Hp, M1 = va_up M_83 v367 (.inl (cy 15, 24, .inr (.inl (vp_updL f368 ((nI v6w81) : Int32).toNatClampNeg 0)))) := ⟨_, rfl⟩
                        have hV : VW K L M M_370 b13 (va_up (fx M b13) 17 (0 : Int)) (ax M b13) := by rw [eM_370]; exact hV.oth hW hb_15 hc367 (by decide)
                        have hP : va_P D vwCl ([(za, (b13_0 0 z1 (nI z2) (nI z3) z4 z5 z6 z7 z8 z9 (nI z10) z11 z12 z13 z14 z15 (nI z16) z17 z18 z19))] ++ va_pl L M_370) H_369 := by rw [eM_370]; exact hP
                        have hD : va_D A ([(za, (b13_0 0 z1 (nI z2) (nI z3) z4 z5 z6 z7 z8 z9 (nI z10) z11 z12 z13 z14 z15 (nI z16) z17 z18 z19))] ++ va_pl L M_370) := by rw [eM_370]; exact hD
                        have hW : WOM cy K L M_370 := by rw [eM_370]; exact hW.up_92 hc367 ⟨_, rfl⟩
                        have hF : fr K L [12, 14, 15, 32, 42, 45, 46, 79, 80, 81, 83, 86, 87, 88, 89, 90, 91, 92, 93, 94, 95, 96, 97, 98, 99] M M_370 := by rw [eM_370]; exact hF.up hc367 (by decide)
                        have hG : fG K L [1, 7, 8, 13, 14, 15, 16, 17, 18] M M_370 := by rw [eM_370]; exact hG.arr hc367 (by decide)
                        have hM_371 : M_370 v367 = .inl (cy 15, 24, .inr (.inl (vp_updL f368 ((nI v6w81) : Int32).toNatClampNeg 0))) := by rw [eM_370]; exact va_up_self _ _ _
                        have hM_372 : M_370 b13 = .inr (12, fs16.set 17 (.int 0)) := by rw [eM_370, va_up_ne _ _ (hb_15.neT hc367 (by decide))]; exact hM_85
                        obtain ⟨f_373, ef_373⟩ : ∃ f : Nat → Int64, f = vp_updL f368 ((nI v6w81) : Int32).toNatClampNeg 0 := ⟨_, rfl⟩
                        rw [← ef_373] at hM_371
                        refine lv_iinc (v := (nI (v6w81 + 1))) (lv' := [(6, .int (nI (v6w81 + 1))), (5, .int (-1)), (4, .int (nI c_33)), (3, .int 0), (2, .ref b13), (0, .ref za), (1, .int k1)]) hx hb dX13_close_155 hl (k := 0) rfl (nI_1 v6w81) (by decide) rfl (fun ls hl => ?_)
                        refine lv_goto (tgt := 140) hx hb dX13_close_158 (by decide) ?_
                        exact ih_79 (v6w81 + 1) M_370 H_369 _ _ (by omega) hM_372 (by omega) hW hF hG hV hP hD hS (lv_sub hl [0, 1, 2, 3, 4, 5, 6] rfl)
                  exact key_78 (24 - 0 + 1) 0 M_76 H_64 _ _ (by omega) hM_77 (by omega) hW hF hG hV hP hD hS (lv_sub hl [0, 1, 2, 3, 4, 5, 6] rfl)
                · have hz := rfl (a := 0)
                  refine lv_istore (lv' := [(5, .int (nI j_58)), (4, .int (nI c_33)), (3, .int 0), (2, .ref b13), (0, .ref za), (1, .int k1)]) hx hb dX13_close_115 hl (by decide) rfl (fun ls hl => ?_)
                  refine lv_iload hx hb dX13_close_117 (lv_at hl 0 rfl) ?_
                  refine lv_iconst (v := (-1)) hx hb dX13_close_119 (by decide) ?_
                  refine lv_icmp_eq (tgt := 132) hx hb dX13_close_120 (by decide) (fun c_374 => absurd c_374 (nI_ne_m1 (by omega))) (fun _ => ?_)
                  refine lv_aload_n hx hb dX13_close_123 rfl (lv_at hl 4 rfl) ?_
                  refine lv_bipush (v := 7) hx hb dX13_close_124 (by decide) ?_
                  refine lv_iload hx hb dX13_close_126 (lv_at hl 0 rfl) ?_
                  have hPc := hP.sub (ws' := [(za, (b13_0 0 z1 (nI z2) (nI z3) z4 z5 z6 z7 z8 z9 (nI z10) z11 z12 z13 z14 z15 (nI z16) z17 z18 z19))]) [0] rfl
                  have hDc := hD.sub (ws' := [(za, (b13_0 0 z1 (nI z2) (nI z3) z4 z5 z6 z7 z8 z9 (nI z10) z11 z12 z13 z14 z15 (nI z16) z17 z18 z19))]) [0] (by decide) rfl
                  have hKc := hK.sub (tys' := []) [] rfl
                  have hFc := va_free (wc := [(za, (b13_0 0 z1 (nI z2) (nI z3) z4 z5 z6 z7 z8 z9 (nI z10) z11 z12 z13 z14 z15 (nI z16) z17 z18 z19))]) hD hS hA [0] rfl
                  refine va_calli (va_runV (As := [.int 7, .int (nI j_58)]) (rest := []) ⟨hx, hb, hml, hown, hg⟩ (m_refusedAt l D H_53.size za 0 z1 (nI z2) (nI z3) z4 z5 z6 z7 z8 z9 (nI z10) z11 z12 z13 z14 z15 (nI z16) z17 z18 z19 7 (nI j_58)) (cwV 2 hg (gV wd_882 wd_883 wd_884 wd_717 wd_885) rfl rfl rfl (by decide +kernel) ⟨(Nat.le_trans (Nat.le_of_ble_eq_true rfl) hRf), (Nat.le_trans (Nat.le_of_ble_eq_true rfl) hRl)⟩) ⟨Pr.blind, va_recv hK hP (ci := 13) (q0 := 0) rfl rfl, fun U hU hW => ⟨rfl, Pr.at hPc hKc hDc hN hU hW⟩⟩ rfl rfl hl.1 rfl (lv_room (Nat.le_of_ble_eq_true rfl)) dX13_close_128 ⟨(Nat.le_trans (Nat.le_of_ble_eq_true rfl) hRc), (Nat.le_trans (Nat.le_of_ble_eq_true rfl) hRs)⟩) hS (fun q _ h => hFc q h) hFc (fun r_376 M_377 t H_375 locs ht hvm hw hB hz1 hk1 hS => ?_)
                  have hp_378 := hw
                  obtain ⟨hP1, hK1, hD1⟩ := hB
                  rw [ht] at hP1
                  obtain ⟨hP, hD⟩ := va_joinQ (X := [(za, (b13_0 0 z1 (nI z2) (nI z3) z4 z5 z6 z7 z8 z9 (nI z10) z11 z12 z13 z14 z15 (nI z16) z17 z18 z19))]) (cx := [(za, (b13_0 0 z1 (nI z2) (nI z3) z4 z5 z6 z7 z8 z9 (nI z10) z11 z12 z13 z14 z15 (nI z16) z17 z18 z19))]) (wr := []) (w1 := [(za, (b13_0 0 z1 (nI z2) (nI z3) 7 (nI j_58) z6 z7 z8 z9 (nI z10) z11 z12 z13 z14 z15 (nI z16) z17 z18 z19))]) (pl := va_pl L M_43) hP hD [0] [] rfl rfl (by decide) (by decide) hk1 hFc hP1 hD1
                  have hP : va_P D vwCl ([(za, (b13_0 0 z1 (nI z2) (nI z3) 7 (nI j_58) z6 z7 z8 z9 (nI z10) z11 z12 z13 z14 z15 (nI z16) z17 z18 z19))] ++ va_pl L M_43) H_375 := hP
                  have hD : va_D A ([(za, (b13_0 0 z1 (nI z2) (nI z3) 7 (nI j_58) z6 z7 z8 z9 (nI z10) z11 z12 z13 z14 z15 (nI z16) z17 z18 z19))] ++ va_pl L M_43) := hD
                  have hq := Eq.symm hp_378
                  subst hq
                  have hlg7 : ¬ ∀ b, b < z2 → ¬ LAG PK PT SX SY (k1 : Int32).toNatClampNeg (enD (SX (k1 : Int32).toNatClampNeg) (SY (k1 : Int32).toNatClampNeg)) b := fun w9 => w9 _ c_60 (by rw [hEd]; have h9 := c_61; rw [nI_toInt (by omega)] at h9; exact h9)
                  have hno : ¬ okCl z2 PK PT SX SY k1 := fun q9 => by unfold okCl okH at q9; first | omega | (obtain ⟨⟨_, _⟩, _, _, _, _⟩ := q9; first | omega | contradiction)
                  have hA9 : HA (ax M b13 2) (ax M b13 3) := hAT.1
                  have hB9 : HB (fx M b13 16) (fx M b13 14) (ax M b13 3) (ax M b13 43) := hAT.2.1
                  have hC9 : HC (fx M b13 10) (ax M b13 22) (ax M b13 23) := hAT.2.2.1
                  have hD9 : HD (fx M b13 0) (fx M b13 11) (fx M b13 15) (ax M b13 34) (ax M b13 41) := hAT.2.2.2.1
                  have hE9 : HE (fx M b13 0) (fx M b13 1) (fx M b13 12) (fx M b13 13) (ax M b13 37) := hAT.2.2.2.2
                  have hH9 : HI (fx M b13) (ax M b13) := ⟨hA9, hB9, hC9, hD9, hE9⟩
                  have hGI9 : GI K L z1 z2 M_43 := GI.fin hW0 i1 b2 hGI hact hV (hF.at i1 (by decide)) hH9
                  rw [hQ]
                  exact W.iret (v := (-1)) hx hb hr (fun t ht hW9 => ⟨⟨(-1), M_43, rfl, ⟨hW, hF, hG, ⟨hGI9, fun _ => 0, fun _ _ => 0, fun w9 => absurd w9 hno, (by unfold sxCl syCl; rw [if_neg hno, if_neg hno]; have hQ9 := ZSx.fin hW0 i1 b2 hZS hGI.1 hkn hb9 hV (hF.at i1 (by decide)) hZk.1 hZk.2; rw [va_upJ, va_upJ] at hQ9; exact hQ9)⟩, (by unfold anCl; rw [if_neg hno])⟩, ⟨7, (nI j_58), z16, (by omega), (WHR.lg ⟨⟨by omega, by omega⟩, by omega, by omega⟩ (fun d h1 h2 => hall d h1 (by rw [hEd] at h2; omega)) ⟨by omega, by rw [hEd]; have h9 := c_61; rw [nI_toInt (by omega)] at h9; exact h9, by rw [hEd]; have h9 := c_62; rw [nI_toInt (by omega)] at h9; exact h9⟩), by rw [ht]; exact hP, hD⟩⟩, hS.F ht⟩) hS.2.2 dX13_close_131
              · have hz := rfl (a := 0)
                have n_379 : ¬ (c_33 < v5w39) := fun q => c_46 ((iLT (a := c_33) (b := v5w39) (by omega) (by omega)).mpr q)
                refine lv_aload_n hx hb dX13_close_85 rfl (lv_at hl 3 rfl) ?_
                refine lv_iload hx hb dX13_close_86 (lv_at hl 0 rfl) ?_
                have hPc : va_P D vwCl ([] ++ va_pl L M_43) H_44 := hP.part (cx := []) [] rfl
                have hDc : va_D A ([] ++ va_pl L M_43) := hD.part (cx := []) [] (by decide) rfl
                have hFc : ∀ q, va_A ([] ++ va_pl L M_43) H_44.size q → A q := pg_free hDc hS hA
                refine va_calli (va_runV (As := [.int (nI v5w39)]) (rest := []) ⟨hx, hb, hml, hown, hg⟩ (f_isOpen l D cy K L M_43 H_44.size b13 v5w39  hW hb_15 (by omega)) (cwV 1 hg (gV wd_752 wd_753 wd_754 wd_737 wd_755) rfl rfl rfl (by decide +kernel) ⟨(Nat.le_trans (Nat.le_of_ble_eq_true rfl) hRf), (Nat.le_trans (Nat.le_of_ble_eq_true rfl) hRl)⟩) ⟨PG.blind, pg_recv hK hP hb_15.1 hM_45 rfl, fun U hU hW => ⟨rfl, PG.at hPc hK hDc hN hU hW⟩⟩ rfl rfl hl.1 rfl (lv_room (Nat.le_of_ble_eq_true rfl)) dX13_close_88 ⟨(Nat.le_trans (Nat.le_of_ble_eq_true rfl) hRc), (Nat.le_trans (Nat.le_of_ble_eq_true rfl) hRs)⟩) hS (fun q _ h => hFc q h) hFc (fun r_381 M_382 t H_380 locs ht hvm hw hB hz1 hk1 hS => ?_)
                have hp_383 := hw
                obtain ⟨hP1, hD1⟩ := hB
                rw [ht] at hP1
                obtain ⟨hP, hD⟩ := va_joinP (X := [(za, (b13_0 0 z1 (nI z2) (nI z3) z4 z5 z6 z7 z8 z9 (nI z10) z11 z12 z13 z14 z15 (nI z16) z17 z18 z19))]) (cx := []) (wr := [(za, (b13_0 0 z1 (nI z2) (nI z3) z4 z5 z6 z7 z8 z9 (nI z10) z11 z12 z13 z14 z15 (nI z16) z17 z18 z19))]) (rx := []) (pl := va_pl L M_43) (pl1 := va_pl L M_43) hP hD [] [0] rfl rfl (by decide) (by decide) hk1 hFc hP1 hD1
                have hP : va_P D vwCl ([(za, (b13_0 0 z1 (nI z2) (nI z3) z4 z5 z6 z7 z8 z9 (nI z10) z11 z12 z13 z14 z15 (nI z16) z17 z18 z19))] ++ va_pl L M_43) H_380 := hP
                have hD : va_D A ([(za, (b13_0 0 z1 (nI z2) (nI z3) z4 z5 z6 z7 z8 z9 (nI z10) z11 z12 z13 z14 z15 (nI z16) z17 z18 z19))] ++ va_pl L M_43) := hD
                rcases hp_383 with ⟨rfl, c_384⟩ | ⟨rfl, c_385⟩
                · have hz := rfl (a := 0)
                  have hop9 : opD (SY (k1 : Int32).toNatClampNeg) v5w39 := by have h9 := c_384; rw [hV.2.2.1, hZk.2] at h9; exact h9
                  refine lv_if_eq (tgt := 102) hx hb dX13_close_91 (by decide) (fun c_386 => absurd c_386 (by decide)) (fun _ => ?_)
                  refine lv_aload_n hx hb dX13_close_94 rfl (lv_at hl 4 rfl) ?_
                  refine lv_iconst (v := 5) hx hb dX13_close_95 (by decide) ?_
                  refine lv_iload hx hb dX13_close_96 (lv_at hl 0 rfl) ?_
                  have hPc := hP.sub (ws' := [(za, (b13_0 0 z1 (nI z2) (nI z3) z4 z5 z6 z7 z8 z9 (nI z10) z11 z12 z13 z14 z15 (nI z16) z17 z18 z19))]) [0] rfl
                  have hDc := hD.sub (ws' := [(za, (b13_0 0 z1 (nI z2) (nI z3) z4 z5 z6 z7 z8 z9 (nI z10) z11 z12 z13 z14 z15 (nI z16) z17 z18 z19))]) [0] (by decide) rfl
                  have hKc := hK.sub (tys' := []) [] rfl
                  have hFc := va_free (wc := [(za, (b13_0 0 z1 (nI z2) (nI z3) z4 z5 z6 z7 z8 z9 (nI z10) z11 z12 z13 z14 z15 (nI z16) z17 z18 z19))]) hD hS hA [0] rfl
                  refine va_calli (va_runV (As := [.int 5, .int (nI v5w39)]) (rest := []) ⟨hx, hb, hml, hown, hg⟩ (m_refusedAt l D H_380.size za 0 z1 (nI z2) (nI z3) z4 z5 z6 z7 z8 z9 (nI z10) z11 z12 z13 z14 z15 (nI z16) z17 z18 z19 5 (nI v5w39)) (cwV 2 hg (gV wd_882 wd_883 wd_884 wd_717 wd_885) rfl rfl rfl (by decide +kernel) ⟨(Nat.le_trans (Nat.le_of_ble_eq_true rfl) hRf), (Nat.le_trans (Nat.le_of_ble_eq_true rfl) hRl)⟩) ⟨Pr.blind, va_recv hK hP (ci := 13) (q0 := 0) rfl rfl, fun U hU hW => ⟨rfl, Pr.at hPc hKc hDc hN hU hW⟩⟩ rfl rfl hl.1 rfl (lv_room (Nat.le_of_ble_eq_true rfl)) dX13_close_98 ⟨(Nat.le_trans (Nat.le_of_ble_eq_true rfl) hRc), (Nat.le_trans (Nat.le_of_ble_eq_true rfl) hRs)⟩) hS (fun q _ h => hFc q h) hFc (fun r_388 M_389 t H_387 locs ht hvm hw hB hz1 hk1 hS => ?_)
                  have hp_390 := hw
                  obtain ⟨hP1, hK1, hD1⟩ := hB
                  rw [ht] at hP1
                  obtain ⟨hP, hD⟩ := va_joinQ (X := [(za, (b13_0 0 z1 (nI z2) (nI z3) z4 z5 z6 z7 z8 z9 (nI z10) z11 z12 z13 z14 z15 (nI z16) z17 z18 z19))]) (cx := [(za, (b13_0 0 z1 (nI z2) (nI z3) z4 z5 z6 z7 z8 z9 (nI z10) z11 z12 z13 z14 z15 (nI z16) z17 z18 z19))]) (wr := []) (w1 := [(za, (b13_0 0 z1 (nI z2) (nI z3) 5 (nI v5w39) z6 z7 z8 z9 (nI z10) z11 z12 z13 z14 z15 (nI z16) z17 z18 z19))]) (pl := va_pl L M_43) hP hD [0] [] rfl rfl (by decide) (by decide) hk1 hFc hP1 hD1
                  have hP : va_P D vwCl ([(za, (b13_0 0 z1 (nI z2) (nI z3) 5 (nI v5w39) z6 z7 z8 z9 (nI z10) z11 z12 z13 z14 z15 (nI z16) z17 z18 z19))] ++ va_pl L M_43) H_387 := hP
                  have hD : va_D A ([(za, (b13_0 0 z1 (nI z2) (nI z3) 5 (nI v5w39) z6 z7 z8 z9 (nI z10) z11 z12 z13 z14 z15 (nI z16) z17 z18 z19))] ++ va_pl L M_43) := hD
                  have hq := Eq.symm hp_390
                  subst hq
                  have hI_391 : (0 : Int) ≤ (k1 : Int32).toInt := inltI rfl rfl c_7
                  have hI_392 : (k1 : Int32).toInt < ((z2 : Nat) : Int) := inleI (nI_toInt (by omega)) rfl c_8
                  have hI_393 : ((v21 : Nat) : Int) ≠ ((v20 : Nat) : Int) := ineI (nI_toInt (by omega)) (nI_toInt (by omega)) c_24
                  have hI_394 : ((v19 : Nat) : Int) ≠ (0 : Int) := ineI (nI_toInt (by omega)) rfl c_26
                  have hI_395 : ((v5w39 : Nat) : Int) ≤ ((c_33 : Nat) : Int) := inltI (nI_toInt (by omega)) (nI_toInt (by omega)) c_46
                  have hop5 : ¬ (∀ d : Nat, SX (k1 : Int32).toNatClampNeg 1 < (d : Int) → (d : Int) ≤ enD (SX (k1 : Int32).toNatClampNeg) (SY (k1 : Int32).toNatClampNeg) → ¬ opD (SY (k1 : Int32).toNatClampNeg) d) := fun w9 => w9 v5w39 (by omega) (by rw [hEd]; omega) hop9
                  have hno : ¬ okCl z2 PK PT SX SY k1 := fun q9 => by unfold okCl okH at q9; first | omega | (obtain ⟨⟨_, _⟩, _, _, _, _⟩ := q9; first | omega | contradiction)
                  have hA9 : HA (ax M b13 2) (ax M b13 3) := hAT.1
                  have hB9 : HB (fx M b13 16) (fx M b13 14) (ax M b13 3) (ax M b13 43) := hAT.2.1
                  have hC9 : HC (fx M b13 10) (ax M b13 22) (ax M b13 23) := hAT.2.2.1
                  have hD9 : HD (fx M b13 0) (fx M b13 11) (fx M b13 15) (ax M b13 34) (ax M b13 41) := hAT.2.2.2.1
                  have hE9 : HE (fx M b13 0) (fx M b13 1) (fx M b13 12) (fx M b13 13) (ax M b13 37) := hAT.2.2.2.2
                  have hH9 : HI (fx M b13) (ax M b13) := ⟨hA9, hB9, hC9, hD9, hE9⟩
                  have hGI9 : GI K L z1 z2 M_43 := GI.fin hW0 i1 b2 hGI hact hV (hF.at i1 (by decide)) hH9
                  rw [hQ]
                  exact W.iret (v := (-1)) hx hb hr (fun t ht hW9 => ⟨⟨(-1), M_43, rfl, ⟨hW, hF, hG, ⟨hGI9, fun _ => 0, fun _ _ => 0, fun w9 => absurd w9 hno, (by unfold sxCl syCl; rw [if_neg hno, if_neg hno]; have hQ9 := ZSx.fin hW0 i1 b2 hZS hGI.1 hkn hb9 hV (hF.at i1 (by decide)) hZk.1 hZk.2; rw [va_upJ, va_upJ] at hQ9; exact hQ9)⟩, (by unfold anCl; rw [if_neg hno])⟩, ⟨5, (nI v5w39), z16, (by omega), (WHR.op ⟨⟨by omega, by omega⟩, by omega, by omega⟩ ⟨by omega, by rw [hEd]; omega, hop9, fun d h1 h2 => hx_41 d h1 h2⟩), by rw [ht]; exact hP, hD⟩⟩, hS.F ht⟩) hS.2.2 dX13_close_101
                · have hz := rfl (a := 0)
                  have hno9 : ¬ opD (SY (k1 : Int32).toNatClampNeg) v5w39 := by have h9 := c_385; rw [hV.2.2.1, hZk.2] at h9; exact h9
                  refine lv_if_eq (tgt := 102) hx hb dX13_close_91 (by decide) (fun _ => ?_) (fun c_396 => absurd c_396 (by decide))
                  refine lv_iinc (v := (nI (v5w39 + 1))) (lv' := [(5, .int (nI (v5w39 + 1))), (4, .int (nI c_33)), (3, .int 0), (2, .ref b13), (0, .ref za), (1, .int k1)]) hx hb dX13_close_102 hl (k := 0) rfl (nI_1 v5w39) (by decide) rfl (fun ls hl => ?_)
                  refine lv_goto (tgt := 78) hx hb dX13_close_105 (by decide) ?_
                  exact ih_37 (v5w39 + 1) M_43 H_380 _ _ (by omega) hM_45 (by omega) (fun d h1 h2 => by by_cases z9 : ¬ d = v5w39; exact hx_41 d h1 (by omega); rw [Classical.not_not.mp z9]; exact hno9) (by omega) hW hF hG hV hP hD hS (lv_sub hl [0, 1, 2, 3, 4, 5] rfl)
          exact key_36 (1001 - 0 + 1) 0 M H_2 _ _ (by omega) hM16 (by omega) (fun d h1 h2 => by omega) (by omega) hW hF hG hV hP hD hS (lv_sub hl [0, 1, 2, 3, 4, 5] rfl)
        · have hz := rfl (a := 0)
          refine lv_iconst (v := 1) hx hb dX13_close_61 (by decide) ?_
          refine lv_iadd hx hb dX13_close_62 ?_
          refine lv_topi (fun f_397 ef_397 => ?_)
          obtain rfl : f_397 = (nI (c_28 + 1)) := ef_397.trans (nI_add c_28 1)
          refine lv_istore_n (lv' := [(3, .int (nI (c_28 + 1))), (2, .ref b13), (0, .ref za), (1, .int k1)]) hx hb dX13_close_63 rfl hl (by decide) rfl (fun ls hl => ?_)
          have hlt13 : v21 < v20 := by have h := hAT.2.2.2.2.1; omega
          refine lv_aload_n hx hb dX13_close_64 rfl (lv_at hl 1 rfl) ?_
          refine pg_getN (D := D) (ci := 12) (v := .ref v22) (C := RX12) (T := TX12) (N := 51) hx hb hg inG12 hown hK hP hb_15.1 hM16 rfl 37 (by decide) (hN.use (Cond.fieldLinkNest RX13 236 RX12 "end" "[I" RX13) 46 rfl rfl) (fun _ h9 => h9) hv22 dX13_close_65 ?_
          refine lv_aload_n hx hb dX13_close_68 rfl (lv_at hl 1 rfl) ?_
          refine pg_getN (D := D) (ci := 12) (v := .int (nI v21)) (C := RX12) (T := TX12) (N := 51) hx hb hg inG12 hown hK hP hb_15.1 hM16 rfl 13 (by decide) (hN.use (Cond.fieldLinkNest RX13 244 RX12 "closed" "I" RX13) 22 rfl rfl) (fun _ h9 => h9) hv21 dX13_close_69 ?_
          have hi_398 : vp_in (nI v21) 12 := (inbN v21 12 (by omega) (by omega))
          refine pg_iald hx hb hK hP hc22.1 0 hM23 rfl hi_398 dX13_close_72 ?_
          have hp_399 := hf23 _ (vp_lt hi_398)
          obtain ⟨c_400, hc_401, ec_402⟩ := hp_399
          rw [ec_402]
          refine lv_istore (lv' := [(4, .int (nI c_400)), (3, .int (nI (c_28 + 1))), (2, .ref b13), (0, .ref za), (1, .int k1)]) hx hb dX13_close_73 hl (by decide) rfl (fun ls hl => ?_)
          have hx1b : fx M b13 1 = (((c_28 + 1) : Nat) : Int) - 1 := by rw [hx1]; first | decide | (rw [nI_toInt (by omega)]; omega)
          obtain ⟨hq1, hq2, hq3, hq4⟩ := heC hAT.2.2.2.2 hb13 hb12 (by omega) (by omega) hb37 (nI_cl (by omega)) ec_402 (by omega)
          have h11 : 1 ≤ fx M b13 11 := by omega
          have hT37 : (ax M b13 37 v21).toInt = ((c_400 : Nat) : Int) := by
            have h := ec_402
            rw [nI_cl (by omega)] at h
            rw [hb37, h, nI_toInt (by omega)]
          have hEd : enD (SX (k1 : Int32).toNatClampNeg) (SY (k1 : Int32).toNatClampNeg) = ((c_400 : Nat) : Int) := by unfold enD; rw [← hZk.2, show (SX (k1 : Int32).toNatClampNeg 13).toNat = v21 by omega]; exact hT37
          refine lv_iload_n hx hb dX13_close_75 rfl (lv_at hl 1 rfl) ?_
          refine lv_istore (lv' := [(5, .int (nI (c_28 + 1))), (4, .int (nI c_400)), (3, .int (nI (c_28 + 1))), (2, .ref b13), (0, .ref za), (1, .int k1)]) hx hb dX13_close_76 hl (by decide) rfl (fun ls hl => ?_)
          have key_403 : ∀ (fu_405 : Nat) (v5w406 : Nat) (M_410 : Hp) (H_411 : Heap) (locs : List Loc) (ls : Array Slot), 1001 - v5w406 < fu_405 → M_410 b13 = .inr (12, fs16) → v5w406 ≤ 1000 → (∀ d : Nat, SX (k1 : Int32).toNatClampNeg 1 < (d : Int) → d < v5w406 → ¬ opD (SY (k1 : Int32).toNatClampNeg) d) → SX (k1 : Int32).toNatClampNeg 1 < ((v5w406 : Nat) : Int) → WOM cy K L M_410 → fr K L [12, 14, 15, 32, 42, 45, 46, 79, 80, 81, 83, 86, 87, 88, 89, 90, 91, 92, 93, 94, 95, 96, 97, 98, 99] M M_410 → fG K L [1, 7, 8, 13, 14, 15, 16, 17, 18] M M_410 → VW K L M M_410 b13 (fx M b13) (ax M b13) → va_P D vwCl ([(za, (b13_0 0 z1 (nI z2) (nI z3) z4 z5 z6 z7 z8 z9 (nI z10) z11 z12 z13 z14 z15 (nI z16) z17 z18 z19))] ++ va_pl L M_410) H_411 → va_D A ([(za, (b13_0 0 z1 (nI z2) (nI z3) z4 z5 z6 z7 z8 z9 (nI z10) z11 z12 z13 z14 z15 (nI z16) z17 z18 z19))] ++ va_pl L M_410) → va_S A s.heap H_411 locs → lv_has ls 8 [(5, .int (nI v5w406)), (4, .int (nI c_400)), (3, .int (nI (c_28 + 1))), (2, .ref b13), (0, .ref za), (1, .int k1)] → W p l e R s m ([.ref za, .int k1] : List Value).toArray below meth c H_411 locs 0 0 Q (F0 m 78 ls []) := by
            intro fu_405
            induction fu_405 with
            | zero => intro v5w406 M_410 H_411 locs ls h; exact absurd h (Nat.not_lt_zero _)
            | succ fu_405 ih_404 =>
              intro v5w406 M_410 H_411 locs ls hfu hM_412 hx_407 hx_408 hx_409 hW hF hG hV hP hD hS hl
              refine lv_iload hx hb dX13_close_78 (lv_at hl 0 rfl) ?_
              refine lv_iload hx hb dX13_close_80 (lv_at hl 1 rfl) ?_
              refine lv_icmp_gt (tgt := 108) hx hb dX13_close_82 (by decide) (fun c_413 => ?_) (fun c_413 => ?_)
              · have hz := rfl (a := 0)
                have n_414 : c_400 < v5w406 := (iLT (a := c_400) (b := v5w406) (by omega) (by omega)).mp c_413
                have hall := hx_408
                have hv5 : c_400 < v5w406 := by omega
                have hI_415 : (0 : Int) ≤ (k1 : Int32).toInt := inltI rfl rfl c_7
                have hI_416 : (k1 : Int32).toInt < ((z2 : Nat) : Int) := inleI (nI_toInt (by omega)) rfl c_8
                have hI_417 : ((v21 : Nat) : Int) ≠ ((v20 : Nat) : Int) := ineI (nI_toInt (by omega)) (nI_toInt (by omega)) c_24
                have hI_418 : ((v19 : Nat) : Int) ≠ (0 : Int) := ineI (nI_toInt (by omega)) rfl c_26
                have hI_419 : ((c_400 : Nat) : Int) < ((v5w406 : Nat) : Int) := iltI (nI_toInt (by omega)) (nI_toInt (by omega)) c_413
                have hZSw := ZSx.fin hW0 i1 b2 hZS hGI.1 hkn hb9 hV (hF.at i1 (by decide)) hZk.1 hZk.2
                rw [va_upJ, va_upJ] at hZSw
                have hZPw := ZP.mv hZP i6 i7 hF (by decide) (by decide)
                refine lv_aload_n hx hb dX13_close_108 rfl (lv_at hl 4 rfl) ?_
                refine lv_iload_n hx hb dX13_close_109 rfl (lv_at hl 5 rfl) ?_
                refine lv_iload hx hb dX13_close_110 (lv_at hl 1 rfl) ?_
                have hPc : va_P D vwCl ([(za, (b13_0 0 z1 (nI z2) (nI z3) z4 z5 z6 z7 z8 z9 (nI z10) z11 z12 z13 z14 z15 (nI z16) z17 z18 z19))] ++ va_pl L M_410) H_411 := hP
                have hDc : va_D A ([(za, (b13_0 0 z1 (nI z2) (nI z3) z4 z5 z6 z7 z8 z9 (nI z10) z11 z12 z13 z14 z15 (nI z16) z17 z18 z19))] ++ va_pl L M_410) := hD
                have hFc : ∀ q, va_A ([(za, (b13_0 0 z1 (nI z2) (nI z3) z4 z5 z6 z7 z8 z9 (nI z10) z11 z12 z13 z14 z15 (nI z16) z17 z18 z19))] ++ va_pl L M_410) H_411.size q → A q := pg_free hDc hS hA
                refine va_calli (va_runV (As := [.int k1, .int (nI c_400)]) (rest := []) ⟨hx, hb, hml, hown, hg⟩ (z_behind l D cy K L M_410 H_411.size za 0 z1 z2 z3 z4 z5 z6 z7 z8 z9 z10 z11 z12 z13 z14 z15 z16 z17 z18 z19 k1 (nI c_400) SX SY PK PT  hW i1 b2 b3 i6 i7 i8 i9 b10 i11 i12 i13 i14 i15 b16 i17 i19 hZSw hZPw (by omega)) (cwV 2 hg (gV wd_853 wd_854 wd_855 wd_717 wd_856) rfl rfl rfl (by decide +kernel) ⟨(Nat.le_trans (Nat.le_of_ble_eq_true rfl) hRf), (Nat.le_trans (Nat.le_of_ble_eq_true rfl) hRl)⟩) ⟨PG.blind, va_recv hK hP (ci := 13) (q0 := 0) rfl rfl, fun U hU hW => ⟨rfl, PG.at hPc hK hDc hN hU hW⟩⟩ rfl rfl hl.1 rfl (lv_room (Nat.le_of_ble_eq_true rfl)) dX13_close_112 ⟨(Nat.le_trans (Nat.le_of_ble_eq_true rfl) hRc), (Nat.le_trans (Nat.le_of_ble_eq_true rfl) hRs)⟩) hS (fun q _ h => hFc q h) hFc (fun r_421 M_422 t H_420 locs ht hvm hw hB hz1 hk1 hS => ?_)
                have hp_423 := hw
                obtain ⟨hP1, hD1⟩ := hB
                rw [ht] at hP1
                have hP : va_P D vwCl ([(za, (b13_0 0 z1 (nI z2) (nI z3) z4 z5 z6 z7 z8 z9 (nI z10) z11 z12 z13 z14 z15 (nI z16) z17 z18 z19))] ++ va_pl L M_410) H_420 := hP1
                have hD : va_D A ([(za, (b13_0 0 z1 (nI z2) (nI z3) z4 z5 z6 z7 z8 z9 (nI z10) z11 z12 z13 z14 z15 (nI z16) z17 z18 z19))] ++ va_pl L M_410) := hD1.mono hFc
                rcases hp_423 with ⟨rfl, c_424⟩ | ⟨j_425, rfl, c_426, c_427, c_428, c_429⟩
                · have hz := rfl (a := 0)
                  refine lv_istore (lv' := [(5, .int (-1)), (4, .int (nI c_400)), (3, .int (nI (c_28 + 1))), (2, .ref b13), (0, .ref za), (1, .int k1)]) hx hb dX13_close_115 hl (by decide) rfl (fun ls hl => ?_)
                  refine lv_iload hx hb dX13_close_117 (lv_at hl 0 rfl) ?_
                  refine lv_iconst (v := (-1)) hx hb dX13_close_119 (by decide) ?_
                  refine lv_icmp_eq (tgt := 132) hx hb dX13_close_120 (by decide) (fun _ => ?_) (fun c_430 => absurd c_430 (by decide))
                  refine lv_aload_n hx hb dX13_close_132 rfl (lv_at hl 3 rfl) ?_
                  refine lv_iconst (v := 0) hx hb dX13_close_133 (by decide) ?_
                  refine pg_putN (D := D) (ci := 12) (v := .int 0) (ty := .int) (C := RX12) (T := TX12) (N := 51) hx hb hg inG12 tyX12 tyX12_ok nmX12 hown hK hP hD hS hb_15.1 hM_412 rfl 17 (by decide) (hN.use (Cond.fieldLinkNest RX13 256 RX12 "stretches" "I" RX13) 26 rfl rfl) (fun _ h9 => h9) rfl (by decide +kernel) rfl rfl (by rw [hn16]; decide) dX13_close_134 (fun H_431 locs hP hD hS => ?_)
                  have hs_434 : (fs16.set 17 (.int 0))[17]? = some (.int (nI 0)) := List.getElem?_set_self (by rw [hn16]; decide)
                  have hk_433 := fld12_set (k := 17) (w := .int 0) hl16 (show fld12 K L 17 (fs16.set 17 (.int 0)) from ⟨0, hs_434, by omega⟩)
                  have hn_435 : (fs16.set 17 (.int 0)).length = 51 := by rw [List.length_set]; exact hn16
                  have hv_436 : (fs16.set 17 (.int 0))[0]? = some (.int (nI v17)) := by rw [List.getElem?_set_ne (by decide)]; exact hv17
                  have hv_437 : (fs16.set 17 (.int 0))[1]? = some (.int (nI c_28)) := by rw [List.getElem?_set_ne (by decide)]; exact hv18
                  have hv_438 : (fs16.set 17 (.int 0))[11]? = some (.int (nI v19)) := by rw [List.getElem?_set_ne (by decide)]; exact hv19
                  have hv_439 : (fs16.set 17 (.int 0))[12]? = some (.int (nI v20)) := by rw [List.getElem?_set_ne (by decide)]; exact hv20
                  have hv_440 : (fs16.set 17 (.int 0))[13]? = some (.int (nI v21)) := by rw [List.getElem?_set_ne (by decide)]; exact hv21
                  have hv_441 : (fs16.set 17 (.int 0))[37]? = some (.ref v22) := by rw [List.getElem?_set_ne (by decide)]; exact hv22
                  have hb_442 : 0 ≤ 120 := by omega
                  obtain ⟨M_443, eM_443⟩ : ∃ M1 : Hp, M1 = va_up M_410 b13 (.inr (12, fs16.set 17 (.int 0))) := ⟨_, rfl⟩
                  have hV : VW K L M M_443 b13 (va_up (fx M b13) 17 (0 : Int)) (ax M b13) := by rw [eM_443]; exact hV.put hW hb_15 hM_412 hn16 rfl (by decide) rfl (by decide)
                  have hP : va_P D vwCl ([(za, (b13_0 0 z1 (nI z2) (nI z3) z4 z5 z6 z7 z8 z9 (nI z10) z11 z12 z13 z14 z15 (nI z16) z17 z18 z19))] ++ va_pl L M_443) H_431 := by rw [eM_443]; exact hP
                  have hD : va_D A ([(za, (b13_0 0 z1 (nI z2) (nI z3) z4 z5 z6 z7 z8 z9 (nI z10) z11 z12 z13 z14 z15 (nI z16) z17 z18 z19))] ++ va_pl L M_443) := by rw [eM_443]; exact hD
                  have hW : WOM cy K L M_443 := by rw [eM_443]; exact hW.up_12 hb_15 ⟨_, rfl, hn_435, hk_433⟩
                  have hF : fr K L [12, 14, 15, 32, 42, 45, 46, 79, 80, 81, 83, 86, 87, 88, 89, 90, 91, 92, 93, 94, 95, 96, 97, 98, 99] M M_443 := by rw [eM_443]; exact hF.up hb_15 (by decide)
                  have hG : fG K L [1, 7, 8, 13, 14, 15, 16, 17, 18] M M_443 := by rw [eM_443]; exact hG.up hM_412 (by decide)
                  have hM_444 : M_443 b13 = .inr (12, fs16.set 17 (.int 0)) := by rw [eM_443]; exact va_up_self _ _ _
                  refine lv_iconst (v := 0) hx hb dX13_close_137 (by decide) ?_
                  refine lv_istore (lv' := [(6, .int 0), (5, .int (-1)), (4, .int (nI c_400)), (3, .int (nI (c_28 + 1))), (2, .ref b13), (0, .ref za), (1, .int k1)]) hx hb dX13_close_138 hl (by decide) rfl (fun ls hl => ?_)
                  have key_445 : ∀ (fu_447 : Nat) (v6w448 : Nat) (M_450 : Hp) (H_451 : Heap) (locs : List Loc) (ls : Array Slot), 24 - v6w448 < fu_447 → M_450 b13 = .inr (12, fs16.set 17 (.int 0)) → v6w448 ≤ 24 → WOM cy K L M_450 → fr K L [12, 14, 15, 32, 42, 45, 46, 79, 80, 81, 83, 86, 87, 88, 89, 90, 91, 92, 93, 94, 95, 96, 97, 98, 99] M M_450 → fG K L [1, 7, 8, 13, 14, 15, 16, 17, 18] M M_450 → VW K L M M_450 b13 (va_up (fx M b13) 17 (0 : Int)) (ax M b13) → va_P D vwCl ([(za, (b13_0 0 z1 (nI z2) (nI z3) z4 z5 z6 z7 z8 z9 (nI z10) z11 z12 z13 z14 z15 (nI z16) z17 z18 z19))] ++ va_pl L M_450) H_451 → va_D A ([(za, (b13_0 0 z1 (nI z2) (nI z3) z4 z5 z6 z7 z8 z9 (nI z10) z11 z12 z13 z14 z15 (nI z16) z17 z18 z19))] ++ va_pl L M_450) → va_S A s.heap H_451 locs → lv_has ls 8 [(6, .int (nI v6w448)), (5, .int (-1)), (4, .int (nI c_400)), (3, .int (nI (c_28 + 1))), (2, .ref b13), (0, .ref za), (1, .int k1)] → W p l e R s m ([.ref za, .int k1] : List Value).toArray below meth c H_451 locs 0 0 Q (F0 m 140 ls []) := by
                    intro fu_447
                    induction fu_447 with
                    | zero => intro v6w448 M_450 H_451 locs ls h; exact absurd h (Nat.not_lt_zero _)
                    | succ fu_447 ih_446 =>
                      intro v6w448 M_450 H_451 locs ls hfu hM_452 hx_449 hW hF hG hV hP hD hS hl
                      refine lv_iload hx hb dX13_close_140 (lv_at hl 0 rfl) ?_
                      refine lv_bipush (v := 24) hx hb dX13_close_142 (by decide) ?_
                      refine lv_icmp_ge (tgt := 161) hx hb dX13_close_144 (by decide) (fun c_453 => ?_) (fun c_453 => ?_)
                      · have hz := rfl (a := 0)
                        have n_454 : 24 ≤ v6w448 := (iLE (a := 24) (b := v6w448) (by omega) (by omega)).mp c_453
                        refine lv_iload_n hx hb dX13_close_161 rfl (lv_at hl 3 rfl) ?_
                        refine lv_istore (lv' := [(6, .int (nI (c_28 + 1))), (5, .int (-1)), (4, .int (nI c_400)), (3, .int (nI (c_28 + 1))), (2, .ref b13), (0, .ref za), (1, .int k1)]) hx hb dX13_close_162 hl (by decide) rfl (fun ls hl => ?_)
                        have key_455 : ∀ (fu_457 : Nat) (v6w458 : Nat) (gnw458 : Nat) (gpw458 : Nat → Int32) (gqw458 : Nat → Int32) (M_462 : Hp) (H_463 : Heap) (locs : List Loc) (ls : Array Slot), 1001 - v6w458 < fu_457 → v6w458 ≤ c_400 + 1 → gnw458 = nst (prt (SX (k1 : Int32).toNatClampNeg) (SY (k1 : Int32).toNatClampNeg)) (SX (k1 : Int32).toNatClampNeg 1 + 1) (v6w458 - (c_28 + 1)) → SD (c_28 + 1) gnw458 v6w458 gpw458 gqw458 → WOM cy K L M_462 → fr K L [12, 14, 15, 32, 42, 45, 46, 79, 80, 81, 83, 86, 87, 88, 89, 90, 91, 92, 93, 94, 95, 96, 97, 98, 99] M M_462 → fG K L [1, 7, 8, 13, 14, 15, 16, 17, 18] M M_462 → VW K L M M_462 b13 (va_up (fx M b13) 17 ((gnw458 : Nat) : Int)) (va_up (va_up (ax M b13) 44 gpw458) 45 gqw458) → va_P D vwCl ([(za, (b13_0 0 z1 (nI z2) (nI z3) z4 z5 z6 z7 z8 z9 (nI z10) z11 z12 z13 z14 z15 (nI z16) z17 z18 z19))] ++ va_pl L M_462) H_463 → va_D A ([(za, (b13_0 0 z1 (nI z2) (nI z3) z4 z5 z6 z7 z8 z9 (nI z10) z11 z12 z13 z14 z15 (nI z16) z17 z18 z19))] ++ va_pl L M_462) → va_S A s.heap H_463 locs → lv_has ls 8 [(6, .int (nI v6w458)), (5, .int (-1)), (4, .int (nI c_400)), (3, .int (nI (c_28 + 1))), (2, .ref b13), (0, .ref za), (1, .int k1)] → W p l e R s m ([.ref za, .int k1] : List Value).toArray below meth c H_463 locs 0 0 Q (F0 m 164 ls []) := by
                          intro fu_457
                          induction fu_457 with
                          | zero => intro v6w458 gnw458 gpw458 gqw458 M_462 H_463 locs ls h; exact absurd h (Nat.not_lt_zero _)
                          | succ fu_457 ih_456 =>
                            intro v6w458 gnw458 gpw458 gqw458 M_462 H_463 locs ls hfu hx_459 hx_460 hx_461 hW hF hG hV hP hD hS hl
                            refine lv_iload hx hb dX13_close_164 (lv_at hl 0 rfl) ?_
                            refine lv_iload hx hb dX13_close_166 (lv_at hl 2 rfl) ?_
                            refine lv_icmp_gt (tgt := 238) hx hb dX13_close_168 (by decide) (fun c_464 => ?_) (fun c_464 => ?_)
                            · have hz := rfl (a := 0)
                              have n_465 : c_400 < v6w458 := (iLT (a := c_400) (b := v6w458) (by omega) (by omega)).mp c_464
                              obtain ⟨fs466, hM466, hn466, hl466⟩ := hW.open_12 hb_15
                              obtain ⟨v467, hv467, hc467⟩ : ∃ v : Nat, fs466[17]? = some (.int (nI v) : Value) ∧ v ≤ 120 := hl466 17 (by decide)
                              have hx17 : ((gnw458 : Nat) : Int) = ((v467 : Nat) : Int) := (congrFun hV.2.1 17).symm.trans ((fx_of hM466 rfl hv467).trans (nI_toInt (by omega)))
                              have hSD := hx_461
                              obtain ⟨hs1, hs2, hs3, hs4⟩ := hx_461
                              have hNn : 1 ≤ gnw458 ∧ 1 ≤ (gqw458 0).toInt := by rcases hs3 with q | q <;> first | exact q | omega
                              have hN1 := hNn.1
                              have hs45 := hNn.2
                              have hcnt : gnw458 = nst (prt (SX (k1 : Int32).toNatClampNeg) (SY (k1 : Int32).toNatClampNeg)) (SX (k1 : Int32).toNatClampNeg 1 + 1) (((c_400 : Nat) : Int) - SX (k1 : Int32).toNatClampNeg 1).toNat := hx_460.trans (congrArg _ (by omega))
                              refine lv_aload_n hx hb dX13_close_238 rfl (lv_at hl 4 rfl) ?_
                              refine pg_getN (D := D) (ci := 12) (v := .int (nI v467)) (C := RX12) (T := TX12) (N := 51) hx hb hg inG12 hown hK hP hb_15.1 hM466 rfl 17 (by decide) (hN.use (Cond.fieldLinkNest RX13 256 RX12 "stretches" "I" RX13) 26 rfl rfl) (fun _ h9 => h9) hv467 dX13_close_239 ?_
                              refine lv_istore (lv' := [(6, .int (nI v467)), (5, .int (-1)), (4, .int (nI c_400)), (3, .int (nI (c_28 + 1))), (2, .ref b13), (0, .ref za), (1, .int k1)]) hx hb dX13_close_242 hl (by decide) rfl (fun ls hl => ?_)
                              refine lv_aload_n hx hb dX13_close_244 rfl (lv_at hl 5 rfl) ?_
                              refine lv_aload_n hx hb dX13_close_245 rfl (lv_at hl 4 rfl) ?_
                              refine lv_iload hx hb dX13_close_246 (lv_at hl 0 rfl) ?_
                              have hPc : va_P D vwCl ([(za, (b13_0 0 z1 (nI z2) (nI z3) z4 z5 z6 z7 z8 z9 (nI z10) z11 z12 z13 z14 z15 (nI z16) z17 z18 z19))] ++ va_pl L M_462) H_463 := hP
                              have hDc : va_D A ([(za, (b13_0 0 z1 (nI z2) (nI z3) z4 z5 z6 z7 z8 z9 (nI z10) z11 z12 z13 z14 z15 (nI z16) z17 z18 z19))] ++ va_pl L M_462) := hD
                              have hFc : ∀ q, va_A ([(za, (b13_0 0 z1 (nI z2) (nI z3) z4 z5 z6 z7 z8 z9 (nI z10) z11 z12 z13 z14 z15 (nI z16) z17 z18 z19))] ++ va_pl L M_462) H_463.size q → A q := pg_free hDc hS hA
                              refine va_callv (va_runV (As := [.ref b13, .int (nI v467)]) (rest := []) ⟨hx, hb, hml, hown, hg⟩ (g_X13_looses l D cy K L M_462 H_463.size za 0 z1 z2 z3 z4 z5 z6 z7 z8 z9 z10 z11 z12 z13 z14 z15 z16 z17 z18 z19 b13 v467  hW i1 b2 b3 i6 i7 i8 i9 b10 i11 i12 i13 i14 i15 b16 i17 i19 hb_15 (by omega) hV.2.2.2 (by omega) (by rw [hV.2.2.1]; exact hs45)) (cwV 2 hg (gV wd_857 wd_858 wd_859 wd_717 wd_860) rfl rfl rfl (by decide +kernel) ⟨(Nat.le_trans (Nat.le_of_ble_eq_true rfl) hRf), (Nat.le_trans (Nat.le_of_ble_eq_true rfl) hRl)⟩) ⟨PG.blind, va_recv hK hP (ci := 13) (q0 := 0) rfl rfl, fun U hU hW => ⟨rfl, PG.at hPc hK hDc hN hU hW⟩⟩ rfl rfl hl.1 rfl (lv_room (Nat.le_of_ble_eq_true rfl)) dX13_close_248 ⟨(Nat.le_trans (Nat.le_of_ble_eq_true rfl) hRc), (Nat.le_trans (Nat.le_of_ble_eq_true rfl) hRs)⟩) hS (fun q _ h => hFc q h) hFc (fun M_470 t H_468 locs ht hvm hw hB hz1 hk1 hS => ?_)
                              have hWb := hW
                              obtain ⟨hW, hF2, hG2, hp_471⟩ := hw
                              obtain ⟨hP1, hD1⟩ := hB
                              rw [ht] at hP1
                              have hP : va_P D vwCl ([(za, (b13_0 0 z1 (nI z2) (nI z3) z4 z5 z6 z7 z8 z9 (nI z10) z11 z12 z13 z14 z15 (nI z16) z17 z18 z19))] ++ va_pl L M_470) H_468 := hP1
                              have hD : va_D A ([(za, (b13_0 0 z1 (nI z2) (nI z3) z4 z5 z6 z7 z8 z9 (nI z10) z11 z12 z13 z14 z15 (nI z16) z17 z18 z19))] ++ va_pl L M_470) := hD1.mono hFc
                              have hM_472 : M_470 b13 = .inr (12, fs466) := (hF2.at hb_15 (by decide)).trans hM466
                              have hF : fr K L [12, 14, 15, 32, 42, 45, 46, 79, 80, 81, 83, 86, 87, 88, 89, 90, 91, 92, 93, 94, 95, 96, 97, 98, 99] M M_470 := hF.tr hF2 (by decide)
                              have hG : fG K L [1, 7, 8, 13, 14, 15, 16, 17, 18] M M_470 := hG.tr hWb hG2 (by decide)
                              have hV : VW K L M M_470 b13 (va_up (fx M b13) 17 ((gnw458 : Nat) : Int)) (va_up (va_up (ax M b13) 44 gpw458) 45 gqw458) := hV.cal hWb hW hF2 hG2 (by decide) (by decide) hb_15
                              refine lv_iconst (v := 0) hx hb dX13_close_251 (by decide) ?_
                              refine lv_istore (lv' := [(7, .int 0), (6, .int (nI v467)), (5, .int (-1)), (4, .int (nI c_400)), (3, .int (nI (c_28 + 1))), (2, .ref b13), (0, .ref za), (1, .int k1)]) hx hb dX13_close_252 hl (by decide) rfl (fun ls hl => ?_)
                              have key_473 : ∀ (fu_475 : Nat) (v7w476 : Nat) (zgw476 : Nat) (M_479 : Hp) (H_480 : Heap) (locs : List Loc) (ls : Array Slot), 1001 - v7w476 < fu_475 → v7w476 ≤ v467 → zgw476 ≤ 24 → WOM cy K L M_479 → fr K L [12, 14, 15, 32, 42, 45, 46, 79, 80, 81, 83, 86, 87, 88, 89, 90, 91, 92, 93, 94, 95, 96, 97, 98, 99] M M_479 → fG K L [1, 7, 8, 13, 14, 15, 16, 17, 18] M M_479 → VW K L M M_479 b13 (va_up (fx M b13) 17 ((gnw458 : Nat) : Int)) (va_up (va_up (ax M b13) 44 gpw458) 45 gqw458) → va_P D vwCl ([(za, (b13_0 0 z1 (nI z2) (nI z3) z4 z5 z6 z7 z8 z9 (nI z10) z11 z12 z13 z14 z15 (nI zgw476) z17 z18 z19))] ++ va_pl L M_479) H_480 → va_D A ([(za, (b13_0 0 z1 (nI z2) (nI z3) z4 z5 z6 z7 z8 z9 (nI z10) z11 z12 z13 z14 z15 (nI zgw476) z17 z18 z19))] ++ va_pl L M_479) → va_S A s.heap H_480 locs → lv_has ls 8 [(7, .int (nI v7w476)), (6, .int (nI v467)), (5, .int (-1)), (4, .int (nI c_400)), (3, .int (nI (c_28 + 1))), (2, .ref b13), (0, .ref za), (1, .int k1)] → W p l e R s m ([.ref za, .int k1] : List Value).toArray below meth c H_480 locs 0 0 Q (F0 m 254 ls []) := by
                                intro fu_475
                                induction fu_475 with
                                | zero => intro v7w476 zgw476 M_479 H_480 locs ls h; exact absurd h (Nat.not_lt_zero _)
                                | succ fu_475 ih_474 =>
                                  intro v7w476 zgw476 M_479 H_480 locs ls hfu hx_477 hx_478 hW hF hG hV hP hD hS hl
                                  refine lv_iload hx hb dX13_close_254 (lv_at hl 0 rfl) ?_
                                  refine lv_iload hx hb dX13_close_256 (lv_at hl 1 rfl) ?_
                                  refine lv_icmp_ge (tgt := 275) hx hb dX13_close_258 (by decide) (fun c_481 => ?_) (fun c_481 => ?_)
                                  · have hz := rfl (a := 0)
                                    have n_482 : v467 ≤ v7w476 := (iLE (a := v467) (b := v7w476) (by omega) (by omega)).mp c_481
                                    obtain ⟨fs483, hM483, hn483, hl483⟩ := hW.open_12 hb_15
                                    obtain ⟨v484, hv484, hc484⟩ : ∃ v : Nat, fs483[15]? = some (.int (nI v) : Value) ∧ v ≤ 20 := hl483 15 (by decide)
                                    have hx15 : (fx M b13 15) = ((v484 : Nat) : Int) := (congrFun hV.2.1 15).symm.trans ((fx_of hM483 rfl hv484).trans (nI_toInt (by omega)))
                                    refine lv_iconst (v := 0) hx hb dX13_close_275 (by decide) ?_
                                    refine lv_istore (lv' := [(7, .int 0), (6, .int (nI v467)), (5, .int (-1)), (4, .int (nI c_400)), (3, .int (nI (c_28 + 1))), (2, .ref b13), (0, .ref za), (1, .int k1)]) hx hb dX13_close_276 hl (by decide) rfl (fun ls hl => ?_)
                                    have key_485 : ∀ (fu_487 : Nat) (v7w488 : Nat) (zgw488 : Nat) (gnw488 : Nat) (gpw488 : Nat → Int32) (gqw488 : Nat → Int32) (M_494 : Hp) (H_495 : Heap) (locs : List Loc) (ls : Array Slot), 24 - v7w488 < fu_487 → v7w488 ≤ 20 → zgw488 ≤ 24 → ((v7w488 : Nat) : Int) ≤ SX (k1 : Int32).toNatClampNeg 15 → gnw488 = gnw458 + v7w488 → gnw488 ≤ 100 + v7w488 → WOM cy K L M_494 → fr K L [12, 14, 15, 32, 42, 45, 46, 79, 80, 81, 83, 86, 87, 88, 89, 90, 91, 92, 93, 94, 95, 96, 97, 98, 99] M M_494 → fG K L [1, 7, 8, 13, 14, 15, 16, 17, 18] M M_494 → VW K L M M_494 b13 (va_up (fx M b13) 17 ((gnw488 : Nat) : Int)) (va_up (va_up (ax M b13) 44 gpw488) 45 gqw488) → va_P D vwCl ([(za, (b13_0 0 z1 (nI z2) (nI z3) z4 z5 z6 z7 z8 z9 (nI z10) z11 z12 z13 z14 z15 (nI zgw488) z17 z18 z19))] ++ va_pl L M_494) H_495 → va_D A ([(za, (b13_0 0 z1 (nI z2) (nI z3) z4 z5 z6 z7 z8 z9 (nI z10) z11 z12 z13 z14 z15 (nI zgw488) z17 z18 z19))] ++ va_pl L M_494) → va_S A s.heap H_495 locs → lv_has ls 8 [(7, .int (nI v7w488)), (6, .int (nI v467)), (5, .int (-1)), (4, .int (nI c_400)), (3, .int (nI (c_28 + 1))), (2, .ref b13), (0, .ref za), (1, .int k1)] → W p l e R s m ([.ref za, .int k1] : List Value).toArray below meth c H_495 locs 0 0 Q (F0 m 278 ls []) := by
                                      intro fu_487
                                      induction fu_487 with
                                      | zero => intro v7w488 zgw488 gnw488 gpw488 gqw488 M_494 H_495 locs ls h; exact absurd h (Nat.not_lt_zero _)
                                      | succ fu_487 ih_486 =>
                                        intro v7w488 zgw488 gnw488 gpw488 gqw488 M_494 H_495 locs ls hfu hx_489 hx_490 hx_491 hx_492 hx_493 hW hF hG hV hP hD hS hl
                                        refine lv_iload hx hb dX13_close_278 (lv_at hl 0 rfl) ?_
                                        refine lv_aload_n hx hb dX13_close_280 rfl (lv_at hl 5 rfl) ?_
                                        obtain ⟨fs496, hM496, hn496, hl496⟩ := hW.open_12 hb_15
                                        obtain ⟨v497, hv497, hc497⟩ : ∃ v : Nat, fs496[15]? = some (.int (nI v) : Value) ∧ v ≤ 20 := hl496 15 (by decide)
                                        refine pg_getN (D := D) (ci := 12) (v := .int (nI v497)) (C := RX12) (T := TX12) (N := 51) hx hb hg inG12 hown hK hP hb_15.1 hM496 rfl 15 (by decide) (hN.use (Cond.fieldLinkNest RX13 279 RX12 "mends" "I" RX13) 24 rfl rfl) (fun _ h9 => h9) hv497 dX13_close_281 ?_
                                        refine lv_icmp_ge (tgt := 300) hx hb dX13_close_284 (by decide) (fun c_498 => ?_) (fun c_498 => ?_)
                                        · have hz := rfl (a := 0)
                                          have n_499 : v497 ≤ v7w488 := (iLE (a := v497) (b := v7w488) (by omega) (by omega)).mp c_498
                                          have hx15 : (fx M b13 15) = ((v497 : Nat) : Int) := (congrFun hV.2.1 15).symm.trans ((fx_of hM496 rfl hv497).trans (nI_toInt (by omega)))
                                          refine lv_aload_n hx hb dX13_close_300 rfl (lv_at hl 5 rfl) ?_
                                          refine lv_iload_n hx hb dX13_close_301 rfl (lv_at hl 4 rfl) ?_
                                          refine lv_iload hx hb dX13_close_302 (lv_at hl 3 rfl) ?_
                                          have hPc : va_P D vwCl ([] ++ va_pl L M_494) H_495 := hP.part (cx := []) [] rfl
                                          have hDc : va_D A ([] ++ va_pl L M_494) := hD.part (cx := []) [] (by decide) rfl
                                          have hFc : ∀ q, va_A ([] ++ va_pl L M_494) H_495.size q → A q := pg_free hDc hS hA
                                          refine va_callv (va_runS (As := [.ref b13, .int (nI (c_28 + 1)), .int (nI c_400)]) (rest := []) ⟨hx, hb, hml, hown, hg⟩ (r_settled2 l D cy K L M_494 H_495.size b13 (nI (c_28 + 1)) (nI c_400)  hW hb_15 hV.2.2.2) (va_cwS 3 hg (gS wd_861 wd_862 wd_717 wd_863) rfl rfl rfl (by decide +kernel) ⟨(Nat.le_trans (Nat.le_of_ble_eq_true rfl) hRf), (Nat.le_trans (Nat.le_of_ble_eq_true rfl) hRl)⟩) ⟨PG.blind, fun U hU hW => ⟨rfl, PG.at hPc hK hDc hN hU hW⟩⟩ rfl rfl hl.1 rfl (lv_room (Nat.le_of_ble_eq_true rfl)) dX13_close_304 ⟨(Nat.le_trans (Nat.le_of_ble_eq_true rfl) hRc), (Nat.le_trans (Nat.le_of_ble_eq_true rfl) hRs)⟩) hS (fun q _ h => hFc q h) hFc (fun M_502 t H_500 locs ht hvm hw hB hz1 hk1 hS => ?_)
                                          have hWb := hW
                                          obtain ⟨hW, hF2, hG2, hVP, hp_503⟩ := hw
                                          obtain ⟨hP1, hD1⟩ := hB
                                          rw [ht] at hP1
                                          obtain ⟨hP, hD⟩ := va_joinP (X := [(za, (b13_0 0 z1 (nI z2) (nI z3) z4 z5 z6 z7 z8 z9 (nI z10) z11 z12 z13 z14 z15 (nI zgw488) z17 z18 z19))]) (cx := []) (wr := [(za, (b13_0 0 z1 (nI z2) (nI z3) z4 z5 z6 z7 z8 z9 (nI z10) z11 z12 z13 z14 z15 (nI zgw488) z17 z18 z19))]) (rx := []) (pl := va_pl L M_494) (pl1 := va_pl L M_502) hP hD [] [0] rfl rfl (by decide) (by decide) hk1 hFc hP1 hD1
                                          have hP : va_P D vwCl ([(za, (b13_0 0 z1 (nI z2) (nI z3) z4 z5 z6 z7 z8 z9 (nI z10) z11 z12 z13 z14 z15 (nI zgw488) z17 z18 z19))] ++ va_pl L M_502) H_500 := hP
                                          have hD : va_D A ([(za, (b13_0 0 z1 (nI z2) (nI z3) z4 z5 z6 z7 z8 z9 (nI z10) z11 z12 z13 z14 z15 (nI zgw488) z17 z18 z19))] ++ va_pl L M_502) := hD
                                          obtain ⟨fs504, hM504, hn504, hl504⟩ := hW.open_12 hb_15
                                          have hv_505 : fs504[15]? = some (.int (nI v497) : Value) := (hG2 _ hb_15 _ _ hM496 hM504 15 (by decide)).trans hv497
                                          have hF : fr K L [12, 14, 15, 32, 42, 45, 46, 79, 80, 81, 83, 86, 87, 88, 89, 90, 91, 92, 93, 94, 95, 96, 97, 98, 99] M M_502 := hF.tr hF2 (by decide)
                                          have hG : fG K L [1, 7, 8, 13, 14, 15, 16, 17, 18] M M_502 := hG.tr hWb hG2 (by decide)
                                          obtain ⟨n_506, p_507, q_508, r_509, n_510, h8, hle8, htr8, hV2⟩ := hVP
                                          rw [hV.2.1] at h8
                                          rw [hV.2.2.1] at htr8
                                          rw [hV.2.1, hV.2.2.1] at hV2
                                          have hn14 : (0 : Int) ≤ ((n_506 : Nat) : Int) := by omega
                                          have hV : VW K L M M_502 b13 (va_up (va_up (fx M b13) 17 ((gnw488 : Nat) : Int)) 14 ((n_506 : Nat) : Int)) (va_up (va_up (va_up (va_up (va_up (ax M b13) 44 gpw488) 45 gqw488) 38 p_507) 39 q_508) 40 r_509) := hV.tr hV2
                                          have h8s : fx M b13 14 = ((n_510 : Nat) : Int) := h8
                                          refine lv_aload_n hx hb dX13_close_307 rfl (lv_at hl 5 rfl) ?_
                                          refine lv_lconst (v := 0) hx hb dX13_close_308 (by decide) ?_
                                          refine pg_putN (D := D) (ci := 12) (v := .long 0) (ty := .long) (C := RX12) (T := TX12) (N := 51) hx hb hg inG12 tyX12 tyX12_ok nmX12 hown hK hP hD hS hb_15.1 hM504 rfl 7 (by decide) (hN.use (Cond.fieldLinkNest RX13 179 RX12 "loose" "J" RX13) 16 rfl rfl) (fun _ h9 => h9) rfl (by decide +kernel) rfl rfl (by rw [hn504]; decide) dX13_close_309 (fun H_511 locs hP hD hS => ?_)
                                          have hs_514 : (fs504.set 7 (.long 0))[7]? = some (.long 0) := List.getElem?_set_self (by rw [hn504]; decide)
                                          have hk_513 := fld12_set (k := 7) (w := .long 0) hl504 (show fld12 K L 7 (fs504.set 7 (.long 0)) from ⟨0, hs_514⟩)
                                          have hn_515 : (fs504.set 7 (.long 0)).length = 51 := by rw [List.length_set]; exact hn504
                                          have hv_516 : (fs504.set 7 (.long 0))[15]? = some (.int (nI v497)) := by rw [List.getElem?_set_ne (by decide)]; exact hv_505
                                          obtain ⟨M_517, eM_517⟩ : ∃ M1 : Hp, M1 = va_up M_502 b13 (.inr (12, fs504.set 7 (.long 0))) := ⟨_, rfl⟩
                                          have hV : VW K L M M_517 b13 (va_up (va_up (fx M b13) 17 ((gnw488 : Nat) : Int)) 14 ((n_506 : Nat) : Int)) (va_up (va_up (va_up (va_up (va_up (ax M b13) 44 gpw488) 45 gqw488) 38 p_507) 39 q_508) 40 r_509) := by rw [eM_517]; exact hV.put0 hW hb_15 hM504 rfl rfl
                                          have hP : va_P D vwCl ([(za, (b13_0 0 z1 (nI z2) (nI z3) z4 z5 z6 z7 z8 z9 (nI z10) z11 z12 z13 z14 z15 (nI zgw488) z17 z18 z19))] ++ va_pl L M_517) H_511 := by rw [eM_517]; exact hP
                                          have hD : va_D A ([(za, (b13_0 0 z1 (nI z2) (nI z3) z4 z5 z6 z7 z8 z9 (nI z10) z11 z12 z13 z14 z15 (nI zgw488) z17 z18 z19))] ++ va_pl L M_517) := by rw [eM_517]; exact hD
                                          have hW : WOM cy K L M_517 := by rw [eM_517]; exact hW.up_12 hb_15 ⟨_, rfl, hn_515, hk_513⟩
                                          have hF : fr K L [12, 14, 15, 32, 42, 45, 46, 79, 80, 81, 83, 86, 87, 88, 89, 90, 91, 92, 93, 94, 95, 96, 97, 98, 99] M M_517 := by rw [eM_517]; exact hF.up hb_15 (by decide)
                                          have hG : fG K L [1, 7, 8, 13, 14, 15, 16, 17, 18] M M_517 := by rw [eM_517]; exact hG.up hM504 (by decide)
                                          have hM_518 : M_517 b13 = .inr (12, fs504.set 7 (.long 0)) := by rw [eM_517]; exact va_up_self _ _ _
                                          refine lv_aload_n hx hb dX13_close_312 rfl (lv_at hl 5 rfl) ?_
                                          refine lv_iconst (v := 0) hx hb dX13_close_313 (by decide) ?_
                                          refine pg_putN (D := D) (ci := 12) (v := .int 0) (ty := .int) (C := RX12) (T := TX12) (N := 51) hx hb hg inG12 tyX12 tyX12_ok nmX12 hown hK hP hD hS hb_15.1 hM_518 rfl 15 (by decide) (hN.use (Cond.fieldLinkNest RX13 279 RX12 "mends" "I" RX13) 24 rfl rfl) (fun _ h9 => h9) rfl (by decide +kernel) rfl rfl (by rw [hn_515]; decide) dX13_close_314 (fun H_519 locs hP hD hS => ?_)
                                          have hs_522 : ((fs504.set 7 (.long 0)).set 15 (.int 0))[15]? = some (.int (nI 0)) := List.getElem?_set_self (by rw [hn_515]; decide)
                                          have hk_521 := fld12_set (k := 15) (w := .int 0) hk_513 (show fld12 K L 15 ((fs504.set 7 (.long 0)).set 15 (.int 0)) from ⟨0, hs_522, by omega⟩)
                                          have hn_523 : ((fs504.set 7 (.long 0)).set 15 (.int 0)).length = 51 := by rw [List.length_set]; exact hn_515
                                          have hv_524 : ((fs504.set 7 (.long 0)).set 15 (.int 0))[7]? = some (.long 0) := by rw [List.getElem?_set_ne (by decide)]; exact hs_514
                                          have hb_525 : 0 ≤ 20 := by omega
                                          obtain ⟨M_526, eM_526⟩ : ∃ M1 : Hp, M1 = va_up M_517 b13 (.inr (12, (fs504.set 7 (.long 0)).set 15 (.int 0))) := ⟨_, rfl⟩
                                          have hx15 : (fx M b13 15) = ((v497 : Nat) : Int) := (congrFun hV.2.1 15).symm.trans ((fx_of hM_518 rfl hv_516).trans (nI_toInt (by omega)))
                                          have hV : VW K L M M_526 b13 (va_up (va_up (va_up (fx M b13) 17 ((gnw488 : Nat) : Int)) 14 ((n_506 : Nat) : Int)) 15 (0 : Int)) (va_up (va_up (va_up (va_up (va_up (ax M b13) 44 gpw488) 45 gqw488) 38 p_507) 39 q_508) 40 r_509) := by rw [eM_526]; exact hV.put hW hb_15 hM_518 hn_515 rfl (by decide) rfl (by decide)
                                          have hP : va_P D vwCl ([(za, (b13_0 0 z1 (nI z2) (nI z3) z4 z5 z6 z7 z8 z9 (nI z10) z11 z12 z13 z14 z15 (nI zgw488) z17 z18 z19))] ++ va_pl L M_526) H_519 := by rw [eM_526]; exact hP
                                          have hD : va_D A ([(za, (b13_0 0 z1 (nI z2) (nI z3) z4 z5 z6 z7 z8 z9 (nI z10) z11 z12 z13 z14 z15 (nI zgw488) z17 z18 z19))] ++ va_pl L M_526) := by rw [eM_526]; exact hD
                                          have hW : WOM cy K L M_526 := by rw [eM_526]; exact hW.up_12 hb_15 ⟨_, rfl, hn_523, hk_521⟩
                                          have hF : fr K L [12, 14, 15, 32, 42, 45, 46, 79, 80, 81, 83, 86, 87, 88, 89, 90, 91, 92, 93, 94, 95, 96, 97, 98, 99] M M_526 := by rw [eM_526]; exact hF.up hb_15 (by decide)
                                          have hG : fG K L [1, 7, 8, 13, 14, 15, 16, 17, 18] M M_526 := by rw [eM_526]; exact hG.up hM_518 (by decide)
                                          have hM_527 : M_526 b13 = .inr (12, (fs504.set 7 (.long 0)).set 15 (.int 0)) := by rw [eM_526]; exact va_up_self _ _ _
                                          refine lv_aload_n hx hb dX13_close_317 rfl (lv_at hl 5 rfl) ?_
                                          refine lv_iconst (v := 0) hx hb dX13_close_318 (by decide) ?_
                                          refine pg_putN (D := D) (ci := 12) (v := .int 0) (ty := .int) (C := RX12) (T := TX12) (N := 51) hx hb hg inG12 tyX12 tyX12_ok nmX12 hown hK hP hD hS hb_15.1 hM_527 rfl 16 (by decide) (hN.use (Cond.fieldLinkNest RX13 161 RX12 "undone" "I" RX13) 25 rfl rfl) (fun _ h9 => h9) rfl (by decide +kernel) rfl rfl (by rw [hn_523]; decide) dX13_close_319 (fun H_528 locs hP hD hS => ?_)
                                          have hs_531 : (((fs504.set 7 (.long 0)).set 15 (.int 0)).set 16 (.int 0))[16]? = some (.int (nI 0)) := List.getElem?_set_self (by rw [hn_523]; decide)
                                          have hk_530 := fld12_set (k := 16) (w := .int 0) hk_521 (show fld12 K L 16 (((fs504.set 7 (.long 0)).set 15 (.int 0)).set 16 (.int 0)) from ⟨0, hs_531, by omega⟩)
                                          have hn_532 : (((fs504.set 7 (.long 0)).set 15 (.int 0)).set 16 (.int 0)).length = 51 := by rw [List.length_set]; exact hn_523
                                          have hv_533 : (((fs504.set 7 (.long 0)).set 15 (.int 0)).set 16 (.int 0))[7]? = some (.long 0) := by rw [List.getElem?_set_ne (by decide)]; exact hv_524
                                          have hv_534 : (((fs504.set 7 (.long 0)).set 15 (.int 0)).set 16 (.int 0))[15]? = some (.int (nI 0)) := by rw [List.getElem?_set_ne (by decide)]; exact hs_522
                                          have hb_535 : 0 ≤ 60 := by omega
                                          obtain ⟨M_536, eM_536⟩ : ∃ M1 : Hp, M1 = va_up M_526 b13 (.inr (12, ((fs504.set 7 (.long 0)).set 15 (.int 0)).set 16 (.int 0))) := ⟨_, rfl⟩
                                          have hV : VW K L M M_536 b13 (va_up (va_up (va_up (va_up (fx M b13) 17 ((gnw488 : Nat) : Int)) 14 ((n_506 : Nat) : Int)) 15 (0 : Int)) 16 (0 : Int)) (va_up (va_up (va_up (va_up (va_up (ax M b13) 44 gpw488) 45 gqw488) 38 p_507) 39 q_508) 40 r_509) := by rw [eM_536]; exact hV.put hW hb_15 hM_527 hn_523 rfl (by decide) rfl (by decide)
                                          have hP : va_P D vwCl ([(za, (b13_0 0 z1 (nI z2) (nI z3) z4 z5 z6 z7 z8 z9 (nI z10) z11 z12 z13 z14 z15 (nI zgw488) z17 z18 z19))] ++ va_pl L M_536) H_528 := by rw [eM_536]; exact hP
                                          have hD : va_D A ([(za, (b13_0 0 z1 (nI z2) (nI z3) z4 z5 z6 z7 z8 z9 (nI z10) z11 z12 z13 z14 z15 (nI zgw488) z17 z18 z19))] ++ va_pl L M_536) := by rw [eM_536]; exact hD
                                          have hW : WOM cy K L M_536 := by rw [eM_536]; exact hW.up_12 hb_15 ⟨_, rfl, hn_532, hk_530⟩
                                          have hF : fr K L [12, 14, 15, 32, 42, 45, 46, 79, 80, 81, 83, 86, 87, 88, 89, 90, 91, 92, 93, 94, 95, 96, 97, 98, 99] M M_536 := by rw [eM_536]; exact hF.up hb_15 (by decide)
                                          have hG : fG K L [1, 7, 8, 13, 14, 15, 16, 17, 18] M M_536 := by rw [eM_536]; exact hG.up hM_527 (by decide)
                                          have hM_537 : M_536 b13 = .inr (12, ((fs504.set 7 (.long 0)).set 15 (.int 0)).set 16 (.int 0)) := by rw [eM_536]; exact va_up_self _ _ _
                                          refine lv_aload_n hx hb dX13_close_322 rfl (lv_at hl 5 rfl) ?_
                                          refine lv_iload hx hb dX13_close_323 (lv_at hl 3 rfl) ?_
                                          refine pg_putN (D := D) (ci := 12) (v := .int (nI c_400)) (ty := .int) (C := RX12) (T := TX12) (N := 51) hx hb hg inG12 tyX12 tyX12_ok nmX12 hown hK hP hD hS hb_15.1 hM_537 rfl 1 (by decide) (hN.use (Cond.fieldLinkNest RX13 80 RX12 "to" "I" RX13) 10 rfl rfl) (fun _ h9 => h9) rfl (by decide +kernel) rfl rfl (by rw [hn_532]; decide) dX13_close_325 (fun H_538 locs hP hD hS => ?_)
                                          have hs_541 : ((((fs504.set 7 (.long 0)).set 15 (.int 0)).set 16 (.int 0)).set 1 (.int (nI c_400)))[1]? = some (.int (nI c_400)) := List.getElem?_set_self (by rw [hn_532]; decide)
                                          have hk_540 := fld12_set (k := 1) (w := .int (nI c_400)) hk_530 (show fld12 K L 1 ((((fs504.set 7 (.long 0)).set 15 (.int 0)).set 16 (.int 0)).set 1 (.int (nI c_400))) from ⟨(nI c_400), hs_541, Or.inr ⟨c_400, by omega, rfl⟩⟩)
                                          have hn_542 : ((((fs504.set 7 (.long 0)).set 15 (.int 0)).set 16 (.int 0)).set 1 (.int (nI c_400))).length = 51 := by rw [List.length_set]; exact hn_532
                                          have hv_543 : ((((fs504.set 7 (.long 0)).set 15 (.int 0)).set 16 (.int 0)).set 1 (.int (nI c_400)))[7]? = some (.long 0) := by rw [List.getElem?_set_ne (by decide)]; exact hv_533
                                          have hv_544 : ((((fs504.set 7 (.long 0)).set 15 (.int 0)).set 16 (.int 0)).set 1 (.int (nI c_400)))[15]? = some (.int (nI 0)) := by rw [List.getElem?_set_ne (by decide)]; exact hv_534
                                          have hv_545 : ((((fs504.set 7 (.long 0)).set 15 (.int 0)).set 16 (.int 0)).set 1 (.int (nI c_400)))[16]? = some (.int (nI 0)) := by rw [List.getElem?_set_ne (by decide)]; exact hs_531
                                          obtain ⟨M_546, eM_546⟩ : ∃ M1 : Hp, M1 = va_up M_536 b13 (.inr (12, (((fs504.set 7 (.long 0)).set 15 (.int 0)).set 16 (.int 0)).set 1 (.int (nI c_400)))) := ⟨_, rfl⟩
                                          have hV : VW K L M M_546 b13 (va_up (va_up (va_up (va_up (va_up (fx M b13) 17 ((gnw488 : Nat) : Int)) 14 ((n_506 : Nat) : Int)) 15 (0 : Int)) 16 (0 : Int)) 1 ((c_400 : Nat) : Int)) (va_up (va_up (va_up (va_up (va_up (ax M b13) 44 gpw488) 45 gqw488) 38 p_507) 39 q_508) 40 r_509) := by rw [eM_546]; exact hV.put hW hb_15 hM_537 hn_532 rfl (by decide) rfl (nI_toInt (by omega))
                                          have hP : va_P D vwCl ([(za, (b13_0 0 z1 (nI z2) (nI z3) z4 z5 z6 z7 z8 z9 (nI z10) z11 z12 z13 z14 z15 (nI zgw488) z17 z18 z19))] ++ va_pl L M_546) H_538 := by rw [eM_546]; exact hP
                                          have hD : va_D A ([(za, (b13_0 0 z1 (nI z2) (nI z3) z4 z5 z6 z7 z8 z9 (nI z10) z11 z12 z13 z14 z15 (nI zgw488) z17 z18 z19))] ++ va_pl L M_546) := by rw [eM_546]; exact hD
                                          have hW : WOM cy K L M_546 := by rw [eM_546]; exact hW.up_12 hb_15 ⟨_, rfl, hn_542, hk_540⟩
                                          have hF : fr K L [12, 14, 15, 32, 42, 45, 46, 79, 80, 81, 83, 86, 87, 88, 89, 90, 91, 92, 93, 94, 95, 96, 97, 98, 99] M M_546 := by rw [eM_546]; exact hF.up hb_15 (by decide)
                                          have hG : fG K L [1, 7, 8, 13, 14, 15, 16, 17, 18] M M_546 := by rw [eM_546]; exact hG.up hM_537 (by decide)
                                          have hM_547 : M_546 b13 = .inr (12, (((fs504.set 7 (.long 0)).set 15 (.int 0)).set 16 (.int 0)).set 1 (.int (nI c_400))) := by rw [eM_546]; exact va_up_self _ _ _
                                          refine lv_aload_n hx hb dX13_close_328 rfl (lv_at hl 5 rfl) ?_
                                          refine lv_dup hx hb dX13_close_329 rfl ?_
                                          obtain ⟨v548, hv548, hc548⟩ : ∃ v : Nat, ((((fs504.set 7 (.long 0)).set 15 (.int 0)).set 16 (.int 0)).set 1 (.int (nI c_400)))[13]? = some (.int (nI v) : Value) ∧ v ≤ 12 := hk_540 13 (by decide)
                                          refine pg_getN (D := D) (ci := 12) (v := .int (nI v548)) (C := RX12) (T := TX12) (N := 51) hx hb hg inG12 hown hK hP hb_15.1 hM_547 rfl 13 (by decide) (hN.use (Cond.fieldLinkNest RX13 244 RX12 "closed" "I" RX13) 22 rfl rfl) (fun _ h9 => h9) hv548 dX13_close_330 ?_
                                          have hx13 : (fx M b13 13) = ((v548 : Nat) : Int) := (congrFun hV.2.1 13).symm.trans ((fx_of hM_547 rfl hv548).trans (nI_toInt (by omega)))
                                          refine lv_iconst (v := 1) hx hb dX13_close_333 (by decide) ?_
                                          refine lv_iadd hx hb dX13_close_334 ?_
                                          refine lv_topi (fun f_549 ef_549 => ?_)
                                          obtain rfl : f_549 = (nI (v548 + 1)) := ef_549.trans (nI_add v548 1)
                                          refine pg_putN (D := D) (ci := 12) (v := .int (nI (v548 + 1))) (ty := .int) (C := RX12) (T := TX12) (N := 51) hx hb hg inG12 tyX12 tyX12_ok nmX12 hown hK hP hD hS hb_15.1 hM_547 rfl 13 (by decide) (hN.use (Cond.fieldLinkNest RX13 244 RX12 "closed" "I" RX13) 22 rfl rfl) (fun _ h9 => h9) rfl (by decide +kernel) rfl rfl (by rw [hn_542]; decide) dX13_close_335 (fun H_550 locs hP hD hS => ?_)
                                          have hs_553 : (((((fs504.set 7 (.long 0)).set 15 (.int 0)).set 16 (.int 0)).set 1 (.int (nI c_400))).set 13 (.int (nI (v548 + 1))))[13]? = some (.int (nI (v548 + 1))) := List.getElem?_set_self (by rw [hn_542]; decide)
                                          have hk_552 := fld12_set (k := 13) (w := .int (nI (v548 + 1))) hk_540 (show fld12 K L 13 (((((fs504.set 7 (.long 0)).set 15 (.int 0)).set 16 (.int 0)).set 1 (.int (nI c_400))).set 13 (.int (nI (v548 + 1)))) from ⟨(v548 + 1), hs_553, by omega⟩)
                                          have hn_554 : (((((fs504.set 7 (.long 0)).set 15 (.int 0)).set 16 (.int 0)).set 1 (.int (nI c_400))).set 13 (.int (nI (v548 + 1)))).length = 51 := by rw [List.length_set]; exact hn_542
                                          have hv_555 : (((((fs504.set 7 (.long 0)).set 15 (.int 0)).set 16 (.int 0)).set 1 (.int (nI c_400))).set 13 (.int (nI (v548 + 1))))[7]? = some (.long 0) := by rw [List.getElem?_set_ne (by decide)]; exact hv_543
                                          have hv_556 : (((((fs504.set 7 (.long 0)).set 15 (.int 0)).set 16 (.int 0)).set 1 (.int (nI c_400))).set 13 (.int (nI (v548 + 1))))[15]? = some (.int (nI 0)) := by rw [List.getElem?_set_ne (by decide)]; exact hv_544
                                          have hv_557 : (((((fs504.set 7 (.long 0)).set 15 (.int 0)).set 16 (.int 0)).set 1 (.int (nI c_400))).set 13 (.int (nI (v548 + 1))))[16]? = some (.int (nI 0)) := by rw [List.getElem?_set_ne (by decide)]; exact hv_545
                                          have hv_558 : (((((fs504.set 7 (.long 0)).set 15 (.int 0)).set 16 (.int 0)).set 1 (.int (nI c_400))).set 13 (.int (nI (v548 + 1))))[1]? = some (.int (nI c_400)) := by rw [List.getElem?_set_ne (by decide)]; exact hs_541
                                          have hb_559 : (v548 + 1) ≤ 12 := by omega
                                          obtain ⟨M_560, eM_560⟩ : ∃ M1 : Hp, M1 = va_up M_546 b13 (.inr (12, ((((fs504.set 7 (.long 0)).set 15 (.int 0)).set 16 (.int 0)).set 1 (.int (nI c_400))).set 13 (.int (nI (v548 + 1))))) := ⟨_, rfl⟩
                                          have hx13 : (fx M b13 13) = ((v548 : Nat) : Int) := (congrFun hV.2.1 13).symm.trans ((fx_of hM_547 rfl hv548).trans (nI_toInt (by omega)))
                                          have hV : VW K L M M_560 b13 (va_up (va_up (va_up (va_up (va_up (va_up (fx M b13) 17 ((gnw488 : Nat) : Int)) 14 ((n_506 : Nat) : Int)) 15 (0 : Int)) 16 (0 : Int)) 1 ((c_400 : Nat) : Int)) 13 (((v548 + 1) : Nat) : Int)) (va_up (va_up (va_up (va_up (va_up (ax M b13) 44 gpw488) 45 gqw488) 38 p_507) 39 q_508) 40 r_509) := by rw [eM_560]; exact hV.put hW hb_15 hM_547 hn_542 rfl (by decide) rfl (nI_toInt (by omega))
                                          have hP : va_P D vwCl ([(za, (b13_0 0 z1 (nI z2) (nI z3) z4 z5 z6 z7 z8 z9 (nI z10) z11 z12 z13 z14 z15 (nI zgw488) z17 z18 z19))] ++ va_pl L M_560) H_550 := by rw [eM_560]; exact hP
                                          have hD : va_D A ([(za, (b13_0 0 z1 (nI z2) (nI z3) z4 z5 z6 z7 z8 z9 (nI z10) z11 z12 z13 z14 z15 (nI zgw488) z17 z18 z19))] ++ va_pl L M_560) := by rw [eM_560]; exact hD
                                          have hW : WOM cy K L M_560 := by rw [eM_560]; exact hW.up_12 hb_15 ⟨_, rfl, hn_554, hk_552⟩
                                          have hF : fr K L [12, 14, 15, 32, 42, 45, 46, 79, 80, 81, 83, 86, 87, 88, 89, 90, 91, 92, 93, 94, 95, 96, 97, 98, 99] M M_560 := by rw [eM_560]; exact hF.up hb_15 (by decide)
                                          have hG : fG K L [1, 7, 8, 13, 14, 15, 16, 17, 18] M M_560 := by rw [eM_560]; exact hG.up hM_547 (by decide)
                                          have hM_561 : M_560 b13 = .inr (12, ((((fs504.set 7 (.long 0)).set 15 (.int 0)).set 16 (.int 0)).set 1 (.int (nI c_400))).set 13 (.int (nI (v548 + 1)))) := by rw [eM_560]; exact va_up_self _ _ _
                                          refine lv_aload_n hx hb dX13_close_338 rfl (lv_at hl 5 rfl) ?_
                                          refine lv_iconst (v := 1) hx hb dX13_close_339 (by decide) ?_
                                          refine pg_putN (D := D) (ci := 12) (v := .int 1) (ty := .boolean) (C := RX12) (T := TX12) (N := 51) hx hb hg inG12 tyX12 tyX12_ok nmX12 hown hK hP hD hS hb_15.1 hM_561 rfl 18 (by decide) (hN.use (Cond.fieldLinkNest RX13 288 RX12 "hasClosed" "Z" RX13) 27 rfl rfl) (fun _ h9 => h9) rfl (by decide +kernel) rfl rfl (by rw [hn_554]; decide) dX13_close_340 (fun H_562 locs hP hD hS => ?_)
                                          have hs_565 : ((((((fs504.set 7 (.long 0)).set 15 (.int 0)).set 16 (.int 0)).set 1 (.int (nI c_400))).set 13 (.int (nI (v548 + 1)))).set 18 (.int 1))[18]? = some (.int 1) := List.getElem?_set_self (by rw [hn_554]; decide)
                                          have hk_564 := fld12_set (k := 18) (w := .int 1) hk_552 (show fld12 K L 18 ((((((fs504.set 7 (.long 0)).set 15 (.int 0)).set 16 (.int 0)).set 1 (.int (nI c_400))).set 13 (.int (nI (v548 + 1)))).set 18 (.int 1)) from ⟨1, hs_565, by decide⟩)
                                          have hn_566 : ((((((fs504.set 7 (.long 0)).set 15 (.int 0)).set 16 (.int 0)).set 1 (.int (nI c_400))).set 13 (.int (nI (v548 + 1)))).set 18 (.int 1)).length = 51 := by rw [List.length_set]; exact hn_554
                                          have hv_567 : ((((((fs504.set 7 (.long 0)).set 15 (.int 0)).set 16 (.int 0)).set 1 (.int (nI c_400))).set 13 (.int (nI (v548 + 1)))).set 18 (.int 1))[7]? = some (.long 0) := by rw [List.getElem?_set_ne (by decide)]; exact hv_555
                                          have hv_568 : ((((((fs504.set 7 (.long 0)).set 15 (.int 0)).set 16 (.int 0)).set 1 (.int (nI c_400))).set 13 (.int (nI (v548 + 1)))).set 18 (.int 1))[15]? = some (.int (nI 0)) := by rw [List.getElem?_set_ne (by decide)]; exact hv_556
                                          have hv_569 : ((((((fs504.set 7 (.long 0)).set 15 (.int 0)).set 16 (.int 0)).set 1 (.int (nI c_400))).set 13 (.int (nI (v548 + 1)))).set 18 (.int 1))[16]? = some (.int (nI 0)) := by rw [List.getElem?_set_ne (by decide)]; exact hv_557
                                          have hv_570 : ((((((fs504.set 7 (.long 0)).set 15 (.int 0)).set 16 (.int 0)).set 1 (.int (nI c_400))).set 13 (.int (nI (v548 + 1)))).set 18 (.int 1))[1]? = some (.int (nI c_400)) := by rw [List.getElem?_set_ne (by decide)]; exact hv_558
                                          have hv_571 : ((((((fs504.set 7 (.long 0)).set 15 (.int 0)).set 16 (.int 0)).set 1 (.int (nI c_400))).set 13 (.int (nI (v548 + 1)))).set 18 (.int 1))[13]? = some (.int (nI (v548 + 1))) := by rw [List.getElem?_set_ne (by decide)]; exact hs_553
                                          obtain ⟨M_572, eM_572⟩ : ∃ M1 : Hp, M1 = va_up M_560 b13 (.inr (12, (((((fs504.set 7 (.long 0)).set 15 (.int 0)).set 16 (.int 0)).set 1 (.int (nI c_400))).set 13 (.int (nI (v548 + 1)))).set 18 (.int 1))) := ⟨_, rfl⟩
                                          have hV : VW K L M M_572 b13 (va_up (va_up (va_up (va_up (va_up (va_up (va_up (fx M b13) 17 ((gnw488 : Nat) : Int)) 14 ((n_506 : Nat) : Int)) 15 (0 : Int)) 16 (0 : Int)) 1 ((c_400 : Nat) : Int)) 13 (((v548 + 1) : Nat) : Int)) 18 (1 : Int)) (va_up (va_up (va_up (va_up (va_up (ax M b13) 44 gpw488) 45 gqw488) 38 p_507) 39 q_508) 40 r_509) := by rw [eM_572]; exact hV.put hW hb_15 hM_561 hn_554 rfl (by decide) rfl (by decide)
                                          have hP : va_P D vwCl ([(za, (b13_0 0 z1 (nI z2) (nI z3) z4 z5 z6 z7 z8 z9 (nI z10) z11 z12 z13 z14 z15 (nI zgw488) z17 z18 z19))] ++ va_pl L M_572) H_562 := by rw [eM_572]; exact hP
                                          have hD : va_D A ([(za, (b13_0 0 z1 (nI z2) (nI z3) z4 z5 z6 z7 z8 z9 (nI z10) z11 z12 z13 z14 z15 (nI zgw488) z17 z18 z19))] ++ va_pl L M_572) := by rw [eM_572]; exact hD
                                          have hW : WOM cy K L M_572 := by rw [eM_572]; exact hW.up_12 hb_15 ⟨_, rfl, hn_566, hk_564⟩
                                          have hF : fr K L [12, 14, 15, 32, 42, 45, 46, 79, 80, 81, 83, 86, 87, 88, 89, 90, 91, 92, 93, 94, 95, 96, 97, 98, 99] M M_572 := by rw [eM_572]; exact hF.up hb_15 (by decide)
                                          have hG : fG K L [1, 7, 8, 13, 14, 15, 16, 17, 18] M M_572 := by rw [eM_572]; exact hG.up hM_561 (by decide)
                                          have hM_573 : M_572 b13 = .inr (12, (((((fs504.set 7 (.long 0)).set 15 (.int 0)).set 16 (.int 0)).set 1 (.int (nI c_400))).set 13 (.int (nI (v548 + 1)))).set 18 (.int 1)) := by rw [eM_572]; exact va_up_self _ _ _
                                          refine lv_aload_n hx hb dX13_close_343 rfl (lv_at hl 6 rfl) ?_
                                          refine lv_aload_n hx hb dX13_close_344 rfl (lv_at hl 5 rfl) ?_
                                          refine lv_iload hx hb dX13_close_345 (lv_at hl 3 rfl) ?_
                                          have hPc : va_P D vwCl ([(za, (b13_0 0 z1 (nI z2) (nI z3) z4 z5 z6 z7 z8 z9 (nI z10) z11 z12 z13 z14 z15 (nI zgw488) z17 z18 z19))] ++ va_pl L M_572) H_562 := hP
                                          have hDc : va_D A ([(za, (b13_0 0 z1 (nI z2) (nI z3) z4 z5 z6 z7 z8 z9 (nI z10) z11 z12 z13 z14 z15 (nI zgw488) z17 z18 z19))] ++ va_pl L M_572) := hD
                                          have hFc : ∀ q, va_A ([(za, (b13_0 0 z1 (nI z2) (nI z3) z4 z5 z6 z7 z8 z9 (nI z10) z11 z12 z13 z14 z15 (nI zgw488) z17 z18 z19))] ++ va_pl L M_572) H_562.size q → A q := pg_free hDc hS hA
                                          refine va_callv (va_runV (As := [.ref b13, .int (nI c_400)]) (rest := []) ⟨hx, hb, hml, hown, hg⟩ (g_X13_incomes l D cy K L M_572 H_562.size za 0 z1 z2 z3 z4 z5 z6 z7 z8 z9 z10 z11 z12 z13 z14 z15 zgw488 z17 z18 z19 b13 c_400  hW i1 b2 b3 i6 i7 i8 i9 b10 i11 i12 i13 i14 i15 (by omega) i17 i19 hb_15 hc_401 (R5.mv hR5 i6 i7 hF (by decide) (by decide))) (cwV 2 hg (gV wd_864 wd_865 wd_866 wd_717 wd_867) rfl rfl rfl (by decide +kernel) ⟨(Nat.le_trans (Nat.le_of_ble_eq_true rfl) hRf), (Nat.le_trans (Nat.le_of_ble_eq_true rfl) hRl)⟩) ⟨PG.blind, va_recv hK hP (ci := 13) (q0 := 0) rfl rfl, fun U hU hW => ⟨rfl, PG.at hPc hK hDc hN hU hW⟩⟩ rfl rfl hl.1 rfl (lv_room (Nat.le_of_ble_eq_true rfl)) dX13_close_347 ⟨(Nat.le_trans (Nat.le_of_ble_eq_true rfl) hRc), (Nat.le_trans (Nat.le_of_ble_eq_true rfl) hRs)⟩) hS (fun q _ h => hFc q h) hFc (fun M_576 t H_574 locs ht hvm hw hB hz1 hk1 hS => ?_)
                                          have hWb := hW
                                          obtain ⟨hW, hF2, hG2, hp_577⟩ := hw
                                          obtain ⟨hP1, hD1⟩ := hB
                                          rw [ht] at hP1
                                          have hP : va_P D vwCl ([(za, (b13_0 0 z1 (nI z2) (nI z3) z4 z5 z6 z7 z8 z9 (nI z10) z11 z12 z13 z14 z15 (nI zgw488) z17 z18 z19))] ++ va_pl L M_576) H_574 := hP1
                                          have hD : va_D A ([(za, (b13_0 0 z1 (nI z2) (nI z3) z4 z5 z6 z7 z8 z9 (nI z10) z11 z12 z13 z14 z15 (nI zgw488) z17 z18 z19))] ++ va_pl L M_576) := hD1.mono hFc
                                          obtain ⟨fs578, hM578, hn578, hl578⟩ := hW.open_12 hb_15
                                          have hv_579 : fs578[15]? = some (.int (nI 0) : Value) := (hG2 _ hb_15 _ _ hM_573 hM578 15 (by decide)).trans hv_568
                                          have hv_580 : fs578[16]? = some (.int (nI 0) : Value) := (hG2 _ hb_15 _ _ hM_573 hM578 16 (by decide)).trans hv_569
                                          have hv_581 : fs578[1]? = some (.int (nI c_400) : Value) := (hG2 _ hb_15 _ _ hM_573 hM578 1 (by decide)).trans hv_570
                                          have hv_582 : fs578[13]? = some (.int (nI (v548 + 1)) : Value) := (hG2 _ hb_15 _ _ hM_573 hM578 13 (by decide)).trans hv_571
                                          have hv_583 : fs578[18]? = some (.int 1 : Value) := (hG2 _ hb_15 _ _ hM_573 hM578 18 (by decide)).trans hs_565
                                          have hF : fr K L [12, 14, 15, 32, 42, 45, 46, 79, 80, 81, 83, 86, 87, 88, 89, 90, 91, 92, 93, 94, 95, 96, 97, 98, 99] M M_576 := hF.tr hF2 (by decide)
                                          have hG : fG K L [1, 7, 8, 13, 14, 15, 16, 17, 18] M M_576 := hG.tr hWb hG2 (by decide)
                                          have hV : VW K L M M_576 b13 (va_up (va_up (va_up (va_up (va_up (va_up (va_up (fx M b13) 17 ((gnw488 : Nat) : Int)) 14 ((n_506 : Nat) : Int)) 15 (0 : Int)) 16 (0 : Int)) 1 ((c_400 : Nat) : Int)) 13 (((v548 + 1) : Nat) : Int)) 18 (1 : Int)) (va_up (va_up (va_up (va_up (va_up (ax M b13) 44 gpw488) 45 gqw488) 38 p_507) 39 q_508) 40 r_509) := hV.cal hWb hW hF2 hG2 (by decide) (by decide) hb_15
                                          refine lv_aload_n hx hb dX13_close_350 rfl (lv_at hl 5 rfl) ?_
                                          refine lv_iload hx hb dX13_close_351 (lv_at hl 3 rfl) ?_
                                          have hPc : va_P D vwCl ([] ++ va_pl L M_576) H_574 := hP.part (cx := []) [] rfl
                                          have hDc : va_D A ([] ++ va_pl L M_576) := hD.part (cx := []) [] (by decide) rfl
                                          have hFc : ∀ q, va_A ([] ++ va_pl L M_576) H_574.size q → A q := pg_free hDc hS hA
                                          refine va_callv (va_runS (As := [.ref b13, .int (nI c_400)]) (rest := []) ⟨hx, hb, hml, hown, hg⟩ (z_ends l D cy K L M_576 H_574.size b13 c_400  hW hb_15 hc_401 hV.2.2.2 (by rw [hV.2.1, hV.2.2.1]; exact hAT.2.2.1)) (va_cwS 2 hg (gS wd_868 wd_869 wd_717 wd_870) rfl rfl rfl (by decide +kernel) ⟨(Nat.le_trans (Nat.le_of_ble_eq_true rfl) hRf), (Nat.le_trans (Nat.le_of_ble_eq_true rfl) hRl)⟩) ⟨PG.blind, fun U hU hW => ⟨rfl, PG.at hPc hK hDc hN hU hW⟩⟩ rfl rfl hl.1 rfl (lv_room (Nat.le_of_ble_eq_true rfl)) dX13_close_353 ⟨(Nat.le_trans (Nat.le_of_ble_eq_true rfl) hRc), (Nat.le_trans (Nat.le_of_ble_eq_true rfl) hRs)⟩) hS (fun q _ h => hFc q h) hFc (fun M_586 t H_584 locs ht hvm hw hB hz1 hk1 hS => ?_)
                                          have hWb := hW
                                          obtain ⟨hW, hF2, hG2, hVP, hp_587⟩ := hw
                                          obtain ⟨hP1, hD1⟩ := hB
                                          rw [ht] at hP1
                                          obtain ⟨hP, hD⟩ := va_joinP (X := [(za, (b13_0 0 z1 (nI z2) (nI z3) z4 z5 z6 z7 z8 z9 (nI z10) z11 z12 z13 z14 z15 (nI zgw488) z17 z18 z19))]) (cx := []) (wr := [(za, (b13_0 0 z1 (nI z2) (nI z3) z4 z5 z6 z7 z8 z9 (nI z10) z11 z12 z13 z14 z15 (nI zgw488) z17 z18 z19))]) (rx := []) (pl := va_pl L M_576) (pl1 := va_pl L M_586) hP hD [] [0] rfl rfl (by decide) (by decide) hk1 hFc hP1 hD1
                                          have hP : va_P D vwCl ([(za, (b13_0 0 z1 (nI z2) (nI z3) z4 z5 z6 z7 z8 z9 (nI z10) z11 z12 z13 z14 z15 (nI zgw488) z17 z18 z19))] ++ va_pl L M_586) H_584 := hP
                                          have hD : va_D A ([(za, (b13_0 0 z1 (nI z2) (nI z3) z4 z5 z6 z7 z8 z9 (nI z10) z11 z12 z13 z14 z15 (nI zgw488) z17 z18 z19))] ++ va_pl L M_586) := hD
                                          have hM_588 : M_586 b13 = .inr (12, fs578) := (hF2.at hb_15 (by decide)).trans hM578
                                          have hF : fr K L [12, 14, 15, 32, 42, 45, 46, 79, 80, 81, 83, 86, 87, 88, 89, 90, 91, 92, 93, 94, 95, 96, 97, 98, 99] M M_586 := hF.tr hF2 (by decide)
                                          have hG : fG K L [1, 7, 8, 13, 14, 15, 16, 17, 18] M M_586 := hG.tr hWb hG2 (by decide)
                                          obtain ⟨g_589, hg23, hV2⟩ := hVP
                                          rw [hV.2.1, hV.2.2.1] at hg23
                                          rw [hV.2.1, hV.2.2.1] at hV2
                                          have hV : VW K L M M_586 b13 (va_up (va_up (va_up (va_up (va_up (va_up (va_up (fx M b13) 17 ((gnw488 : Nat) : Int)) 14 ((n_506 : Nat) : Int)) 15 (0 : Int)) 16 (0 : Int)) 1 ((c_400 : Nat) : Int)) 13 (((v548 + 1) : Nat) : Int)) 18 (1 : Int)) (va_up (va_up (va_up (va_up (va_up (va_up (ax M b13) 44 gpw488) 45 gqw488) 38 p_507) 39 q_508) 40 r_509) 23 g_589) := hV.tr hV2
                                          refine lv_aload_n hx hb dX13_close_356 rfl (lv_at hl 6 rfl) ?_
                                          refine lv_aload_n hx hb dX13_close_357 rfl (lv_at hl 5 rfl) ?_
                                          refine pg_getN (D := D) (ci := 12) (v := .int (nI (v548 + 1))) (C := RX12) (T := TX12) (N := 51) hx hb hg inG12 hown hK hP hb_15.1 hM_588 rfl 13 (by decide) (hN.use (Cond.fieldLinkNest RX13 244 RX12 "closed" "I" RX13) 22 rfl rfl) (fun _ h9 => h9) hv_582 dX13_close_358 ?_
                                          have hx13 : (((v548 + 1) : Nat) : Int) = (((v548 + 1) : Nat) : Int) := (congrFun hV.2.1 13).symm.trans ((fx_of hM_588 rfl hv_582).trans (nI_toInt (by omega)))
                                          refine lv_iconst (v := 1) hx hb dX13_close_361 (by decide) ?_
                                          refine lv_isub hx hb dX13_close_362 ?_
                                          refine lv_topi (fun f_590 ef_590 => ?_)
                                          obtain rfl : f_590 = (nI ((v548 + 1) - 1)) := ef_590.trans (nI_prd (by omega))
                                          have hPc := hP.sub (ws' := [(za, (b13_0 0 z1 (nI z2) (nI z3) z4 z5 z6 z7 z8 z9 (nI z10) z11 z12 z13 z14 z15 (nI zgw488) z17 z18 z19))]) [0] rfl
                                          have hDc := hD.sub (ws' := [(za, (b13_0 0 z1 (nI z2) (nI z3) z4 z5 z6 z7 z8 z9 (nI z10) z11 z12 z13 z14 z15 (nI zgw488) z17 z18 z19))]) [0] (by decide) rfl
                                          have hKc := hK.sub (tys' := []) [] rfl
                                          have hFc := va_free (wc := [(za, (b13_0 0 z1 (nI z2) (nI z3) z4 z5 z6 z7 z8 z9 (nI z10) z11 z12 z13 z14 z15 (nI zgw488) z17 z18 z19))]) hD hS hA [0] rfl
                                          refine va_calli (va_runV (As := [.int (nI ((v548 + 1) - 1))]) (rest := []) ⟨hx, hb, hml, hown, hg⟩ (m_done l D H_584.size za 0 z1 (nI z2) (nI z3) z4 z5 z6 z7 z8 z9 (nI z10) z11 z12 z13 z14 z15 (nI zgw488) z17 z18 z19 (nI ((v548 + 1) - 1))) (cwV 1 hg (gV wd_730 wd_731 wd_732 wd_717 wd_733) rfl rfl rfl (by decide +kernel) ⟨(Nat.le_trans (Nat.le_of_ble_eq_true rfl) hRf), (Nat.le_trans (Nat.le_of_ble_eq_true rfl) hRl)⟩) ⟨Pr.blind, va_recv hK hP (ci := 13) (q0 := 0) rfl rfl, fun U hU hW => ⟨rfl, Pr.at hPc hKc hDc hN hU hW⟩⟩ rfl rfl hl.1 rfl (lv_room (Nat.le_of_ble_eq_true rfl)) dX13_close_363 ⟨(Nat.le_trans (Nat.le_of_ble_eq_true rfl) hRc), (Nat.le_trans (Nat.le_of_ble_eq_true rfl) hRs)⟩) hS (fun q _ h => hFc q h) hFc (fun r_592 M_593 t H_591 locs ht hvm hw hB hz1 hk1 hS => ?_)
                                          have hp_594 := hw
                                          obtain ⟨hP1, hK1, hD1⟩ := hB
                                          rw [ht] at hP1
                                          obtain ⟨hP, hD⟩ := va_joinQ (X := [(za, (b13_0 0 z1 (nI z2) (nI z3) z4 z5 z6 z7 z8 z9 (nI z10) z11 z12 z13 z14 z15 (nI zgw488) z17 z18 z19))]) (cx := [(za, (b13_0 0 z1 (nI z2) (nI z3) z4 z5 z6 z7 z8 z9 (nI z10) z11 z12 z13 z14 z15 (nI zgw488) z17 z18 z19))]) (wr := []) (w1 := [(za, (b13_0 0 z1 (nI z2) (nI z3) 0 (-1) z6 z7 z8 z9 (nI z10) z11 z12 z13 z14 z15 (nI zgw488) z17 z18 z19))]) (pl := va_pl L M_586) hP hD [0] [] rfl rfl (by decide) (by decide) hk1 hFc hP1 hD1
                                          have hP : va_P D vwCl ([(za, (b13_0 0 z1 (nI z2) (nI z3) 0 (-1) z6 z7 z8 z9 (nI z10) z11 z12 z13 z14 z15 (nI zgw488) z17 z18 z19))] ++ va_pl L M_586) H_591 := hP
                                          have hD : va_D A ([(za, (b13_0 0 z1 (nI z2) (nI z3) 0 (-1) z6 z7 z8 z9 (nI z10) z11 z12 z13 z14 z15 (nI zgw488) z17 z18 z19))] ++ va_pl L M_586) := hD
                                          have hq := Eq.symm hp_594
                                          subst hq
                                          have hI_595 : (24 : Int) ≤ ((v6w448 : Nat) : Int) := ileI rfl (nI_toInt (by omega)) c_453
                                          have hI_596 : ((c_400 : Nat) : Int) < ((v6w458 : Nat) : Int) := iltI (nI_toInt (by omega)) (nI_toInt (by omega)) c_464
                                          have hI_597 : ((v467 : Nat) : Int) ≤ ((v7w476 : Nat) : Int) := ileI (nI_toInt (by omega)) (nI_toInt (by omega)) c_481
                                          have hI_598 : ((v497 : Nat) : Int) ≤ ((v7w488 : Nat) : Int) := ileI (nI_toInt (by omega)) (nI_toInt (by omega)) c_498
                                          have hy4 : ∀ d : Nat, SX (k1 : Int32).toNatClampNeg 1 < (d : Int) → (d : Int) ≤ enD (SX (k1 : Int32).toNatClampNeg) (SY (k1 : Int32).toNatClampNeg) → ¬ opD (SY (k1 : Int32).toNatClampNeg) d := fun d h1 h2 => hall d h1 (by rw [hEd] at h2; omega)
                                          have hy5 : ∀ b, b < z2 → ¬ LAG PK PT SX SY (k1 : Int32).toNatClampNeg (enD (SX (k1 : Int32).toNatClampNeg) (SY (k1 : Int32).toNatClampNeg)) b := by rw [hEd]; have h9 := c_424; rw [nI_toInt (by omega)] at h9; exact h9
                                          have hyes : okCl z2 PK PT SX SY k1 := by unfold okCl okH; refine ⟨⟨?_, ?_⟩, ?_, ?_, ?_, ?_⟩ <;> first | omega | assumption
                                          have hA9 : HA (ax M b13 2) (ax M b13 3) := hAT.1
                                          have hB9 : HB (0 : Int) ((n_506 : Nat) : Int) (ax M b13 3) (ax M b13 43) := HB.zero hAT.2.1.nn.1 hn14
                                          have hC9 : HC (fx M b13 10) (ax M b13 22) g_589 := HC.insg hAT.2.2.1 (fun i hi => hg23 i hi)
                                          have hD9 : HD (fx M b13 0) (fx M b13 11) (0 : Int) (ax M b13 34) (ax M b13 41) := HD.clr hAT.2.2.2.1
                                          have hE9 : HE (fx M b13 0) ((c_400 : Nat) : Int) (fx M b13 12) (((v548 + 1) : Nat) : Int) (ax M b13 37) := HE.close hAT.2.2.2.2 hb13 (by omega) (by omega) (by rw [hT37])
                                          have hH9 : HI (va_up (va_up (va_up (va_up (va_up (va_up (va_up (fx M b13) 17 ((gnw488 : Nat) : Int)) 14 ((n_506 : Nat) : Int)) 15 (0 : Int)) 16 (0 : Int)) 1 ((c_400 : Nat) : Int)) 13 (((v548 + 1) : Nat) : Int)) 18 (1 : Int)) (va_up (va_up (va_up (va_up (va_up (va_up (ax M b13) 44 gpw488) 45 gqw488) 38 p_507) 39 q_508) 40 r_509) 23 g_589) := ⟨hA9, hB9, hC9, hD9, hE9⟩
                                          have hGI9 : GI K L z1 z2 M_586 := GI.fin hW0 i1 b2 hGI hact hV (hF.at i1 (by decide)) hH9
                                          have hX1 : (va_up (va_up (va_up (va_up (va_up (va_up (va_up (fx M b13) 17 ((gnw488 : Nat) : Int)) 14 ((n_506 : Nat) : Int)) 15 (0 : Int)) 16 (0 : Int)) 1 ((c_400 : Nat) : Int)) 13 (((v548 + 1) : Nat) : Int)) 18 (1 : Int)) 1 = ((c_400 : Nat) : Int) := rfl
                                          have hX13 : (va_up (va_up (va_up (va_up (va_up (va_up (va_up (fx M b13) 17 ((gnw488 : Nat) : Int)) 14 ((n_506 : Nat) : Int)) 15 (0 : Int)) 16 (0 : Int)) 1 ((c_400 : Nat) : Int)) 13 (((v548 + 1) : Nat) : Int)) 18 (1 : Int)) 13 = SX (k1 : Int32).toNatClampNeg 13 + 1 := by show (((v548 + 1) : Nat) : Int) = _; omega
                                          have hkp : kpF (nI (c_28 + 1)) (nI c_400) = clk (SX (k1 : Int32).toNatClampNeg 1) ((c_400 : Nat) : Int) := by funext z9; unfold kpF clk; rw [show (decide (nI (c_28 + 1) ≤ z9.2.1)) = decide (SX (k1 : Int32).toNatClampNeg 1 + 1 ≤ z9.2.1.toInt) from decide_eq_decide.mpr (by rw [Int32.le_iff_toInt_le, nI_toInt (by omega)]; omega), show (decide (z9.2.1 ≤ nI c_400)) = decide (z9.2.1.toInt ≤ ((c_400 : Nat) : Int)) from decide_eq_decide.mpr (by rw [Int32.le_iff_toInt_le, nI_toInt (by omega)])]
                                          have hX17 : (va_up (va_up (va_up (va_up (va_up (va_up (va_up (fx M b13) 17 ((gnw488 : Nat) : Int)) 14 ((n_506 : Nat) : Int)) 15 (0 : Int)) 16 (0 : Int)) 1 ((c_400 : Nat) : Int)) 13 (((v548 + 1) : Nat) : Int)) 18 (1 : Int)) 17 = cntC (SX (k1 : Int32).toNatClampNeg) (SY (k1 : Int32).toNatClampNeg) ((c_400 : Nat) : Int) := by show ((gnw488 : Nat) : Int) = _; unfold cntC; omega
                                          have hCLF : CLF (enD (SX (k1 : Int32).toNatClampNeg) (SY (k1 : Int32).toNatClampNeg)) (SX (k1 : Int32).toNatClampNeg) (SY (k1 : Int32).toNatClampNeg) (va_up (va_up (va_up (va_up (va_up (va_up (va_up (fx M b13) 17 ((gnw488 : Nat) : Int)) 14 ((n_506 : Nat) : Int)) 15 (0 : Int)) 16 (0 : Int)) 1 ((c_400 : Nat) : Int)) 13 (((v548 + 1) : Nat) : Int)) 18 (1 : Int)) (va_up (va_up (va_up (va_up (va_up (va_up (ax M b13) 44 gpw488) 45 gqw488) 38 p_507) 39 q_508) 40 r_509) 23 g_589) := by
                                            rw [hEd]
                                            refine ⟨congrFun hZk.1 0, hX1, congrFun hZk.1 10, congrFun hZk.1 11, congrFun hZk.1 12, hX13, rfl, rfl, hX17, ⟨n_506, rfl, ?_⟩, fun j q23 q38 q39 q40 q44 q45 => ?_, fun i hi => ?_, fun r i => (lKup _ r i _ _ (by decide)).trans ((lKup _ r i _ _ (by decide)).trans ((lKup _ r i _ _ (by decide)).trans ((lKup _ r i _ _ (by decide)).trans ((lKup _ r i _ _ (by decide)).trans ((lKup _ r i _ _ (by decide)).trans ((lKup _ r i _ _ (by decide)).trans (congrFun hZk.1 _)))))))⟩
                                            · rw [← hkp, show (SX (k1 : Int32).toNatClampNeg 14).toNat = n_510 by omega]; rw [← hZk.2]; exact htr8
                                            · rw [← hZk.2]; simp only [va_up_ne _ _ q23, va_up_ne _ _ q38, va_up_ne _ _ q39, va_up_ne _ _ q40, va_up_ne _ _ q44, va_up_ne _ _ q45]
                                            · rw [← hZk.2]; exact (hg23 i (by show (i : Int) < fx M b13 10; omega))
                                          rw [hQ]
                                          exact W.iret (v := (nI ((v548 + 1) - 1))) hx hb hr (fun t ht hW9 => ⟨⟨(nI ((v548 + 1) - 1)), M_586, rfl, ⟨hW, hF, hG, ⟨hGI9, (va_up (va_up (va_up (va_up (va_up (va_up (va_up (fx M b13) 17 ((gnw488 : Nat) : Int)) 14 ((n_506 : Nat) : Int)) 15 (0 : Int)) 16 (0 : Int)) 1 ((c_400 : Nat) : Int)) 13 (((v548 + 1) : Nat) : Int)) 18 (1 : Int)), (va_up (va_up (va_up (va_up (va_up (va_up (ax M b13) 44 gpw488) 45 gqw488) 38 p_507) 39 q_508) 40 r_509) 23 g_589), fun _ => hCLF, (by unfold sxCl syCl; rw [if_pos hyes, if_pos hyes]; exact ZSx.fin hW0 i1 b2 hZS hGI.1 hkn hb9 hV (hF.at i1 (by decide)) rfl rfl)⟩, (by unfold anCl; rw [if_pos hyes]; exact congrArg nI (by omega))⟩, ⟨0, (-1), zgw488, (by omega), (WHR.ok hyes), by rw [ht]; exact hP, hD⟩⟩, hS.F ht⟩) hS.2.2 dX13_close_366
                                        · have hz := rfl (a := 0)
                                          have n_599 : ¬ (v497 ≤ v7w488) := fun q => c_498 ((iLE (a := v497) (b := v7w488) (by omega) (by omega)).mpr q)
                                          obtain ⟨v600, hv600, hc600⟩ : ∃ v : Nat, fs496[17]? = some (.int (nI v) : Value) ∧ v ≤ 120 := hl496 17 (by decide)
                                          have hx17 : ((gnw488 : Nat) : Int) = ((v600 : Nat) : Int) := (congrFun hV.2.1 17).symm.trans ((fx_of hM496 rfl hv600).trans (nI_toInt (by omega)))
                                          have hx15 : (fx M b13 15) = ((v497 : Nat) : Int) := (congrFun hV.2.1 15).symm.trans ((fx_of hM496 rfl hv497).trans (nI_toInt (by omega)))
                                          refine lv_aload_n hx hb dX13_close_287 rfl (lv_at hl 6 rfl) ?_
                                          refine lv_aload_n hx hb dX13_close_288 rfl (lv_at hl 5 rfl) ?_
                                          refine lv_iload hx hb dX13_close_289 (lv_at hl 0 rfl) ?_
                                          have hPc : va_P D vwCl ([(za, (b13_0 0 z1 (nI z2) (nI z3) z4 z5 z6 z7 z8 z9 (nI z10) z11 z12 z13 z14 z15 (nI zgw488) z17 z18 z19))] ++ va_pl L M_494) H_495 := hP
                                          have hDc : va_D A ([(za, (b13_0 0 z1 (nI z2) (nI z3) z4 z5 z6 z7 z8 z9 (nI z10) z11 z12 z13 z14 z15 (nI zgw488) z17 z18 z19))] ++ va_pl L M_494) := hD
                                          have hFc : ∀ q, va_A ([(za, (b13_0 0 z1 (nI z2) (nI z3) z4 z5 z6 z7 z8 z9 (nI z10) z11 z12 z13 z14 z15 (nI zgw488) z17 z18 z19))] ++ va_pl L M_494) H_495.size q → A q := pg_free hDc hS hA
                                          refine va_callv (va_runV (As := [.ref b13, .int (nI v7w488)]) (rest := []) ⟨hx, hb, hml, hown, hg⟩ (g_X13_mended l D cy K L M_494 H_495.size za 0 z1 z2 z3 z4 z5 z6 z7 z8 z9 z10 z11 z12 z13 z14 z15 zgw488 z17 z18 z19 b13 v7w488  hW i1 b2 b3 i6 i7 i8 i9 b10 i11 i12 i13 i14 i15 (by omega) i17 i19 hb_15 (by omega) hV.2.2.2 ⟨_, _, hM496, hv600, by omega⟩ (by rw [hV.2.1]; exact h11) (by rw [hV.2.1, hV.2.2.1]; exact hAT.2.2.2.1) (by rw [hV.2.1]; show ((v7w488 : Nat) : Int) < fx M b13 15; omega)) (cwV 2 hg (gV wd_871 wd_872 wd_873 wd_717 wd_874) rfl rfl rfl (by decide +kernel) ⟨(Nat.le_trans (Nat.le_of_ble_eq_true rfl) hRf), (Nat.le_trans (Nat.le_of_ble_eq_true rfl) hRl)⟩) ⟨PG.blind, va_recv hK hP (ci := 13) (q0 := 0) rfl rfl, fun U hU hW => ⟨rfl, PG.at hPc hK hDc hN hU hW⟩⟩ rfl rfl hl.1 rfl (lv_room (Nat.le_of_ble_eq_true rfl)) dX13_close_291 ⟨(Nat.le_trans (Nat.le_of_ble_eq_true rfl) hRc), (Nat.le_trans (Nat.le_of_ble_eq_true rfl) hRs)⟩) hS (fun q _ h => hFc q h) hFc (fun M_603 t H_601 locs ht hvm hw hB hz1 hk1 hS => ?_)
                                          have hWb := hW
                                          obtain ⟨hW, hF2, hG2, hVP, hp_604⟩ := hw
                                          obtain ⟨w16_605, hg_606, hP1, hD1⟩ := hB
                                          rw [ht] at hP1
                                          have hP : va_P D vwCl ([(za, (b13_0 0 z1 (nI z2) (nI z3) z4 z5 z6 z7 z8 z9 (nI z10) z11 z12 z13 z14 z15 (nI w16_605) z17 z18 z19))] ++ va_pl L M_603) H_601 := hP1
                                          have hD : va_D A ([(za, (b13_0 0 z1 (nI z2) (nI z3) z4 z5 z6 z7 z8 z9 (nI z10) z11 z12 z13 z14 z15 (nI w16_605) z17 z18 z19))] ++ va_pl L M_603) := hD1.mono hFc
                                          obtain ⟨fs607, hM607, hn607, hl607⟩ := hW.open_12 hb_15
                                          have hv_608 : fs607[15]? = some (.int (nI v497) : Value) := (hG2 _ hb_15 _ _ hM496 hM607 15 (by decide)).trans hv497
                                          have hF : fr K L [12, 14, 15, 32, 42, 45, 46, 79, 80, 81, 83, 86, 87, 88, 89, 90, 91, 92, 93, 94, 95, 96, 97, 98, 99] M M_603 := hF.tr hF2 (by decide)
                                          have hG : fG K L [1, 7, 8, 13, 14, 15, 16, 17, 18] M M_603 := hG.tr hWb hG2 (by decide)
                                          obtain ⟨n_609, g_610, g_611, hn17, hV2⟩ := hVP
                                          rw [hV.2.1] at hn17
                                          rw [hV.2.1, hV.2.2.1] at hV2
                                          have hn17 : ((gnw488 : Nat) : Int) = (n_609 : Int) := hn17
                                          have hV : VW K L M M_603 b13 (va_up (va_up (fx M b13) 17 ((gnw488 : Nat) : Int)) 17 ((n_609 + 1 : Nat) : Int)) (va_up (va_up (va_up (va_up (ax M b13) 44 gpw488) 45 gqw488) 44 g_610) 45 g_611) := hV.tr hV2
                                          refine lv_iinc (v := (nI (v7w488 + 1))) (lv' := [(7, .int (nI (v7w488 + 1))), (6, .int (nI v467)), (5, .int (-1)), (4, .int (nI c_400)), (3, .int (nI (c_28 + 1))), (2, .ref b13), (0, .ref za), (1, .int k1)]) hx hb dX13_close_294 hl (k := 0) rfl (nI_1 v7w488) (by decide) rfl (fun ls hl => ?_)
                                          refine lv_goto (tgt := 278) hx hb dX13_close_297 (by decide) ?_
                                          exact ih_486 (v7w488 + 1) w16_605 (n_609 + 1) g_610 g_611 M_603 H_601 _ _ (by omega) (by omega) (by omega) (by omega) (by omega) (by omega) hW hF hG (by have h := hV; simp only [va_up_up] at h; rw [va_up_4] at h; exact h) hP hD hS (lv_sub hl [0, 1, 2, 3, 4, 5, 6, 7] rfl)
                                    exact key_485 (24 - 0 + 1) 0 zgw476 gnw458 gpw458 gqw458 M_479 H_480 _ _ (by omega) (by omega) (by omega) (by omega) (by omega) (by omega) hW hF hG hV hP hD hS (lv_sub hl [0, 1, 2, 3, 4, 5, 6, 7] rfl)
                                  · have hz := rfl (a := 0)
                                    have n_612 : ¬ (v467 ≤ v7w476) := fun q => c_481 ((iLE (a := v467) (b := v7w476) (by omega) (by omega)).mpr q)
                                    refine lv_aload_n hx hb dX13_close_261 rfl (lv_at hl 6 rfl) ?_
                                    refine lv_aload_n hx hb dX13_close_262 rfl (lv_at hl 5 rfl) ?_
                                    refine lv_iload hx hb dX13_close_263 (lv_at hl 0 rfl) ?_
                                    refine lv_iload_n hx hb dX13_close_265 rfl (lv_at hl 4 rfl) ?_
                                    have hPc : va_P D vwCl ([(za, (b13_0 0 z1 (nI z2) (nI z3) z4 z5 z6 z7 z8 z9 (nI z10) z11 z12 z13 z14 z15 (nI zgw476) z17 z18 z19))] ++ va_pl L M_479) H_480 := hP
                                    have hDc : va_D A ([(za, (b13_0 0 z1 (nI z2) (nI z3) z4 z5 z6 z7 z8 z9 (nI z10) z11 z12 z13 z14 z15 (nI zgw476) z17 z18 z19))] ++ va_pl L M_479) := hD
                                    have hFc : ∀ q, va_A ([(za, (b13_0 0 z1 (nI z2) (nI z3) z4 z5 z6 z7 z8 z9 (nI z10) z11 z12 z13 z14 z15 (nI zgw476) z17 z18 z19))] ++ va_pl L M_479) H_480.size q → A q := pg_free hDc hS hA
                                    refine va_callv (va_runV (As := [.ref b13, .int (nI v7w476), .int (nI (c_28 + 1))]) (rest := []) ⟨hx, hb, hml, hown, hg⟩ (g_X13_stretch l D cy K L M_479 H_480.size za 0 z1 z2 z3 z4 z5 z6 z7 z8 z9 z10 z11 z12 z13 z14 z15 zgw476 z17 z18 z19 b13 v7w476 (nI (c_28 + 1))  hW i1 b2 b3 i6 i7 i8 i9 b10 i11 i12 i13 i14 i15 (by omega) i17 i19 hb_15 (by omega) hV.2.2.2 (by rw [hV.2.1]; exact h11) (by rw [hV.2.1, hV.2.2.1]; exact hAT.2.2.2.1.1 h11) (by have hq9 := hs4 v7w476 (by omega); rw [hV.2.1, hV.2.2.1]; show fx M b13 0 ≤ (gpw458 v7w476).toInt; omega) (by have hq9 := hs4 v7w476 (by omega); rw [hV.2.2.1]; show (gpw458 v7w476).toInt + (gqw458 v7w476).toInt ≤ 1000; omega)) (cwV 3 hg (gV wd_875 wd_876 wd_877 wd_717 wd_878) rfl rfl rfl (by decide +kernel) ⟨(Nat.le_trans (Nat.le_of_ble_eq_true rfl) hRf), (Nat.le_trans (Nat.le_of_ble_eq_true rfl) hRl)⟩) ⟨PG.blind, va_recv hK hP (ci := 13) (q0 := 0) rfl rfl, fun U hU hW => ⟨rfl, PG.at hPc hK hDc hN hU hW⟩⟩ rfl rfl hl.1 rfl (lv_room (Nat.le_of_ble_eq_true rfl)) dX13_close_266 ⟨(Nat.le_trans (Nat.le_of_ble_eq_true rfl) hRc), (Nat.le_trans (Nat.le_of_ble_eq_true rfl) hRs)⟩) hS (fun q _ h => hFc q h) hFc (fun M_615 t H_613 locs ht hvm hw hB hz1 hk1 hS => ?_)
                                    have hWb := hW
                                    obtain ⟨hW, hF2, hG2, hp_616⟩ := hw
                                    obtain ⟨w16_617, hg_618, hP1, hD1⟩ := hB
                                    rw [ht] at hP1
                                    have hP : va_P D vwCl ([(za, (b13_0 0 z1 (nI z2) (nI z3) z4 z5 z6 z7 z8 z9 (nI z10) z11 z12 z13 z14 z15 (nI w16_617) z17 z18 z19))] ++ va_pl L M_615) H_613 := hP1
                                    have hD : va_D A ([(za, (b13_0 0 z1 (nI z2) (nI z3) z4 z5 z6 z7 z8 z9 (nI z10) z11 z12 z13 z14 z15 (nI w16_617) z17 z18 z19))] ++ va_pl L M_615) := hD1.mono hFc
                                    have hF : fr K L [12, 14, 15, 32, 42, 45, 46, 79, 80, 81, 83, 86, 87, 88, 89, 90, 91, 92, 93, 94, 95, 96, 97, 98, 99] M M_615 := hF.tr hF2 (by decide)
                                    have hG : fG K L [1, 7, 8, 13, 14, 15, 16, 17, 18] M M_615 := hG.tr hWb hG2 (by decide)
                                    have hV : VW K L M M_615 b13 (va_up (fx M b13) 17 ((gnw458 : Nat) : Int)) (va_up (va_up (ax M b13) 44 gpw458) 45 gqw458) := hV.cal hWb hW hF2 hG2 (by decide) (by decide) hb_15
                                    refine lv_iinc (v := (nI (v7w476 + 1))) (lv' := [(7, .int (nI (v7w476 + 1))), (6, .int (nI v467)), (5, .int (-1)), (4, .int (nI c_400)), (3, .int (nI (c_28 + 1))), (2, .ref b13), (0, .ref za), (1, .int k1)]) hx hb dX13_close_269 hl (k := 0) rfl (nI_1 v7w476) (by decide) rfl (fun ls hl => ?_)
                                    refine lv_goto (tgt := 254) hx hb dX13_close_272 (by decide) ?_
                                    exact ih_474 (v7w476 + 1) w16_617 M_615 H_613 _ _ (by omega) (by omega) (by omega) hW hF hG hV hP hD hS (lv_sub hl [0, 1, 2, 3, 4, 5, 6, 7] rfl)
                              exact key_473 (1001 - 0 + 1) 0 z16 M_470 H_468 _ _ (by omega) (by omega) (by omega) hW hF hG hV hP hD hS (lv_sub hl [0, 1, 2, 3, 4, 5, 6, 7] rfl)
                            · have hz := rfl (a := 0)
                              have n_619 : ¬ (c_400 < v6w458) := fun q => c_464 ((iLT (a := c_400) (b := v6w458) (by omega) (by omega)).mpr q)
                              obtain ⟨fs620, hM620, hn620, hl620⟩ := hW.open_12 hb_15
                              obtain ⟨v621, hv621, hc621⟩ : ∃ v : Nat, fs620[17]? = some (.int (nI v) : Value) ∧ v ≤ 120 := hl620 17 (by decide)
                              have hx17 : ((gnw458 : Nat) : Int) = ((v621 : Nat) : Int) := (congrFun hV.2.1 17).symm.trans ((fx_of hM620 rfl hv621).trans (nI_toInt (by omega)))
                              obtain ⟨v622, hv622, hc622⟩ : ∃ v : Nat, fs620[44]? = some (.ref v : Value) ∧ isk K L v 45 120 := hl620 44 (by decide)
                              obtain ⟨f623, hM623, hf623⟩ := hW.open_45 hc622
                              have hy44 : gpw458 = f623 := (congrFun hV.2.2.1 44).symm.trans (ax_of hM620 (by decide) hv622 hM623)
                              obtain ⟨v624, hv624, hc624⟩ : ∃ v : Nat, fs620[45]? = some (.ref v : Value) ∧ isk K L v 46 120 := hl620 45 (by decide)
                              obtain ⟨f625, hM625, hf625⟩ := hW.open_46 hc624
                              have hy45 : gqw458 = f625 := (congrFun hV.2.2.1 45).symm.trans (ax_of hM620 (by decide) hv624 hM625)
                              have hSD := hx_461
                              obtain ⟨hs1, hs2, hs3, hs4⟩ := hx_461
                              have hgn : v621 = gnw458 := by omega
                              refine lv_iload hx hb dX13_close_171 (lv_at hl 0 rfl) ?_
                              refine lv_iload_n hx hb dX13_close_173 rfl (lv_at hl 3 rfl) ?_
                              refine lv_icmp_eq (tgt := 186) hx hb dX13_close_174 (by decide) (fun c_626 => ?_) (fun c_626 => ?_)
                              · have hz := rfl (a := 0)
                                have n_627 : v6w458 = (c_28 + 1) := (iEQ (a := v6w458) (b := (c_28 + 1)) (by omega) (by omega)).mp c_626
                                refine lv_aload_n hx hb dX13_close_186 rfl (lv_at hl 4 rfl) ?_
                                refine pg_getN (D := D) (ci := 12) (v := .ref v622) (C := RX12) (T := TX12) (N := 51) hx hb hg inG12 hown hK hP hb_15.1 hM620 rfl 44 (by decide) (hN.use (Cond.fieldLinkNest RX13 265 RX12 "stretchDay" "[I" RX13) 53 rfl rfl) (fun _ h9 => h9) hv622 dX13_close_187 ?_
                                refine lv_aload_n hx hb dX13_close_190 rfl (lv_at hl 4 rfl) ?_
                                refine pg_getN (D := D) (ci := 12) (v := .int (nI v621)) (C := RX12) (T := TX12) (N := 51) hx hb hg inG12 hown hK hP hb_15.1 hM620 rfl 17 (by decide) (hN.use (Cond.fieldLinkNest RX13 256 RX12 "stretches" "I" RX13) 26 rfl rfl) (fun _ h9 => h9) hv621 dX13_close_191 ?_
                                refine lv_iload hx hb dX13_close_194 (lv_at hl 0 rfl) ?_
                                refine pg_iast hx hb hK hP hD hS hc622.1 0 hM623 rfl (inbN v621 120 (by omega) (by omega)) dX13_close_196 (fun H_628 locs hP hD hS => ?_)
                                obtain ⟨M_629, eM_629⟩ : ∃ M1 : Hp, M1 = va_up M_462 v622 (.inl (cy 14, 120, .inl (upd f623 ((nI v621) : Int32).toNatClampNeg (nI v6w458)))) := ⟨_, rfl⟩
                                have hy44 : gpw458 = f623 := (congrFun hV.2.2.1 44).symm.trans (ax_of hM620 (by decide) hv622 hM623)
                                have hV : VW K L M M_629 b13 (va_up (fx M b13) 17 ((gnw458 : Nat) : Int)) (va_up (va_up (va_up (ax M b13) 44 gpw458) 45 gqw458) 44 (upd gpw458 ((nI v621) : Int32).toNatClampNeg (nI v6w458))) := by rw [eM_629]; exact hV.ast (j := 44) hW hb_15 hM620 (by decide) hv622 hc622 hM623
                                have hP : va_P D vwCl ([(za, (b13_0 0 z1 (nI z2) (nI z3) z4 z5 z6 z7 z8 z9 (nI z10) z11 z12 z13 z14 z15 (nI z16) z17 z18 z19))] ++ va_pl L M_629) H_628 := by rw [eM_629]; exact hP
                                have hD : va_D A ([(za, (b13_0 0 z1 (nI z2) (nI z3) z4 z5 z6 z7 z8 z9 (nI z10) z11 z12 z13 z14 z15 (nI z16) z17 z18 z19))] ++ va_pl L M_629) := by rw [eM_629]; exact hD
                                have hW : WOM cy K L M_629 := by rw [eM_629]; exact hW.up_45 hc622 ⟨_, rfl, (updP (P := fun z => ∃ c : Nat, c < 1000 ∧ z = nI c) hf623 ⟨v6w458, by omega, rfl⟩)⟩
                                have hF : fr K L [12, 14, 15, 32, 42, 45, 46, 79, 80, 81, 83, 86, 87, 88, 89, 90, 91, 92, 93, 94, 95, 96, 97, 98, 99] M M_629 := by rw [eM_629]; exact hF.up hc622 (by decide)
                                have hG : fG K L [1, 7, 8, 13, 14, 15, 16, 17, 18] M M_629 := by rw [eM_629]; exact hG.arr hc622 (by decide)
                                have hM_630 : M_629 v622 = .inl (cy 14, 120, .inl (upd f623 ((nI v621) : Int32).toNatClampNeg (nI v6w458))) := by rw [eM_629]; exact va_up_self _ _ _
                                have hM_631 : M_629 b13 = .inr (12, fs620) := by rw [eM_629, va_up_ne _ _ (hb_15.neT hc622 (by decide))]; exact hM620
                                have hM_632 : M_629 v624 = .inl (cy 14, 120, .inl (f625)) := by rw [eM_629, va_up_ne _ _ (hc624.neT hc622 (by decide))]; exact hM625
                                have hf_634 : ∀ j, j < 120 → ∃ c : Nat, c < 1000 ∧ (upd f623 ((nI v621) : Int32).toNatClampNeg (nI v6w458)) j = nI c := (updP (P := fun z => ∃ c : Nat, c < 1000 ∧ z = nI c) hf623 ⟨v6w458, by omega, rfl⟩)
                                obtain ⟨f_633, ef_633⟩ : ∃ f : Nat → Int32, f = upd f623 ((nI v621) : Int32).toNatClampNeg (nI v6w458) := ⟨_, rfl⟩
                                rw [← ef_633] at hM_630 hf_634
                                refine lv_aload_n hx hb dX13_close_197 rfl (lv_at hl 4 rfl) ?_
                                refine pg_getN (D := D) (ci := 12) (v := .ref v624) (C := RX12) (T := TX12) (N := 51) hx hb hg inG12 hown hK hP hb_15.1 hM_631 rfl 45 (by decide) (hN.use (Cond.fieldLinkNest RX13 268 RX12 "stretchDays" "[I" RX13) 54 rfl rfl) (fun _ h9 => h9) hv624 dX13_close_198 ?_
                                refine lv_aload_n hx hb dX13_close_201 rfl (lv_at hl 4 rfl) ?_
                                refine pg_getN (D := D) (ci := 12) (v := .int (nI v621)) (C := RX12) (T := TX12) (N := 51) hx hb hg inG12 hown hK hP hb_15.1 hM_631 rfl 17 (by decide) (hN.use (Cond.fieldLinkNest RX13 256 RX12 "stretches" "I" RX13) 26 rfl rfl) (fun _ h9 => h9) hv621 dX13_close_202 ?_
                                refine lv_iconst (v := 0) hx hb dX13_close_205 (by decide) ?_
                                refine pg_iast hx hb hK hP hD hS hc624.1 0 hM_632 rfl (inbN v621 120 (by omega) (by omega)) dX13_close_206 (fun H_635 locs hP hD hS => ?_)
                                obtain ⟨M_636, eM_636⟩ : ∃ M1 : Hp, M1 = va_up M_629 v624 (.inl (cy 14, 120, .inl (upd f625 ((nI v621) : Int32).toNatClampNeg 0))) := ⟨_, rfl⟩
                                have hy45 : gqw458 = f625 := (congrFun hV.2.2.1 45).symm.trans (ax_of hM_631 (by decide) hv624 hM_632)
                                have hV : VW K L M M_636 b13 (va_up (fx M b13) 17 ((gnw458 : Nat) : Int)) (va_up (va_up (va_up (va_up (ax M b13) 44 gpw458) 45 gqw458) 44 (upd gpw458 ((nI v621) : Int32).toNatClampNeg (nI v6w458))) 45 (upd gqw458 ((nI v621) : Int32).toNatClampNeg 0)) := by rw [eM_636]; exact hV.ast (j := 45) hW hb_15 hM_631 (by decide) hv624 hc624 hM_632
                                have hP : va_P D vwCl ([(za, (b13_0 0 z1 (nI z2) (nI z3) z4 z5 z6 z7 z8 z9 (nI z10) z11 z12 z13 z14 z15 (nI z16) z17 z18 z19))] ++ va_pl L M_636) H_635 := by rw [eM_636]; exact hP
                                have hD : va_D A ([(za, (b13_0 0 z1 (nI z2) (nI z3) z4 z5 z6 z7 z8 z9 (nI z10) z11 z12 z13 z14 z15 (nI z16) z17 z18 z19))] ++ va_pl L M_636) := by rw [eM_636]; exact hD
                                have hW : WOM cy K L M_636 := by rw [eM_636]; exact hW.up_46 hc624 ⟨_, rfl, (updP (P := fun z => ∃ c : Nat, c < 1001 ∧ z = nI c) hf625 ⟨0, by omega, rfl⟩)⟩
                                have hF : fr K L [12, 14, 15, 32, 42, 45, 46, 79, 80, 81, 83, 86, 87, 88, 89, 90, 91, 92, 93, 94, 95, 96, 97, 98, 99] M M_636 := by rw [eM_636]; exact hF.up hc624 (by decide)
                                have hG : fG K L [1, 7, 8, 13, 14, 15, 16, 17, 18] M M_636 := by rw [eM_636]; exact hG.arr hc624 (by decide)
                                have hM_637 : M_636 v624 = .inl (cy 14, 120, .inl (upd f625 ((nI v621) : Int32).toNatClampNeg 0)) := by rw [eM_636]; exact va_up_self _ _ _
                                have hM_638 : M_636 v622 = .inl (cy 14, 120, .inl (f_633)) := by rw [eM_636, va_up_ne _ _ (hc622.neT hc624 (by decide))]; exact hM_630
                                have hM_639 : M_636 b13 = .inr (12, fs620) := by rw [eM_636, va_up_ne _ _ (hb_15.neT hc624 (by decide))]; exact hM_631
                                have hf_641 : ∀ j, j < 120 → ∃ c : Nat, c < 1001 ∧ (upd f625 ((nI v621) : Int32).toNatClampNeg 0) j = nI c := (updP (P := fun z => ∃ c : Nat, c < 1001 ∧ z = nI c) hf625 ⟨0, by omega, rfl⟩)
                                obtain ⟨f_640, ef_640⟩ : ∃ f : Nat → Int32, f = upd f625 ((nI v621) : Int32).toNatClampNeg 0 := ⟨_, rfl⟩
                                rw [← ef_640] at hM_637 hf_641
                                refine lv_aload_n hx hb dX13_close_207 rfl (lv_at hl 4 rfl) ?_
                                refine lv_dup hx hb dX13_close_208 rfl ?_
                                refine pg_getN (D := D) (ci := 12) (v := .int (nI v621)) (C := RX12) (T := TX12) (N := 51) hx hb hg inG12 hown hK hP hb_15.1 hM_639 rfl 17 (by decide) (hN.use (Cond.fieldLinkNest RX13 256 RX12 "stretches" "I" RX13) 26 rfl rfl) (fun _ h9 => h9) hv621 dX13_close_209 ?_
                                refine lv_iconst (v := 1) hx hb dX13_close_212 (by decide) ?_
                                refine lv_iadd hx hb dX13_close_213 ?_
                                refine lv_topi (fun f_642 ef_642 => ?_)
                                obtain rfl : f_642 = (nI (v621 + 1)) := ef_642.trans (nI_add v621 1)
                                refine pg_putN (D := D) (ci := 12) (v := .int (nI (v621 + 1))) (ty := .int) (C := RX12) (T := TX12) (N := 51) hx hb hg inG12 tyX12 tyX12_ok nmX12 hown hK hP hD hS hb_15.1 hM_639 rfl 17 (by decide) (hN.use (Cond.fieldLinkNest RX13 256 RX12 "stretches" "I" RX13) 26 rfl rfl) (fun _ h9 => h9) rfl (by decide +kernel) rfl rfl (by rw [hn620]; decide) dX13_close_214 (fun H_643 locs hP hD hS => ?_)
                                have hs_646 : (fs620.set 17 (.int (nI (v621 + 1))))[17]? = some (.int (nI (v621 + 1))) := List.getElem?_set_self (by rw [hn620]; decide)
                                have hk_645 := fld12_set (k := 17) (w := .int (nI (v621 + 1))) hl620 (show fld12 K L 17 (fs620.set 17 (.int (nI (v621 + 1)))) from ⟨(v621 + 1), hs_646, by omega⟩)
                                have hn_647 : (fs620.set 17 (.int (nI (v621 + 1)))).length = 51 := by rw [List.length_set]; exact hn620
                                have hv_648 : (fs620.set 17 (.int (nI (v621 + 1))))[44]? = some (.ref v622) := by rw [List.getElem?_set_ne (by decide)]; exact hv622
                                have hv_649 : (fs620.set 17 (.int (nI (v621 + 1))))[45]? = some (.ref v624) := by rw [List.getElem?_set_ne (by decide)]; exact hv624
                                have hb_650 : (v621 + 1) ≤ 120 := by omega
                                obtain ⟨M_651, eM_651⟩ : ∃ M1 : Hp, M1 = va_up M_636 b13 (.inr (12, fs620.set 17 (.int (nI (v621 + 1))))) := ⟨_, rfl⟩
                                have hx17 : ((gnw458 : Nat) : Int) = ((v621 : Nat) : Int) := (congrFun hV.2.1 17).symm.trans ((fx_of hM_639 rfl hv621).trans (nI_toInt (by omega)))
                                have hV : VW K L M M_651 b13 (va_up (va_up (fx M b13) 17 ((gnw458 : Nat) : Int)) 17 (((v621 + 1) : Nat) : Int)) (va_up (va_up (va_up (va_up (ax M b13) 44 gpw458) 45 gqw458) 44 (upd gpw458 ((nI v621) : Int32).toNatClampNeg (nI v6w458))) 45 (upd gqw458 ((nI v621) : Int32).toNatClampNeg 0)) := by rw [eM_651]; exact hV.put hW hb_15 hM_639 hn620 rfl (by decide) rfl (nI_toInt (by omega))
                                have hP : va_P D vwCl ([(za, (b13_0 0 z1 (nI z2) (nI z3) z4 z5 z6 z7 z8 z9 (nI z10) z11 z12 z13 z14 z15 (nI z16) z17 z18 z19))] ++ va_pl L M_651) H_643 := by rw [eM_651]; exact hP
                                have hD : va_D A ([(za, (b13_0 0 z1 (nI z2) (nI z3) z4 z5 z6 z7 z8 z9 (nI z10) z11 z12 z13 z14 z15 (nI z16) z17 z18 z19))] ++ va_pl L M_651) := by rw [eM_651]; exact hD
                                have hW : WOM cy K L M_651 := by rw [eM_651]; exact hW.up_12 hb_15 ⟨_, rfl, hn_647, hk_645⟩
                                have hF : fr K L [12, 14, 15, 32, 42, 45, 46, 79, 80, 81, 83, 86, 87, 88, 89, 90, 91, 92, 93, 94, 95, 96, 97, 98, 99] M M_651 := by rw [eM_651]; exact hF.up hb_15 (by decide)
                                have hG : fG K L [1, 7, 8, 13, 14, 15, 16, 17, 18] M M_651 := by rw [eM_651]; exact hG.up hM_639 (by decide)
                                have hM_652 : M_651 b13 = .inr (12, fs620.set 17 (.int (nI (v621 + 1)))) := by rw [eM_651]; exact va_up_self _ _ _
                                have hM_653 : M_651 v624 = .inl (cy 14, 120, .inl (f_640)) := by rw [eM_651, va_up_ne _ _ (hc624.neT hb_15 (by decide))]; exact hM_637
                                have hM_654 : M_651 v622 = .inl (cy 14, 120, .inl (f_633)) := by rw [eM_651, va_up_ne _ _ (hc622.neT hb_15 (by decide))]; exact hM_638
                                refine lv_aload_n hx hb dX13_close_217 rfl (lv_at hl 4 rfl) ?_
                                refine pg_getN (D := D) (ci := 12) (v := .ref v624) (C := RX12) (T := TX12) (N := 51) hx hb hg inG12 hown hK hP hb_15.1 hM_652 rfl 45 (by decide) (hN.use (Cond.fieldLinkNest RX13 268 RX12 "stretchDays" "[I" RX13) 54 rfl rfl) (fun _ h9 => h9) hv_649 dX13_close_218 ?_
                                refine lv_aload_n hx hb dX13_close_221 rfl (lv_at hl 4 rfl) ?_
                                refine pg_getN (D := D) (ci := 12) (v := .int (nI (v621 + 1))) (C := RX12) (T := TX12) (N := 51) hx hb hg inG12 hown hK hP hb_15.1 hM_652 rfl 17 (by decide) (hN.use (Cond.fieldLinkNest RX13 256 RX12 "stretches" "I" RX13) 26 rfl rfl) (fun _ h9 => h9) hs_646 dX13_close_222 ?_
                                refine lv_iconst (v := 1) hx hb dX13_close_225 (by decide) ?_
                                refine lv_isub hx hb dX13_close_226 ?_
                                refine lv_topi (fun f_655 ef_655 => ?_)
                                obtain rfl : f_655 = (nI ((v621 + 1) - 1)) := ef_655.trans (nI_prd (by omega))
                                refine lv_dup2_11 hx hb dX13_close_227 rfl rfl ?_
                                have hi_656 : vp_in (nI ((v621 + 1) - 1)) 120 := (inbN ((v621 + 1) - 1) 120 (by omega) (by omega))
                                refine pg_iald hx hb hK hP hc624.1 0 hM_653 rfl hi_656 dX13_close_228 ?_
                                have hp_657 := hf_641 _ (vp_lt hi_656)
                                obtain ⟨c_658, hc_659, ec_660⟩ := hp_657
                                rw [ec_660]
                                have hy45 : (upd gqw458 ((nI v621) : Int32).toNatClampNeg 0) = f_640 := (congrFun hV.2.2.1 45).symm.trans (ax_of hM_652 (by decide) hv_649 hM_653)
                                have hec : (upd gqw458 ((nI v621) : Int32).toNatClampNeg 0) ((nI ((v621 + 1) - 1)) : Int32).toNatClampNeg = nI c_658 := by rw [hy45]; exact ec_660
                                have hcc : c_658 = 0 := updz (n := v621) (nI_cl (by omega)) ((nI_cl (by omega)).trans (by omega)) hec (by omega)
                                refine lv_iconst (v := 1) hx hb dX13_close_229 (by decide) ?_
                                refine lv_iadd hx hb dX13_close_230 ?_
                                refine lv_topi (fun f_661 ef_661 => ?_)
                                obtain rfl : f_661 = (nI (c_658 + 1)) := ef_661.trans (nI_add c_658 1)
                                refine pg_iast hx hb hK hP hD hS hc624.1 0 hM_653 rfl (inbN ((v621 + 1) - 1) 120 (by omega) (by omega)) dX13_close_231 (fun H_662 locs hP hD hS => ?_)
                                obtain ⟨M_663, eM_663⟩ : ∃ M1 : Hp, M1 = va_up M_651 v624 (.inl (cy 14, 120, .inl (upd f_640 ((nI ((v621 + 1) - 1)) : Int32).toNatClampNeg (nI (c_658 + 1))))) := ⟨_, rfl⟩
                                have hy45 : (upd gqw458 ((nI v621) : Int32).toNatClampNeg 0) = f_640 := (congrFun hV.2.2.1 45).symm.trans (ax_of hM_652 (by decide) hv_649 hM_653)
                                have hV : VW K L M M_663 b13 (va_up (va_up (fx M b13) 17 ((gnw458 : Nat) : Int)) 17 (((v621 + 1) : Nat) : Int)) (va_up (va_up (va_up (va_up (va_up (ax M b13) 44 gpw458) 45 gqw458) 44 (upd gpw458 ((nI v621) : Int32).toNatClampNeg (nI v6w458))) 45 (upd gqw458 ((nI v621) : Int32).toNatClampNeg 0)) 45 (upd (upd gqw458 ((nI v621) : Int32).toNatClampNeg 0) ((nI ((v621 + 1) - 1)) : Int32).toNatClampNeg (nI (c_658 + 1)))) := by rw [eM_663]; exact hV.ast (j := 45) hW hb_15 hM_652 (by decide) hv_649 hc624 hM_653
                                have hP : va_P D vwCl ([(za, (b13_0 0 z1 (nI z2) (nI z3) z4 z5 z6 z7 z8 z9 (nI z10) z11 z12 z13 z14 z15 (nI z16) z17 z18 z19))] ++ va_pl L M_663) H_662 := by rw [eM_663]; exact hP
                                have hD : va_D A ([(za, (b13_0 0 z1 (nI z2) (nI z3) z4 z5 z6 z7 z8 z9 (nI z10) z11 z12 z13 z14 z15 (nI z16) z17 z18 z19))] ++ va_pl L M_663) := by rw [eM_663]; exact hD
                                have hW : WOM cy K L M_663 := by rw [eM_663]; exact hW.up_46 hc624 ⟨_, rfl, (updP (P := fun z => ∃ c : Nat, c < 1001 ∧ z = nI c) hf_641 ⟨(c_658 + 1), by omega, rfl⟩)⟩
                                have hF : fr K L [12, 14, 15, 32, 42, 45, 46, 79, 80, 81, 83, 86, 87, 88, 89, 90, 91, 92, 93, 94, 95, 96, 97, 98, 99] M M_663 := by rw [eM_663]; exact hF.up hc624 (by decide)
                                have hG : fG K L [1, 7, 8, 13, 14, 15, 16, 17, 18] M M_663 := by rw [eM_663]; exact hG.arr hc624 (by decide)
                                have hM_664 : M_663 v624 = .inl (cy 14, 120, .inl (upd f_640 ((nI ((v621 + 1) - 1)) : Int32).toNatClampNeg (nI (c_658 + 1)))) := by rw [eM_663]; exact va_up_self _ _ _
                                have hM_665 : M_663 b13 = .inr (12, fs620.set 17 (.int (nI (v621 + 1)))) := by rw [eM_663, va_up_ne _ _ (hb_15.neT hc624 (by decide))]; exact hM_652
                                have hM_666 : M_663 v622 = .inl (cy 14, 120, .inl (f_633)) := by rw [eM_663, va_up_ne _ _ (hc622.neT hc624 (by decide))]; exact hM_654
                                have hf_668 : ∀ j, j < 120 → ∃ c : Nat, c < 1001 ∧ (upd f_640 ((nI ((v621 + 1) - 1)) : Int32).toNatClampNeg (nI (c_658 + 1))) j = nI c := (updP (P := fun z => ∃ c : Nat, c < 1001 ∧ z = nI c) hf_641 ⟨(c_658 + 1), by omega, rfl⟩)
                                obtain ⟨f_667, ef_667⟩ : ∃ f : Nat → Int32, f = upd f_640 ((nI ((v621 + 1) - 1)) : Int32).toNatClampNeg (nI (c_658 + 1)) := ⟨_, rfl⟩
                                rw [← ef_667] at hM_664 hf_668
                                refine lv_iinc (v := (nI (v6w458 + 1))) (lv' := [(6, .int (nI (v6w458 + 1))), (5, .int (-1)), (4, .int (nI c_400)), (3, .int (nI (c_28 + 1))), (2, .ref b13), (0, .ref za), (1, .int k1)]) hx hb dX13_close_232 hl (k := 0) rfl (nI_1 v6w458) (by decide) rfl (fun ls hl => ?_)
                                refine lv_goto (tgt := 164) hx hb dX13_close_235 (by decide) ?_
                                have hDe : (SX (k1 : Int32).toNatClampNeg 1 + 1 + ((v6w458 - (c_28 + 1) : Nat) : Int)) = ((v6w458 : Nat) : Int) := by omega
                                have hst : nst (prt (SX (k1 : Int32).toNatClampNeg) (SY (k1 : Int32).toNatClampNeg)) (SX (k1 : Int32).toNatClampNeg 1 + 1) (v6w458 + 1 - (c_28 + 1)) = nst (prt (SX (k1 : Int32).toNatClampNeg) (SY (k1 : Int32).toNatClampNeg)) (SX (k1 : Int32).toNatClampNeg 1 + 1) (v6w458 - (c_28 + 1)) + 1 := by rw [show v6w458 + 1 - (c_28 + 1) = (v6w458 - (c_28 + 1)) + 1 by omega]; exact nst_yes (Or.inl (by omega))
                                exact ih_456 (v6w458 + 1) (v621 + 1) (upd gpw458 ((nI v621) : Int32).toNatClampNeg (nI v6w458)) (upd (upd gqw458 ((nI v621) : Int32).toNatClampNeg 0) ((nI ((v621 + 1) - 1)) : Int32).toNatClampNeg (nI (c_658 + 1))) M_663 H_662 _ _ (by omega) (by omega) (by rw [hst, ← hx_460]; omega) (by have h := SD.new hSD (by omega) (show (nI v621).toNatClampNeg = gnw458 from (nI_cl (by omega)).trans (by omega)) (show (nI ((v621 + 1) - 1)).toNatClampNeg = gnw458 from (nI_cl (by omega)).trans (by omega)) hcc; rw [← hgn] at h; exact h) hW hF hG (by have h := hV; simp only [va_up_up] at h; rw [va_up_4] at h; exact h) hP hD hS (lv_sub hl [0, 1, 2, 3, 4, 5, 6] rfl)
                              · have hz := rfl (a := 0)
                                have n_669 : ¬ (v6w458 = (c_28 + 1)) := fun q => c_626 ((iEQ (a := v6w458) (b := (c_28 + 1)) (by omega) (by omega)).mpr q)
                                refine lv_aload_n hx hb dX13_close_177 rfl (lv_at hl 4 rfl) ?_
                                refine lv_iload hx hb dX13_close_178 (lv_at hl 0 rfl) ?_
                                have hPc : va_P D vwCl ([] ++ va_pl L M_462) H_463 := hP.part (cx := []) [] rfl
                                have hDc : va_D A ([] ++ va_pl L M_462) := hD.part (cx := []) [] (by decide) rfl
                                have hFc : ∀ q, va_A ([] ++ va_pl L M_462) H_463.size q → A q := pg_free hDc hS hA
                                refine va_calli (va_runS (As := [.ref b13, .int (nI v6w458)]) (rest := []) ⟨hx, hb, hml, hown, hg⟩ (z_parted l D cy K L M_462 H_463.size b13 (nI v6w458)  hW hb_15) (va_cwS 2 hg (gS wd_879 wd_880 wd_717 wd_881) rfl rfl rfl (by decide +kernel) ⟨(Nat.le_trans (Nat.le_of_ble_eq_true rfl) hRf), (Nat.le_trans (Nat.le_of_ble_eq_true rfl) hRl)⟩) ⟨PG.blind, fun U hU hW => ⟨rfl, PG.at hPc hK hDc hN hU hW⟩⟩ rfl rfl hl.1 rfl (lv_room (Nat.le_of_ble_eq_true rfl)) dX13_close_180 ⟨(Nat.le_trans (Nat.le_of_ble_eq_true rfl) hRc), (Nat.le_trans (Nat.le_of_ble_eq_true rfl) hRs)⟩) hS (fun q _ h => hFc q h) hFc (fun r_671 M_672 t H_670 locs ht hvm hw hB hz1 hk1 hS => ?_)
                                have hp_673 := hw
                                obtain ⟨hP1, hD1⟩ := hB
                                rw [ht] at hP1
                                obtain ⟨hP, hD⟩ := va_joinP (X := [(za, (b13_0 0 z1 (nI z2) (nI z3) z4 z5 z6 z7 z8 z9 (nI z10) z11 z12 z13 z14 z15 (nI z16) z17 z18 z19))]) (cx := []) (wr := [(za, (b13_0 0 z1 (nI z2) (nI z3) z4 z5 z6 z7 z8 z9 (nI z10) z11 z12 z13 z14 z15 (nI z16) z17 z18 z19))]) (rx := []) (pl := va_pl L M_462) (pl1 := va_pl L M_462) hP hD [] [0] rfl rfl (by decide) (by decide) hk1 hFc hP1 hD1
                                have hP : va_P D vwCl ([(za, (b13_0 0 z1 (nI z2) (nI z3) z4 z5 z6 z7 z8 z9 (nI z10) z11 z12 z13 z14 z15 (nI z16) z17 z18 z19))] ++ va_pl L M_462) H_670 := hP
                                have hD : va_D A ([(za, (b13_0 0 z1 (nI z2) (nI z3) z4 z5 z6 z7 z8 z9 (nI z10) z11 z12 z13 z14 z15 (nI z16) z17 z18 z19))] ++ va_pl L M_462) := hD
                                rcases hp_673 with ⟨rfl, c_674⟩ | ⟨rfl, c_675⟩
                                · have hz := rfl (a := 0)
                                  have hpp : (prt (SX (k1 : Int32).toNatClampNeg) (SY (k1 : Int32).toNatClampNeg)) ((v6w458 : Nat) : Int) := by have h9 := c_674; rw [hV.2.1, hV.2.2.1, nI_toInt (by omega)] at h9; rw [← hZk.1, ← hZk.2]; exact (prt_cg rfl rfl rfl rfl rfl rfl rfl).mp h9
                                  refine lv_if_eq (tgt := 217) hx hb dX13_close_183 (by decide) (fun c_676 => absurd c_676 (by decide)) (fun _ => ?_)
                                  refine lv_aload_n hx hb dX13_close_186 rfl (lv_at hl 4 rfl) ?_
                                  refine pg_getN (D := D) (ci := 12) (v := .ref v622) (C := RX12) (T := TX12) (N := 51) hx hb hg inG12 hown hK hP hb_15.1 hM620 rfl 44 (by decide) (hN.use (Cond.fieldLinkNest RX13 265 RX12 "stretchDay" "[I" RX13) 53 rfl rfl) (fun _ h9 => h9) hv622 dX13_close_187 ?_
                                  refine lv_aload_n hx hb dX13_close_190 rfl (lv_at hl 4 rfl) ?_
                                  refine pg_getN (D := D) (ci := 12) (v := .int (nI v621)) (C := RX12) (T := TX12) (N := 51) hx hb hg inG12 hown hK hP hb_15.1 hM620 rfl 17 (by decide) (hN.use (Cond.fieldLinkNest RX13 256 RX12 "stretches" "I" RX13) 26 rfl rfl) (fun _ h9 => h9) hv621 dX13_close_191 ?_
                                  refine lv_iload hx hb dX13_close_194 (lv_at hl 0 rfl) ?_
                                  refine pg_iast hx hb hK hP hD hS hc622.1 0 hM623 rfl (inbN v621 120 (by omega) (by omega)) dX13_close_196 (fun H_677 locs hP hD hS => ?_)
                                  obtain ⟨M_678, eM_678⟩ : ∃ M1 : Hp, M1 = va_up M_462 v622 (.inl (cy 14, 120, .inl (upd f623 ((nI v621) : Int32).toNatClampNeg (nI v6w458)))) := ⟨_, rfl⟩
                                  have hy44 : gpw458 = f623 := (congrFun hV.2.2.1 44).symm.trans (ax_of hM620 (by decide) hv622 hM623)
                                  have hV : VW K L M M_678 b13 (va_up (fx M b13) 17 ((gnw458 : Nat) : Int)) (va_up (va_up (va_up (ax M b13) 44 gpw458) 45 gqw458) 44 (upd gpw458 ((nI v621) : Int32).toNatClampNeg (nI v6w458))) := by rw [eM_678]; exact hV.ast (j := 44) hW hb_15 hM620 (by decide) hv622 hc622 hM623
                                  have hP : va_P D vwCl ([(za, (b13_0 0 z1 (nI z2) (nI z3) z4 z5 z6 z7 z8 z9 (nI z10) z11 z12 z13 z14 z15 (nI z16) z17 z18 z19))] ++ va_pl L M_678) H_677 := by rw [eM_678]; exact hP
                                  have hD : va_D A ([(za, (b13_0 0 z1 (nI z2) (nI z3) z4 z5 z6 z7 z8 z9 (nI z10) z11 z12 z13 z14 z15 (nI z16) z17 z18 z19))] ++ va_pl L M_678) := by rw [eM_678]; exact hD
                                  have hW : WOM cy K L M_678 := by rw [eM_678]; exact hW.up_45 hc622 ⟨_, rfl, (updP (P := fun z => ∃ c : Nat, c < 1000 ∧ z = nI c) hf623 ⟨v6w458, by omega, rfl⟩)⟩
                                  have hF : fr K L [12, 14, 15, 32, 42, 45, 46, 79, 80, 81, 83, 86, 87, 88, 89, 90, 91, 92, 93, 94, 95, 96, 97, 98, 99] M M_678 := by rw [eM_678]; exact hF.up hc622 (by decide)
                                  have hG : fG K L [1, 7, 8, 13, 14, 15, 16, 17, 18] M M_678 := by rw [eM_678]; exact hG.arr hc622 (by decide)
                                  have hM_679 : M_678 v622 = .inl (cy 14, 120, .inl (upd f623 ((nI v621) : Int32).toNatClampNeg (nI v6w458))) := by rw [eM_678]; exact va_up_self _ _ _
                                  have hM_680 : M_678 b13 = .inr (12, fs620) := by rw [eM_678, va_up_ne _ _ (hb_15.neT hc622 (by decide))]; exact hM620
                                  have hM_681 : M_678 v624 = .inl (cy 14, 120, .inl (f625)) := by rw [eM_678, va_up_ne _ _ (hc624.neT hc622 (by decide))]; exact hM625
                                  have hf_683 : ∀ j, j < 120 → ∃ c : Nat, c < 1000 ∧ (upd f623 ((nI v621) : Int32).toNatClampNeg (nI v6w458)) j = nI c := (updP (P := fun z => ∃ c : Nat, c < 1000 ∧ z = nI c) hf623 ⟨v6w458, by omega, rfl⟩)
                                  obtain ⟨f_682, ef_682⟩ : ∃ f : Nat → Int32, f = upd f623 ((nI v621) : Int32).toNatClampNeg (nI v6w458) := ⟨_, rfl⟩
                                  rw [← ef_682] at hM_679 hf_683
                                  refine lv_aload_n hx hb dX13_close_197 rfl (lv_at hl 4 rfl) ?_
                                  refine pg_getN (D := D) (ci := 12) (v := .ref v624) (C := RX12) (T := TX12) (N := 51) hx hb hg inG12 hown hK hP hb_15.1 hM_680 rfl 45 (by decide) (hN.use (Cond.fieldLinkNest RX13 268 RX12 "stretchDays" "[I" RX13) 54 rfl rfl) (fun _ h9 => h9) hv624 dX13_close_198 ?_
                                  refine lv_aload_n hx hb dX13_close_201 rfl (lv_at hl 4 rfl) ?_
                                  refine pg_getN (D := D) (ci := 12) (v := .int (nI v621)) (C := RX12) (T := TX12) (N := 51) hx hb hg inG12 hown hK hP hb_15.1 hM_680 rfl 17 (by decide) (hN.use (Cond.fieldLinkNest RX13 256 RX12 "stretches" "I" RX13) 26 rfl rfl) (fun _ h9 => h9) hv621 dX13_close_202 ?_
                                  refine lv_iconst (v := 0) hx hb dX13_close_205 (by decide) ?_
                                  refine pg_iast hx hb hK hP hD hS hc624.1 0 hM_681 rfl (inbN v621 120 (by omega) (by omega)) dX13_close_206 (fun H_684 locs hP hD hS => ?_)
                                  obtain ⟨M_685, eM_685⟩ : ∃ M1 : Hp, M1 = va_up M_678 v624 (.inl (cy 14, 120, .inl (upd f625 ((nI v621) : Int32).toNatClampNeg 0))) := ⟨_, rfl⟩
                                  have hy45 : gqw458 = f625 := (congrFun hV.2.2.1 45).symm.trans (ax_of hM_680 (by decide) hv624 hM_681)
                                  have hV : VW K L M M_685 b13 (va_up (fx M b13) 17 ((gnw458 : Nat) : Int)) (va_up (va_up (va_up (va_up (ax M b13) 44 gpw458) 45 gqw458) 44 (upd gpw458 ((nI v621) : Int32).toNatClampNeg (nI v6w458))) 45 (upd gqw458 ((nI v621) : Int32).toNatClampNeg 0)) := by rw [eM_685]; exact hV.ast (j := 45) hW hb_15 hM_680 (by decide) hv624 hc624 hM_681
                                  have hP : va_P D vwCl ([(za, (b13_0 0 z1 (nI z2) (nI z3) z4 z5 z6 z7 z8 z9 (nI z10) z11 z12 z13 z14 z15 (nI z16) z17 z18 z19))] ++ va_pl L M_685) H_684 := by rw [eM_685]; exact hP
                                  have hD : va_D A ([(za, (b13_0 0 z1 (nI z2) (nI z3) z4 z5 z6 z7 z8 z9 (nI z10) z11 z12 z13 z14 z15 (nI z16) z17 z18 z19))] ++ va_pl L M_685) := by rw [eM_685]; exact hD
                                  have hW : WOM cy K L M_685 := by rw [eM_685]; exact hW.up_46 hc624 ⟨_, rfl, (updP (P := fun z => ∃ c : Nat, c < 1001 ∧ z = nI c) hf625 ⟨0, by omega, rfl⟩)⟩
                                  have hF : fr K L [12, 14, 15, 32, 42, 45, 46, 79, 80, 81, 83, 86, 87, 88, 89, 90, 91, 92, 93, 94, 95, 96, 97, 98, 99] M M_685 := by rw [eM_685]; exact hF.up hc624 (by decide)
                                  have hG : fG K L [1, 7, 8, 13, 14, 15, 16, 17, 18] M M_685 := by rw [eM_685]; exact hG.arr hc624 (by decide)
                                  have hM_686 : M_685 v624 = .inl (cy 14, 120, .inl (upd f625 ((nI v621) : Int32).toNatClampNeg 0)) := by rw [eM_685]; exact va_up_self _ _ _
                                  have hM_687 : M_685 v622 = .inl (cy 14, 120, .inl (f_682)) := by rw [eM_685, va_up_ne _ _ (hc622.neT hc624 (by decide))]; exact hM_679
                                  have hM_688 : M_685 b13 = .inr (12, fs620) := by rw [eM_685, va_up_ne _ _ (hb_15.neT hc624 (by decide))]; exact hM_680
                                  have hf_690 : ∀ j, j < 120 → ∃ c : Nat, c < 1001 ∧ (upd f625 ((nI v621) : Int32).toNatClampNeg 0) j = nI c := (updP (P := fun z => ∃ c : Nat, c < 1001 ∧ z = nI c) hf625 ⟨0, by omega, rfl⟩)
                                  obtain ⟨f_689, ef_689⟩ : ∃ f : Nat → Int32, f = upd f625 ((nI v621) : Int32).toNatClampNeg 0 := ⟨_, rfl⟩
                                  rw [← ef_689] at hM_686 hf_690
                                  refine lv_aload_n hx hb dX13_close_207 rfl (lv_at hl 4 rfl) ?_
                                  refine lv_dup hx hb dX13_close_208 rfl ?_
                                  refine pg_getN (D := D) (ci := 12) (v := .int (nI v621)) (C := RX12) (T := TX12) (N := 51) hx hb hg inG12 hown hK hP hb_15.1 hM_688 rfl 17 (by decide) (hN.use (Cond.fieldLinkNest RX13 256 RX12 "stretches" "I" RX13) 26 rfl rfl) (fun _ h9 => h9) hv621 dX13_close_209 ?_
                                  refine lv_iconst (v := 1) hx hb dX13_close_212 (by decide) ?_
                                  refine lv_iadd hx hb dX13_close_213 ?_
                                  refine lv_topi (fun f_691 ef_691 => ?_)
                                  obtain rfl : f_691 = (nI (v621 + 1)) := ef_691.trans (nI_add v621 1)
                                  refine pg_putN (D := D) (ci := 12) (v := .int (nI (v621 + 1))) (ty := .int) (C := RX12) (T := TX12) (N := 51) hx hb hg inG12 tyX12 tyX12_ok nmX12 hown hK hP hD hS hb_15.1 hM_688 rfl 17 (by decide) (hN.use (Cond.fieldLinkNest RX13 256 RX12 "stretches" "I" RX13) 26 rfl rfl) (fun _ h9 => h9) rfl (by decide +kernel) rfl rfl (by rw [hn620]; decide) dX13_close_214 (fun H_692 locs hP hD hS => ?_)
                                  have hs_695 : (fs620.set 17 (.int (nI (v621 + 1))))[17]? = some (.int (nI (v621 + 1))) := List.getElem?_set_self (by rw [hn620]; decide)
                                  have hk_694 := fld12_set (k := 17) (w := .int (nI (v621 + 1))) hl620 (show fld12 K L 17 (fs620.set 17 (.int (nI (v621 + 1)))) from ⟨(v621 + 1), hs_695, by omega⟩)
                                  have hn_696 : (fs620.set 17 (.int (nI (v621 + 1)))).length = 51 := by rw [List.length_set]; exact hn620
                                  have hv_697 : (fs620.set 17 (.int (nI (v621 + 1))))[44]? = some (.ref v622) := by rw [List.getElem?_set_ne (by decide)]; exact hv622
                                  have hv_698 : (fs620.set 17 (.int (nI (v621 + 1))))[45]? = some (.ref v624) := by rw [List.getElem?_set_ne (by decide)]; exact hv624
                                  have hb_699 : (v621 + 1) ≤ 120 := by omega
                                  obtain ⟨M_700, eM_700⟩ : ∃ M1 : Hp, M1 = va_up M_685 b13 (.inr (12, fs620.set 17 (.int (nI (v621 + 1))))) := ⟨_, rfl⟩
                                  have hx17 : ((gnw458 : Nat) : Int) = ((v621 : Nat) : Int) := (congrFun hV.2.1 17).symm.trans ((fx_of hM_688 rfl hv621).trans (nI_toInt (by omega)))
                                  have hV : VW K L M M_700 b13 (va_up (va_up (fx M b13) 17 ((gnw458 : Nat) : Int)) 17 (((v621 + 1) : Nat) : Int)) (va_up (va_up (va_up (va_up (ax M b13) 44 gpw458) 45 gqw458) 44 (upd gpw458 ((nI v621) : Int32).toNatClampNeg (nI v6w458))) 45 (upd gqw458 ((nI v621) : Int32).toNatClampNeg 0)) := by rw [eM_700]; exact hV.put hW hb_15 hM_688 hn620 rfl (by decide) rfl (nI_toInt (by omega))
                                  have hP : va_P D vwCl ([(za, (b13_0 0 z1 (nI z2) (nI z3) z4 z5 z6 z7 z8 z9 (nI z10) z11 z12 z13 z14 z15 (nI z16) z17 z18 z19))] ++ va_pl L M_700) H_692 := by rw [eM_700]; exact hP
                                  have hD : va_D A ([(za, (b13_0 0 z1 (nI z2) (nI z3) z4 z5 z6 z7 z8 z9 (nI z10) z11 z12 z13 z14 z15 (nI z16) z17 z18 z19))] ++ va_pl L M_700) := by rw [eM_700]; exact hD
                                  have hW : WOM cy K L M_700 := by rw [eM_700]; exact hW.up_12 hb_15 ⟨_, rfl, hn_696, hk_694⟩
                                  have hF : fr K L [12, 14, 15, 32, 42, 45, 46, 79, 80, 81, 83, 86, 87, 88, 89, 90, 91, 92, 93, 94, 95, 96, 97, 98, 99] M M_700 := by rw [eM_700]; exact hF.up hb_15 (by decide)
                                  have hG : fG K L [1, 7, 8, 13, 14, 15, 16, 17, 18] M M_700 := by rw [eM_700]; exact hG.up hM_688 (by decide)
                                  have hM_701 : M_700 b13 = .inr (12, fs620.set 17 (.int (nI (v621 + 1)))) := by rw [eM_700]; exact va_up_self _ _ _
                                  have hM_702 : M_700 v624 = .inl (cy 14, 120, .inl (f_689)) := by rw [eM_700, va_up_ne _ _ (hc624.neT hb_15 (by decide))]; exact hM_686
                                  have hM_703 : M_700 v622 = .inl (cy 14, 120, .inl (f_682)) := by rw [eM_700, va_up_ne _ _ (hc622.neT hb_15 (by decide))]; exact hM_687
                                  refine lv_aload_n hx hb dX13_close_217 rfl (lv_at hl 4 rfl) ?_
                                  refine pg_getN (D := D) (ci := 12) (v := .ref v624) (C := RX12) (T := TX12) (N := 51) hx hb hg inG12 hown hK hP hb_15.1 hM_701 rfl 45 (by decide) (hN.use (Cond.fieldLinkNest RX13 268 RX12 "stretchDays" "[I" RX13) 54 rfl rfl) (fun _ h9 => h9) hv_698 dX13_close_218 ?_
                                  refine lv_aload_n hx hb dX13_close_221 rfl (lv_at hl 4 rfl) ?_
                                  refine pg_getN (D := D) (ci := 12) (v := .int (nI (v621 + 1))) (C := RX12) (T := TX12) (N := 51) hx hb hg inG12 hown hK hP hb_15.1 hM_701 rfl 17 (by decide) (hN.use (Cond.fieldLinkNest RX13 256 RX12 "stretches" "I" RX13) 26 rfl rfl) (fun _ h9 => h9) hs_695 dX13_close_222 ?_
                                  refine lv_iconst (v := 1) hx hb dX13_close_225 (by decide) ?_
                                  refine lv_isub hx hb dX13_close_226 ?_
                                  refine lv_topi (fun f_704 ef_704 => ?_)
                                  obtain rfl : f_704 = (nI ((v621 + 1) - 1)) := ef_704.trans (nI_prd (by omega))
                                  refine lv_dup2_11 hx hb dX13_close_227 rfl rfl ?_
                                  have hi_705 : vp_in (nI ((v621 + 1) - 1)) 120 := (inbN ((v621 + 1) - 1) 120 (by omega) (by omega))
                                  refine pg_iald hx hb hK hP hc624.1 0 hM_702 rfl hi_705 dX13_close_228 ?_
                                  have hp_706 := hf_690 _ (vp_lt hi_705)
                                  obtain ⟨c_707, hc_708, ec_709⟩ := hp_706
                                  rw [ec_709]
                                  have hy45 : (upd gqw458 ((nI v621) : Int32).toNatClampNeg 0) = f_689 := (congrFun hV.2.2.1 45).symm.trans (ax_of hM_701 (by decide) hv_698 hM_702)
                                  have hec : (upd gqw458 ((nI v621) : Int32).toNatClampNeg 0) ((nI ((v621 + 1) - 1)) : Int32).toNatClampNeg = nI c_707 := by rw [hy45]; exact ec_709
                                  have hcc : c_707 = 0 := updz (n := v621) (nI_cl (by omega)) ((nI_cl (by omega)).trans (by omega)) hec (by omega)
                                  refine lv_iconst (v := 1) hx hb dX13_close_229 (by decide) ?_
                                  refine lv_iadd hx hb dX13_close_230 ?_
                                  refine lv_topi (fun f_710 ef_710 => ?_)
                                  obtain rfl : f_710 = (nI (c_707 + 1)) := ef_710.trans (nI_add c_707 1)
                                  refine pg_iast hx hb hK hP hD hS hc624.1 0 hM_702 rfl (inbN ((v621 + 1) - 1) 120 (by omega) (by omega)) dX13_close_231 (fun H_711 locs hP hD hS => ?_)
                                  obtain ⟨M_712, eM_712⟩ : ∃ M1 : Hp, M1 = va_up M_700 v624 (.inl (cy 14, 120, .inl (upd f_689 ((nI ((v621 + 1) - 1)) : Int32).toNatClampNeg (nI (c_707 + 1))))) := ⟨_, rfl⟩
                                  have hy45 : (upd gqw458 ((nI v621) : Int32).toNatClampNeg 0) = f_689 := (congrFun hV.2.2.1 45).symm.trans (ax_of hM_701 (by decide) hv_698 hM_702)
                                  have hV : VW K L M M_712 b13 (va_up (va_up (fx M b13) 17 ((gnw458 : Nat) : Int)) 17 (((v621 + 1) : Nat) : Int)) (va_up (va_up (va_up (va_up (va_up (ax M b13) 44 gpw458) 45 gqw458) 44 (upd gpw458 ((nI v621) : Int32).toNatClampNeg (nI v6w458))) 45 (upd gqw458 ((nI v621) : Int32).toNatClampNeg 0)) 45 (upd (upd gqw458 ((nI v621) : Int32).toNatClampNeg 0) ((nI ((v621 + 1) - 1)) : Int32).toNatClampNeg (nI (c_707 + 1)))) := by rw [eM_712]; exact hV.ast (j := 45) hW hb_15 hM_701 (by decide) hv_698 hc624 hM_702
                                  have hP : va_P D vwCl ([(za, (b13_0 0 z1 (nI z2) (nI z3) z4 z5 z6 z7 z8 z9 (nI z10) z11 z12 z13 z14 z15 (nI z16) z17 z18 z19))] ++ va_pl L M_712) H_711 := by rw [eM_712]; exact hP
                                  have hD : va_D A ([(za, (b13_0 0 z1 (nI z2) (nI z3) z4 z5 z6 z7 z8 z9 (nI z10) z11 z12 z13 z14 z15 (nI z16) z17 z18 z19))] ++ va_pl L M_712) := by rw [eM_712]; exact hD
                                  have hW : WOM cy K L M_712 := by rw [eM_712]; exact hW.up_46 hc624 ⟨_, rfl, (updP (P := fun z => ∃ c : Nat, c < 1001 ∧ z = nI c) hf_690 ⟨(c_707 + 1), by omega, rfl⟩)⟩
                                  have hF : fr K L [12, 14, 15, 32, 42, 45, 46, 79, 80, 81, 83, 86, 87, 88, 89, 90, 91, 92, 93, 94, 95, 96, 97, 98, 99] M M_712 := by rw [eM_712]; exact hF.up hc624 (by decide)
                                  have hG : fG K L [1, 7, 8, 13, 14, 15, 16, 17, 18] M M_712 := by rw [eM_712]; exact hG.arr hc624 (by decide)
                                  have hM_713 : M_712 v624 = .inl (cy 14, 120, .inl (upd f_689 ((nI ((v621 + 1) - 1)) : Int32).toNatClampNeg (nI (c_707 + 1)))) := by rw [eM_712]; exact va_up_self _ _ _
                                  have hM_714 : M_712 b13 = .inr (12, fs620.set 17 (.int (nI (v621 + 1)))) := by rw [eM_712, va_up_ne _ _ (hb_15.neT hc624 (by decide))]; exact hM_701
                                  have hM_715 : M_712 v622 = .inl (cy 14, 120, .inl (f_682)) := by rw [eM_712, va_up_ne _ _ (hc622.neT hc624 (by decide))]; exact hM_703
                                  have hf_717 : ∀ j, j < 120 → ∃ c : Nat, c < 1001 ∧ (upd f_689 ((nI ((v621 + 1) - 1)) : Int32).toNatClampNeg (nI (c_707 + 1))) j = nI c := (updP (P := fun z => ∃ c : Nat, c < 1001 ∧ z = nI c) hf_690 ⟨(c_707 + 1), by omega, rfl⟩)
                                  obtain ⟨f_716, ef_716⟩ : ∃ f : Nat → Int32, f = upd f_689 ((nI ((v621 + 1) - 1)) : Int32).toNatClampNeg (nI (c_707 + 1)) := ⟨_, rfl⟩
                                  rw [← ef_716] at hM_713 hf_717
                                  refine lv_iinc (v := (nI (v6w458 + 1))) (lv' := [(6, .int (nI (v6w458 + 1))), (5, .int (-1)), (4, .int (nI c_400)), (3, .int (nI (c_28 + 1))), (2, .ref b13), (0, .ref za), (1, .int k1)]) hx hb dX13_close_232 hl (k := 0) rfl (nI_1 v6w458) (by decide) rfl (fun ls hl => ?_)
                                  refine lv_goto (tgt := 164) hx hb dX13_close_235 (by decide) ?_
                                  have hDe : (SX (k1 : Int32).toNatClampNeg 1 + 1 + ((v6w458 - (c_28 + 1) : Nat) : Int)) = ((v6w458 : Nat) : Int) := by omega
                                  have hst : nst (prt (SX (k1 : Int32).toNatClampNeg) (SY (k1 : Int32).toNatClampNeg)) (SX (k1 : Int32).toNatClampNeg 1 + 1) (v6w458 + 1 - (c_28 + 1)) = nst (prt (SX (k1 : Int32).toNatClampNeg) (SY (k1 : Int32).toNatClampNeg)) (SX (k1 : Int32).toNatClampNeg 1 + 1) (v6w458 - (c_28 + 1)) + 1 := by rw [show v6w458 + 1 - (c_28 + 1) = (v6w458 - (c_28 + 1)) + 1 by omega]; exact nst_yes (Or.inr (by rw [hDe]; exact hpp))
                                  exact ih_456 (v6w458 + 1) (v621 + 1) (upd gpw458 ((nI v621) : Int32).toNatClampNeg (nI v6w458)) (upd (upd gqw458 ((nI v621) : Int32).toNatClampNeg 0) ((nI ((v621 + 1) - 1)) : Int32).toNatClampNeg (nI (c_707 + 1))) M_712 H_711 _ _ (by omega) (by omega) (by rw [hst, ← hx_460]; omega) (by have h := SD.new hSD (by omega) (show (nI v621).toNatClampNeg = gnw458 from (nI_cl (by omega)).trans (by omega)) (show (nI ((v621 + 1) - 1)).toNatClampNeg = gnw458 from (nI_cl (by omega)).trans (by omega)) hcc; rw [← hgn] at h; exact h) hW hF hG (by have h := hV; simp only [va_up_up] at h; rw [va_up_4] at h; exact h) hP hD hS (lv_sub hl [0, 1, 2, 3, 4, 5, 6] rfl)
                                · have hz := rfl (a := 0)
                                  have hpp : ¬ (prt (SX (k1 : Int32).toNatClampNeg) (SY (k1 : Int32).toNatClampNeg)) ((v6w458 : Nat) : Int) := by have h9 := c_675; rw [hV.2.1, hV.2.2.1, nI_toInt (by omega)] at h9; rw [← hZk.1, ← hZk.2]; exact fun q9 => h9 ((prt_cg rfl rfl rfl rfl rfl rfl rfl).mpr q9)
                                  refine lv_if_eq (tgt := 217) hx hb dX13_close_183 (by decide) (fun _ => ?_) (fun c_718 => absurd c_718 (by decide))
                                  refine lv_aload_n hx hb dX13_close_217 rfl (lv_at hl 4 rfl) ?_
                                  refine pg_getN (D := D) (ci := 12) (v := .ref v624) (C := RX12) (T := TX12) (N := 51) hx hb hg inG12 hown hK hP hb_15.1 hM620 rfl 45 (by decide) (hN.use (Cond.fieldLinkNest RX13 268 RX12 "stretchDays" "[I" RX13) 54 rfl rfl) (fun _ h9 => h9) hv624 dX13_close_218 ?_
                                  refine lv_aload_n hx hb dX13_close_221 rfl (lv_at hl 4 rfl) ?_
                                  refine pg_getN (D := D) (ci := 12) (v := .int (nI v621)) (C := RX12) (T := TX12) (N := 51) hx hb hg inG12 hown hK hP hb_15.1 hM620 rfl 17 (by decide) (hN.use (Cond.fieldLinkNest RX13 256 RX12 "stretches" "I" RX13) 26 rfl rfl) (fun _ h9 => h9) hv621 dX13_close_222 ?_
                                  refine lv_iconst (v := 1) hx hb dX13_close_225 (by decide) ?_
                                  refine lv_isub hx hb dX13_close_226 ?_
                                  refine lv_topi (fun f_719 ef_719 => ?_)
                                  obtain rfl : f_719 = (nI (v621 - 1)) := ef_719.trans (nI_prd (by omega))
                                  refine lv_dup2_11 hx hb dX13_close_227 rfl rfl ?_
                                  have hi_720 : vp_in (nI (v621 - 1)) 120 := (inbN (v621 - 1) 120 (by omega) (by omega))
                                  refine pg_iald hx hb hK hP hc624.1 0 hM625 rfl hi_720 dX13_close_228 ?_
                                  have hp_721 := hf625 _ (vp_lt hi_720)
                                  obtain ⟨c_722, hc_723, ec_724⟩ := hp_721
                                  rw [ec_724]
                                  have hy45 : gqw458 = f625 := (congrFun hV.2.2.1 45).symm.trans (ax_of hM620 (by decide) hv624 hM625)
                                  have hec : gqw458 ((nI (v621 - 1)) : Int32).toNatClampNeg = nI c_722 := by rw [hy45]; exact ec_724
                                  have hcc : c_722 ≤ v6w458 := SD.c hSD (by omega) ((nI_cl (by omega)).trans (by omega)) hec (by omega)
                                  refine lv_iconst (v := 1) hx hb dX13_close_229 (by decide) ?_
                                  refine lv_iadd hx hb dX13_close_230 ?_
                                  refine lv_topi (fun f_725 ef_725 => ?_)
                                  obtain rfl : f_725 = (nI (c_722 + 1)) := ef_725.trans (nI_add c_722 1)
                                  refine pg_iast hx hb hK hP hD hS hc624.1 0 hM625 rfl (inbN (v621 - 1) 120 (by omega) (by omega)) dX13_close_231 (fun H_726 locs hP hD hS => ?_)
                                  obtain ⟨M_727, eM_727⟩ : ∃ M1 : Hp, M1 = va_up M_462 v624 (.inl (cy 14, 120, .inl (upd f625 ((nI (v621 - 1)) : Int32).toNatClampNeg (nI (c_722 + 1))))) := ⟨_, rfl⟩
                                  have hy45 : gqw458 = f625 := (congrFun hV.2.2.1 45).symm.trans (ax_of hM620 (by decide) hv624 hM625)
                                  have hV : VW K L M M_727 b13 (va_up (fx M b13) 17 ((gnw458 : Nat) : Int)) (va_up (va_up (va_up (ax M b13) 44 gpw458) 45 gqw458) 45 (upd gqw458 ((nI (v621 - 1)) : Int32).toNatClampNeg (nI (c_722 + 1)))) := by rw [eM_727]; exact hV.ast (j := 45) hW hb_15 hM620 (by decide) hv624 hc624 hM625
                                  have hP : va_P D vwCl ([(za, (b13_0 0 z1 (nI z2) (nI z3) z4 z5 z6 z7 z8 z9 (nI z10) z11 z12 z13 z14 z15 (nI z16) z17 z18 z19))] ++ va_pl L M_727) H_726 := by rw [eM_727]; exact hP
                                  have hD : va_D A ([(za, (b13_0 0 z1 (nI z2) (nI z3) z4 z5 z6 z7 z8 z9 (nI z10) z11 z12 z13 z14 z15 (nI z16) z17 z18 z19))] ++ va_pl L M_727) := by rw [eM_727]; exact hD
                                  have hW : WOM cy K L M_727 := by rw [eM_727]; exact hW.up_46 hc624 ⟨_, rfl, (updP (P := fun z => ∃ c : Nat, c < 1001 ∧ z = nI c) hf625 ⟨(c_722 + 1), by omega, rfl⟩)⟩
                                  have hF : fr K L [12, 14, 15, 32, 42, 45, 46, 79, 80, 81, 83, 86, 87, 88, 89, 90, 91, 92, 93, 94, 95, 96, 97, 98, 99] M M_727 := by rw [eM_727]; exact hF.up hc624 (by decide)
                                  have hG : fG K L [1, 7, 8, 13, 14, 15, 16, 17, 18] M M_727 := by rw [eM_727]; exact hG.arr hc624 (by decide)
                                  have hM_728 : M_727 v624 = .inl (cy 14, 120, .inl (upd f625 ((nI (v621 - 1)) : Int32).toNatClampNeg (nI (c_722 + 1)))) := by rw [eM_727]; exact va_up_self _ _ _
                                  have hM_729 : M_727 b13 = .inr (12, fs620) := by rw [eM_727, va_up_ne _ _ (hb_15.neT hc624 (by decide))]; exact hM620
                                  have hM_730 : M_727 v622 = .inl (cy 14, 120, .inl (f623)) := by rw [eM_727, va_up_ne _ _ (hc622.neT hc624 (by decide))]; exact hM623
                                  have hf_732 : ∀ j, j < 120 → ∃ c : Nat, c < 1001 ∧ (upd f625 ((nI (v621 - 1)) : Int32).toNatClampNeg (nI (c_722 + 1))) j = nI c := (updP (P := fun z => ∃ c : Nat, c < 1001 ∧ z = nI c) hf625 ⟨(c_722 + 1), by omega, rfl⟩)
                                  obtain ⟨f_731, ef_731⟩ : ∃ f : Nat → Int32, f = upd f625 ((nI (v621 - 1)) : Int32).toNatClampNeg (nI (c_722 + 1)) := ⟨_, rfl⟩
                                  rw [← ef_731] at hM_728 hf_732
                                  refine lv_iinc (v := (nI (v6w458 + 1))) (lv' := [(6, .int (nI (v6w458 + 1))), (5, .int (-1)), (4, .int (nI c_400)), (3, .int (nI (c_28 + 1))), (2, .ref b13), (0, .ref za), (1, .int k1)]) hx hb dX13_close_232 hl (k := 0) rfl (nI_1 v6w458) (by decide) rfl (fun ls hl => ?_)
                                  refine lv_goto (tgt := 164) hx hb dX13_close_235 (by decide) ?_
                                  have hDe : (SX (k1 : Int32).toNatClampNeg 1 + 1 + ((v6w458 - (c_28 + 1) : Nat) : Int)) = ((v6w458 : Nat) : Int) := by omega
                                  have hst : nst (prt (SX (k1 : Int32).toNatClampNeg) (SY (k1 : Int32).toNatClampNeg)) (SX (k1 : Int32).toNatClampNeg 1 + 1) (v6w458 + 1 - (c_28 + 1)) = nst (prt (SX (k1 : Int32).toNatClampNeg) (SY (k1 : Int32).toNatClampNeg)) (SX (k1 : Int32).toNatClampNeg 1 + 1) (v6w458 - (c_28 + 1)) := by rw [show v6w458 + 1 - (c_28 + 1) = (v6w458 - (c_28 + 1)) + 1 by omega]; exact nst_no (fun w9 => by rcases w9 with w9 | w9; exfalso; omega; rw [hDe] at w9; exact hpp w9)
                                  exact ih_456 (v6w458 + 1) gnw458 gpw458 (upd gqw458 ((nI (v621 - 1)) : Int32).toNatClampNeg (nI (c_722 + 1))) M_727 H_726 _ _ (by omega) (by omega) (by rw [hst, ← hx_460]) (SD.old hSD (by omega) ((nI_cl (by omega)).trans (by omega)) hec (by omega)) hW hF hG (by have h := hV; simp only [va_up_up] at h; exact h) hP hD hS (lv_sub hl [0, 1, 2, 3, 4, 5, 6] rfl)
                        exact key_455 (1001 - (c_28 + 1) + 1) (c_28 + 1) 0 (ax M b13 44) (ax M b13 45) M_450 H_451 _ _ (by omega) (by omega) (by rw [Nat.sub_self]; exact nst_0.symm) (SD.rf _ _ _) hW hF hG (by rw [va_up_id, va_up_id]; exact hV) hP hD hS (lv_sub hl [0, 1, 2, 3, 4, 5, 6] rfl)
                      · have hz := rfl (a := 0)
                        have n_733 : ¬ (24 ≤ v6w448) := fun q => c_453 ((iLE (a := 24) (b := v6w448) (by omega) (by omega)).mpr q)
                        refine lv_aload_n hx hb dX13_close_147 rfl (lv_at hl 4 rfl) ?_
                        obtain ⟨v734, hv734, hc734⟩ : ∃ v : Nat, (fs16.set 17 (.int 0))[33]? = some (.ref v : Value) ∧ isk K L v 92 24 := hk_433 33 (by decide)
                        refine pg_getN (D := D) (ci := 12) (v := .ref v734) (C := RX12) (T := TX12) (N := 51) hx hb hg inG12 hown hK hP hb_15.1 hM_452 rfl 33 (by decide) (hN.use (Cond.fieldLinkNest RX13 259 RX12 "dues" "[J" RX13) 42 rfl rfl) (fun _ h9 => h9) hv734 dX13_close_148 ?_
                        refine lv_iload hx hb dX13_close_151 (lv_at hl 0 rfl) ?_
                        refine lv_lconst (v := 0) hx hb dX13_close_153 (by decide) ?_
                        obtain ⟨f735, hM735⟩ := hW.open_92 hc734
                        refine pg_last hx hb hK hP hD hS hc734.1 1 hM735 rfl (inbN v6w448 24 (by omega) (by omega)) dX13_close_154 (fun H_736 locs hP hD hS => ?_)
                        obtain ⟨M_737, eM_737⟩ : ∃ M1 : Hp, M1 = va_up M_450 v734 (.inl (cy 15, 24, .inr (.inl (vp_updL f735 ((nI v6w448) : Int32).toNatClampNeg 0)))) := ⟨_, rfl⟩
                        have hV : VW K L M M_737 b13 (va_up (fx M b13) 17 (0 : Int)) (ax M b13) := by rw [eM_737]; exact hV.oth hW hb_15 hc734 (by decide)
                        have hP : va_P D vwCl ([(za, (b13_0 0 z1 (nI z2) (nI z3) z4 z5 z6 z7 z8 z9 (nI z10) z11 z12 z13 z14 z15 (nI z16) z17 z18 z19))] ++ va_pl L M_737) H_736 := by rw [eM_737]; exact hP
                        have hD : va_D A ([(za, (b13_0 0 z1 (nI z2) (nI z3) z4 z5 z6 z7 z8 z9 (nI z10) z11 z12 z13 z14 z15 (nI z16) z17 z18 z19))] ++ va_pl L M_737) := by rw [eM_737]; exact hD
                        have hW : WOM cy K L M_737 := by rw [eM_737]; exact hW.up_92 hc734 ⟨_, rfl⟩
                        have hF : fr K L [12, 14, 15, 32, 42, 45, 46, 79, 80, 81, 83, 86, 87, 88, 89, 90, 91, 92, 93, 94, 95, 96, 97, 98, 99] M M_737 := by rw [eM_737]; exact hF.up hc734 (by decide)
                        have hG : fG K L [1, 7, 8, 13, 14, 15, 16, 17, 18] M M_737 := by rw [eM_737]; exact hG.arr hc734 (by decide)
                        have hM_738 : M_737 v734 = .inl (cy 15, 24, .inr (.inl (vp_updL f735 ((nI v6w448) : Int32).toNatClampNeg 0))) := by rw [eM_737]; exact va_up_self _ _ _
                        have hM_739 : M_737 b13 = .inr (12, fs16.set 17 (.int 0)) := by rw [eM_737, va_up_ne _ _ (hb_15.neT hc734 (by decide))]; exact hM_452
                        obtain ⟨f_740, ef_740⟩ : ∃ f : Nat → Int64, f = vp_updL f735 ((nI v6w448) : Int32).toNatClampNeg 0 := ⟨_, rfl⟩
                        rw [← ef_740] at hM_738
                        refine lv_iinc (v := (nI (v6w448 + 1))) (lv' := [(6, .int (nI (v6w448 + 1))), (5, .int (-1)), (4, .int (nI c_400)), (3, .int (nI (c_28 + 1))), (2, .ref b13), (0, .ref za), (1, .int k1)]) hx hb dX13_close_155 hl (k := 0) rfl (nI_1 v6w448) (by decide) rfl (fun ls hl => ?_)
                        refine lv_goto (tgt := 140) hx hb dX13_close_158 (by decide) ?_
                        exact ih_446 (v6w448 + 1) M_737 H_736 _ _ (by omega) hM_739 (by omega) hW hF hG hV hP hD hS (lv_sub hl [0, 1, 2, 3, 4, 5, 6] rfl)
                  exact key_445 (24 - 0 + 1) 0 M_443 H_431 _ _ (by omega) hM_444 (by omega) hW hF hG hV hP hD hS (lv_sub hl [0, 1, 2, 3, 4, 5, 6] rfl)
                · have hz := rfl (a := 0)
                  refine lv_istore (lv' := [(5, .int (nI j_425)), (4, .int (nI c_400)), (3, .int (nI (c_28 + 1))), (2, .ref b13), (0, .ref za), (1, .int k1)]) hx hb dX13_close_115 hl (by decide) rfl (fun ls hl => ?_)
                  refine lv_iload hx hb dX13_close_117 (lv_at hl 0 rfl) ?_
                  refine lv_iconst (v := (-1)) hx hb dX13_close_119 (by decide) ?_
                  refine lv_icmp_eq (tgt := 132) hx hb dX13_close_120 (by decide) (fun c_741 => absurd c_741 (nI_ne_m1 (by omega))) (fun _ => ?_)
                  refine lv_aload_n hx hb dX13_close_123 rfl (lv_at hl 4 rfl) ?_
                  refine lv_bipush (v := 7) hx hb dX13_close_124 (by decide) ?_
                  refine lv_iload hx hb dX13_close_126 (lv_at hl 0 rfl) ?_
                  have hPc := hP.sub (ws' := [(za, (b13_0 0 z1 (nI z2) (nI z3) z4 z5 z6 z7 z8 z9 (nI z10) z11 z12 z13 z14 z15 (nI z16) z17 z18 z19))]) [0] rfl
                  have hDc := hD.sub (ws' := [(za, (b13_0 0 z1 (nI z2) (nI z3) z4 z5 z6 z7 z8 z9 (nI z10) z11 z12 z13 z14 z15 (nI z16) z17 z18 z19))]) [0] (by decide) rfl
                  have hKc := hK.sub (tys' := []) [] rfl
                  have hFc := va_free (wc := [(za, (b13_0 0 z1 (nI z2) (nI z3) z4 z5 z6 z7 z8 z9 (nI z10) z11 z12 z13 z14 z15 (nI z16) z17 z18 z19))]) hD hS hA [0] rfl
                  refine va_calli (va_runV (As := [.int 7, .int (nI j_425)]) (rest := []) ⟨hx, hb, hml, hown, hg⟩ (m_refusedAt l D H_420.size za 0 z1 (nI z2) (nI z3) z4 z5 z6 z7 z8 z9 (nI z10) z11 z12 z13 z14 z15 (nI z16) z17 z18 z19 7 (nI j_425)) (cwV 2 hg (gV wd_882 wd_883 wd_884 wd_717 wd_885) rfl rfl rfl (by decide +kernel) ⟨(Nat.le_trans (Nat.le_of_ble_eq_true rfl) hRf), (Nat.le_trans (Nat.le_of_ble_eq_true rfl) hRl)⟩) ⟨Pr.blind, va_recv hK hP (ci := 13) (q0 := 0) rfl rfl, fun U hU hW => ⟨rfl, Pr.at hPc hKc hDc hN hU hW⟩⟩ rfl rfl hl.1 rfl (lv_room (Nat.le_of_ble_eq_true rfl)) dX13_close_128 ⟨(Nat.le_trans (Nat.le_of_ble_eq_true rfl) hRc), (Nat.le_trans (Nat.le_of_ble_eq_true rfl) hRs)⟩) hS (fun q _ h => hFc q h) hFc (fun r_743 M_744 t H_742 locs ht hvm hw hB hz1 hk1 hS => ?_)
                  have hp_745 := hw
                  obtain ⟨hP1, hK1, hD1⟩ := hB
                  rw [ht] at hP1
                  obtain ⟨hP, hD⟩ := va_joinQ (X := [(za, (b13_0 0 z1 (nI z2) (nI z3) z4 z5 z6 z7 z8 z9 (nI z10) z11 z12 z13 z14 z15 (nI z16) z17 z18 z19))]) (cx := [(za, (b13_0 0 z1 (nI z2) (nI z3) z4 z5 z6 z7 z8 z9 (nI z10) z11 z12 z13 z14 z15 (nI z16) z17 z18 z19))]) (wr := []) (w1 := [(za, (b13_0 0 z1 (nI z2) (nI z3) 7 (nI j_425) z6 z7 z8 z9 (nI z10) z11 z12 z13 z14 z15 (nI z16) z17 z18 z19))]) (pl := va_pl L M_410) hP hD [0] [] rfl rfl (by decide) (by decide) hk1 hFc hP1 hD1
                  have hP : va_P D vwCl ([(za, (b13_0 0 z1 (nI z2) (nI z3) 7 (nI j_425) z6 z7 z8 z9 (nI z10) z11 z12 z13 z14 z15 (nI z16) z17 z18 z19))] ++ va_pl L M_410) H_742 := hP
                  have hD : va_D A ([(za, (b13_0 0 z1 (nI z2) (nI z3) 7 (nI j_425) z6 z7 z8 z9 (nI z10) z11 z12 z13 z14 z15 (nI z16) z17 z18 z19))] ++ va_pl L M_410) := hD
                  have hq := Eq.symm hp_745
                  subst hq
                  have hlg7 : ¬ ∀ b, b < z2 → ¬ LAG PK PT SX SY (k1 : Int32).toNatClampNeg (enD (SX (k1 : Int32).toNatClampNeg) (SY (k1 : Int32).toNatClampNeg)) b := fun w9 => w9 _ c_427 (by rw [hEd]; have h9 := c_428; rw [nI_toInt (by omega)] at h9; exact h9)
                  have hno : ¬ okCl z2 PK PT SX SY k1 := fun q9 => by unfold okCl okH at q9; first | omega | (obtain ⟨⟨_, _⟩, _, _, _, _⟩ := q9; first | omega | contradiction)
                  have hA9 : HA (ax M b13 2) (ax M b13 3) := hAT.1
                  have hB9 : HB (fx M b13 16) (fx M b13 14) (ax M b13 3) (ax M b13 43) := hAT.2.1
                  have hC9 : HC (fx M b13 10) (ax M b13 22) (ax M b13 23) := hAT.2.2.1
                  have hD9 : HD (fx M b13 0) (fx M b13 11) (fx M b13 15) (ax M b13 34) (ax M b13 41) := hAT.2.2.2.1
                  have hE9 : HE (fx M b13 0) (fx M b13 1) (fx M b13 12) (fx M b13 13) (ax M b13 37) := hAT.2.2.2.2
                  have hH9 : HI (fx M b13) (ax M b13) := ⟨hA9, hB9, hC9, hD9, hE9⟩
                  have hGI9 : GI K L z1 z2 M_410 := GI.fin hW0 i1 b2 hGI hact hV (hF.at i1 (by decide)) hH9
                  rw [hQ]
                  exact W.iret (v := (-1)) hx hb hr (fun t ht hW9 => ⟨⟨(-1), M_410, rfl, ⟨hW, hF, hG, ⟨hGI9, fun _ => 0, fun _ _ => 0, fun w9 => absurd w9 hno, (by unfold sxCl syCl; rw [if_neg hno, if_neg hno]; have hQ9 := ZSx.fin hW0 i1 b2 hZS hGI.1 hkn hb9 hV (hF.at i1 (by decide)) hZk.1 hZk.2; rw [va_upJ, va_upJ] at hQ9; exact hQ9)⟩, (by unfold anCl; rw [if_neg hno])⟩, ⟨7, (nI j_425), z16, (by omega), (WHR.lg ⟨⟨by omega, by omega⟩, by omega, by omega⟩ (fun d h1 h2 => hall d h1 (by rw [hEd] at h2; omega)) ⟨by omega, by rw [hEd]; have h9 := c_428; rw [nI_toInt (by omega)] at h9; exact h9, by rw [hEd]; have h9 := c_429; rw [nI_toInt (by omega)] at h9; exact h9⟩), by rw [ht]; exact hP, hD⟩⟩, hS.F ht⟩) hS.2.2 dX13_close_131
              · have hz := rfl (a := 0)
                have n_746 : ¬ (c_400 < v5w406) := fun q => c_413 ((iLT (a := c_400) (b := v5w406) (by omega) (by omega)).mpr q)
                refine lv_aload_n hx hb dX13_close_85 rfl (lv_at hl 3 rfl) ?_
                refine lv_iload hx hb dX13_close_86 (lv_at hl 0 rfl) ?_
                have hPc : va_P D vwCl ([] ++ va_pl L M_410) H_411 := hP.part (cx := []) [] rfl
                have hDc : va_D A ([] ++ va_pl L M_410) := hD.part (cx := []) [] (by decide) rfl
                have hFc : ∀ q, va_A ([] ++ va_pl L M_410) H_411.size q → A q := pg_free hDc hS hA
                refine va_calli (va_runV (As := [.int (nI v5w406)]) (rest := []) ⟨hx, hb, hml, hown, hg⟩ (f_isOpen l D cy K L M_410 H_411.size b13 v5w406  hW hb_15 (by omega)) (cwV 1 hg (gV wd_752 wd_753 wd_754 wd_737 wd_755) rfl rfl rfl (by decide +kernel) ⟨(Nat.le_trans (Nat.le_of_ble_eq_true rfl) hRf), (Nat.le_trans (Nat.le_of_ble_eq_true rfl) hRl)⟩) ⟨PG.blind, pg_recv hK hP hb_15.1 hM_412 rfl, fun U hU hW => ⟨rfl, PG.at hPc hK hDc hN hU hW⟩⟩ rfl rfl hl.1 rfl (lv_room (Nat.le_of_ble_eq_true rfl)) dX13_close_88 ⟨(Nat.le_trans (Nat.le_of_ble_eq_true rfl) hRc), (Nat.le_trans (Nat.le_of_ble_eq_true rfl) hRs)⟩) hS (fun q _ h => hFc q h) hFc (fun r_748 M_749 t H_747 locs ht hvm hw hB hz1 hk1 hS => ?_)
                have hp_750 := hw
                obtain ⟨hP1, hD1⟩ := hB
                rw [ht] at hP1
                obtain ⟨hP, hD⟩ := va_joinP (X := [(za, (b13_0 0 z1 (nI z2) (nI z3) z4 z5 z6 z7 z8 z9 (nI z10) z11 z12 z13 z14 z15 (nI z16) z17 z18 z19))]) (cx := []) (wr := [(za, (b13_0 0 z1 (nI z2) (nI z3) z4 z5 z6 z7 z8 z9 (nI z10) z11 z12 z13 z14 z15 (nI z16) z17 z18 z19))]) (rx := []) (pl := va_pl L M_410) (pl1 := va_pl L M_410) hP hD [] [0] rfl rfl (by decide) (by decide) hk1 hFc hP1 hD1
                have hP : va_P D vwCl ([(za, (b13_0 0 z1 (nI z2) (nI z3) z4 z5 z6 z7 z8 z9 (nI z10) z11 z12 z13 z14 z15 (nI z16) z17 z18 z19))] ++ va_pl L M_410) H_747 := hP
                have hD : va_D A ([(za, (b13_0 0 z1 (nI z2) (nI z3) z4 z5 z6 z7 z8 z9 (nI z10) z11 z12 z13 z14 z15 (nI z16) z17 z18 z19))] ++ va_pl L M_410) := hD
                rcases hp_750 with ⟨rfl, c_751⟩ | ⟨rfl, c_752⟩
                · have hz := rfl (a := 0)
                  have hop9 : opD (SY (k1 : Int32).toNatClampNeg) v5w406 := by have h9 := c_751; rw [hV.2.2.1, hZk.2] at h9; exact h9
                  refine lv_if_eq (tgt := 102) hx hb dX13_close_91 (by decide) (fun c_753 => absurd c_753 (by decide)) (fun _ => ?_)
                  refine lv_aload_n hx hb dX13_close_94 rfl (lv_at hl 4 rfl) ?_
                  refine lv_iconst (v := 5) hx hb dX13_close_95 (by decide) ?_
                  refine lv_iload hx hb dX13_close_96 (lv_at hl 0 rfl) ?_
                  have hPc := hP.sub (ws' := [(za, (b13_0 0 z1 (nI z2) (nI z3) z4 z5 z6 z7 z8 z9 (nI z10) z11 z12 z13 z14 z15 (nI z16) z17 z18 z19))]) [0] rfl
                  have hDc := hD.sub (ws' := [(za, (b13_0 0 z1 (nI z2) (nI z3) z4 z5 z6 z7 z8 z9 (nI z10) z11 z12 z13 z14 z15 (nI z16) z17 z18 z19))]) [0] (by decide) rfl
                  have hKc := hK.sub (tys' := []) [] rfl
                  have hFc := va_free (wc := [(za, (b13_0 0 z1 (nI z2) (nI z3) z4 z5 z6 z7 z8 z9 (nI z10) z11 z12 z13 z14 z15 (nI z16) z17 z18 z19))]) hD hS hA [0] rfl
                  refine va_calli (va_runV (As := [.int 5, .int (nI v5w406)]) (rest := []) ⟨hx, hb, hml, hown, hg⟩ (m_refusedAt l D H_747.size za 0 z1 (nI z2) (nI z3) z4 z5 z6 z7 z8 z9 (nI z10) z11 z12 z13 z14 z15 (nI z16) z17 z18 z19 5 (nI v5w406)) (cwV 2 hg (gV wd_882 wd_883 wd_884 wd_717 wd_885) rfl rfl rfl (by decide +kernel) ⟨(Nat.le_trans (Nat.le_of_ble_eq_true rfl) hRf), (Nat.le_trans (Nat.le_of_ble_eq_true rfl) hRl)⟩) ⟨Pr.blind, va_recv hK hP (ci := 13) (q0 := 0) rfl rfl, fun U hU hW => ⟨rfl, Pr.at hPc hKc hDc hN hU hW⟩⟩ rfl rfl hl.1 rfl (lv_room (Nat.le_of_ble_eq_true rfl)) dX13_close_98 ⟨(Nat.le_trans (Nat.le_of_ble_eq_true rfl) hRc), (Nat.le_trans (Nat.le_of_ble_eq_true rfl) hRs)⟩) hS (fun q _ h => hFc q h) hFc (fun r_755 M_756 t H_754 locs ht hvm hw hB hz1 hk1 hS => ?_)
                  have hp_757 := hw
                  obtain ⟨hP1, hK1, hD1⟩ := hB
                  rw [ht] at hP1
                  obtain ⟨hP, hD⟩ := va_joinQ (X := [(za, (b13_0 0 z1 (nI z2) (nI z3) z4 z5 z6 z7 z8 z9 (nI z10) z11 z12 z13 z14 z15 (nI z16) z17 z18 z19))]) (cx := [(za, (b13_0 0 z1 (nI z2) (nI z3) z4 z5 z6 z7 z8 z9 (nI z10) z11 z12 z13 z14 z15 (nI z16) z17 z18 z19))]) (wr := []) (w1 := [(za, (b13_0 0 z1 (nI z2) (nI z3) 5 (nI v5w406) z6 z7 z8 z9 (nI z10) z11 z12 z13 z14 z15 (nI z16) z17 z18 z19))]) (pl := va_pl L M_410) hP hD [0] [] rfl rfl (by decide) (by decide) hk1 hFc hP1 hD1
                  have hP : va_P D vwCl ([(za, (b13_0 0 z1 (nI z2) (nI z3) 5 (nI v5w406) z6 z7 z8 z9 (nI z10) z11 z12 z13 z14 z15 (nI z16) z17 z18 z19))] ++ va_pl L M_410) H_754 := hP
                  have hD : va_D A ([(za, (b13_0 0 z1 (nI z2) (nI z3) 5 (nI v5w406) z6 z7 z8 z9 (nI z10) z11 z12 z13 z14 z15 (nI z16) z17 z18 z19))] ++ va_pl L M_410) := hD
                  have hq := Eq.symm hp_757
                  subst hq
                  have hI_758 : (0 : Int) ≤ (k1 : Int32).toInt := inltI rfl rfl c_7
                  have hI_759 : (k1 : Int32).toInt < ((z2 : Nat) : Int) := inleI (nI_toInt (by omega)) rfl c_8
                  have hI_760 : ((v21 : Nat) : Int) ≠ ((v20 : Nat) : Int) := ineI (nI_toInt (by omega)) (nI_toInt (by omega)) c_24
                  have hI_761 : ((v19 : Nat) : Int) ≠ (0 : Int) := ineI (nI_toInt (by omega)) rfl c_26
                  have hI_762 : ((v5w406 : Nat) : Int) ≤ ((c_400 : Nat) : Int) := inltI (nI_toInt (by omega)) (nI_toInt (by omega)) c_413
                  have hop5 : ¬ (∀ d : Nat, SX (k1 : Int32).toNatClampNeg 1 < (d : Int) → (d : Int) ≤ enD (SX (k1 : Int32).toNatClampNeg) (SY (k1 : Int32).toNatClampNeg) → ¬ opD (SY (k1 : Int32).toNatClampNeg) d) := fun w9 => w9 v5w406 (by omega) (by rw [hEd]; omega) hop9
                  have hno : ¬ okCl z2 PK PT SX SY k1 := fun q9 => by unfold okCl okH at q9; first | omega | (obtain ⟨⟨_, _⟩, _, _, _, _⟩ := q9; first | omega | contradiction)
                  have hA9 : HA (ax M b13 2) (ax M b13 3) := hAT.1
                  have hB9 : HB (fx M b13 16) (fx M b13 14) (ax M b13 3) (ax M b13 43) := hAT.2.1
                  have hC9 : HC (fx M b13 10) (ax M b13 22) (ax M b13 23) := hAT.2.2.1
                  have hD9 : HD (fx M b13 0) (fx M b13 11) (fx M b13 15) (ax M b13 34) (ax M b13 41) := hAT.2.2.2.1
                  have hE9 : HE (fx M b13 0) (fx M b13 1) (fx M b13 12) (fx M b13 13) (ax M b13 37) := hAT.2.2.2.2
                  have hH9 : HI (fx M b13) (ax M b13) := ⟨hA9, hB9, hC9, hD9, hE9⟩
                  have hGI9 : GI K L z1 z2 M_410 := GI.fin hW0 i1 b2 hGI hact hV (hF.at i1 (by decide)) hH9
                  rw [hQ]
                  exact W.iret (v := (-1)) hx hb hr (fun t ht hW9 => ⟨⟨(-1), M_410, rfl, ⟨hW, hF, hG, ⟨hGI9, fun _ => 0, fun _ _ => 0, fun w9 => absurd w9 hno, (by unfold sxCl syCl; rw [if_neg hno, if_neg hno]; have hQ9 := ZSx.fin hW0 i1 b2 hZS hGI.1 hkn hb9 hV (hF.at i1 (by decide)) hZk.1 hZk.2; rw [va_upJ, va_upJ] at hQ9; exact hQ9)⟩, (by unfold anCl; rw [if_neg hno])⟩, ⟨5, (nI v5w406), z16, (by omega), (WHR.op ⟨⟨by omega, by omega⟩, by omega, by omega⟩ ⟨by omega, by rw [hEd]; omega, hop9, fun d h1 h2 => hx_408 d h1 h2⟩), by rw [ht]; exact hP, hD⟩⟩, hS.F ht⟩) hS.2.2 dX13_close_101
                · have hz := rfl (a := 0)
                  have hno9 : ¬ opD (SY (k1 : Int32).toNatClampNeg) v5w406 := by have h9 := c_752; rw [hV.2.2.1, hZk.2] at h9; exact h9
                  refine lv_if_eq (tgt := 102) hx hb dX13_close_91 (by decide) (fun _ => ?_) (fun c_763 => absurd c_763 (by decide))
                  refine lv_iinc (v := (nI (v5w406 + 1))) (lv' := [(5, .int (nI (v5w406 + 1))), (4, .int (nI c_400)), (3, .int (nI (c_28 + 1))), (2, .ref b13), (0, .ref za), (1, .int k1)]) hx hb dX13_close_102 hl (k := 0) rfl (nI_1 v5w406) (by decide) rfl (fun ls hl => ?_)
                  refine lv_goto (tgt := 78) hx hb dX13_close_105 (by decide) ?_
                  exact ih_404 (v5w406 + 1) M_410 H_747 _ _ (by omega) hM_412 (by omega) (fun d h1 h2 => by by_cases z9 : ¬ d = v5w406; exact hx_408 d h1 (by omega); rw [Classical.not_not.mp z9]; exact hno9) (by omega) hW hF hG hV hP hD hS (lv_sub hl [0, 1, 2, 3, 4, 5] rfl)
          exact key_403 (1001 - (c_28 + 1) + 1) (c_28 + 1) M H_2 _ _ (by omega) hM16 (by omega) (fun d h1 h2 => by omega) (by omega) hW hF hG hV hP hD hS (lv_sub hl [0, 1, 2, 3, 4, 5] rfl)
      · have hz := rfl (a := 0)
        have n_764 : v19 = 0 := (iEQ (a := v19) (b := 0) (by omega) (by omega)).mp c_26
        refine lv_aload_n hx hb dX13_close_51 rfl (lv_at hl 1 rfl) ?_
        refine lv_iconst (v := 1) hx hb dX13_close_52 (by decide) ?_
        have hPc := hP.sub (ws' := [(za, (b13_0 0 z1 (nI z2) (nI z3) z4 z5 z6 z7 z8 z9 (nI z10) z11 z12 z13 z14 z15 (nI z16) z17 z18 z19))]) [0] rfl
        have hDc := hD.sub (ws' := [(za, (b13_0 0 z1 (nI z2) (nI z3) z4 z5 z6 z7 z8 z9 (nI z10) z11 z12 z13 z14 z15 (nI z16) z17 z18 z19))]) [0] (by decide) rfl
        have hKc := hK.sub (tys' := []) [] rfl
        have hFc := va_free (wc := [(za, (b13_0 0 z1 (nI z2) (nI z3) z4 z5 z6 z7 z8 z9 (nI z10) z11 z12 z13 z14 z15 (nI z16) z17 z18 z19))]) hD hS hA [0] rfl
        refine va_calli (va_runV (As := [.int 1]) (rest := []) ⟨hx, hb, hml, hown, hg⟩ (m_refused l D H_2.size za 0 z1 (nI z2) (nI z3) z4 z5 z6 z7 z8 z9 (nI z10) z11 z12 z13 z14 z15 (nI z16) z17 z18 z19 1) (cwV 1 hg (gV wd_725 wd_726 wd_727 wd_717 wd_728) rfl rfl rfl (by decide +kernel) ⟨(Nat.le_trans (Nat.le_of_ble_eq_true rfl) hRf), (Nat.le_trans (Nat.le_of_ble_eq_true rfl) hRl)⟩) ⟨Pr.blind, va_recv hK hP (ci := 13) (q0 := 0) rfl rfl, fun U hU hW => ⟨rfl, Pr.at hPc hKc hDc hN hU hW⟩⟩ rfl rfl hl.1 rfl (lv_room (Nat.le_of_ble_eq_true rfl)) dX13_close_53 ⟨(Nat.le_trans (Nat.le_of_ble_eq_true rfl) hRc), (Nat.le_trans (Nat.le_of_ble_eq_true rfl) hRs)⟩) hS (fun q _ h => hFc q h) hFc (fun r_766 M_767 t H_765 locs ht hvm hw hB hz1 hk1 hS => ?_)
        have hp_768 := hw
        obtain ⟨hP1, hK1, hD1⟩ := hB
        rw [ht] at hP1
        obtain ⟨hP, hD⟩ := va_joinQ (X := [(za, (b13_0 0 z1 (nI z2) (nI z3) z4 z5 z6 z7 z8 z9 (nI z10) z11 z12 z13 z14 z15 (nI z16) z17 z18 z19))]) (cx := [(za, (b13_0 0 z1 (nI z2) (nI z3) z4 z5 z6 z7 z8 z9 (nI z10) z11 z12 z13 z14 z15 (nI z16) z17 z18 z19))]) (wr := []) (w1 := [(za, (b13_0 0 z1 (nI z2) (nI z3) 1 (-1) z6 z7 z8 z9 (nI z10) z11 z12 z13 z14 z15 (nI z16) z17 z18 z19))]) (pl := va_pl L M) hP hD [0] [] rfl rfl (by decide) (by decide) hk1 hFc hP1 hD1
        have hP : va_P D vwCl ([(za, (b13_0 0 z1 (nI z2) (nI z3) 1 (-1) z6 z7 z8 z9 (nI z10) z11 z12 z13 z14 z15 (nI z16) z17 z18 z19))] ++ va_pl L M) H_765 := hP
        have hD : va_D A ([(za, (b13_0 0 z1 (nI z2) (nI z3) 1 (-1) z6 z7 z8 z9 (nI z10) z11 z12 z13 z14 z15 (nI z16) z17 z18 z19))] ++ va_pl L M) := hD
        have hq := Eq.symm hp_768
        subst hq
        have hI_769 : (0 : Int) ≤ (k1 : Int32).toInt := inltI rfl rfl c_7
        have hI_770 : (k1 : Int32).toInt < ((z2 : Nat) : Int) := inleI (nI_toInt (by omega)) rfl c_8
        have hI_771 : ((v21 : Nat) : Int) ≠ ((v20 : Nat) : Int) := ineI (nI_toInt (by omega)) (nI_toInt (by omega)) c_24
        have hI_772 : ((v19 : Nat) : Int) = (0 : Int) := ieqI (nI_toInt (by omega)) rfl c_26
        have hno : ¬ okCl z2 PK PT SX SY k1 := fun q9 => by unfold okCl okH at q9; first | omega | (obtain ⟨⟨_, _⟩, _, _, _, _⟩ := q9; first | omega | contradiction)
        rw [hQ]
        exact W.iret (v := (-1)) hx hb hr (fun t ht hW9 => ⟨⟨(-1), M, rfl, ⟨hW, hF, hG, ⟨hGI, fun _ => 0, fun _ _ => 0, fun w9 => absurd w9 hno, (by unfold sxCl syCl; rw [if_neg hno, if_neg hno]; exact hZS)⟩, (by unfold anCl; rw [if_neg hno])⟩, ⟨1, (-1), z16, (by omega), (WHR.np (fun w9 => by obtain ⟨⟨a0, a1⟩, a2, a3⟩ := w9; omega)), by rw [ht]; exact hP, hD⟩⟩, hS.F ht⟩) hS.2.2 dX13_close_56
    · have hz := rfl (a := 0)
      have n_773 : v21 = v20 := (iEQ (a := v21) (b := v20) (by omega) (by omega)).mp c_24
      refine lv_aload_n hx hb dX13_close_37 rfl (lv_at hl 1 rfl) ?_
      refine lv_bipush (v := 6) hx hb dX13_close_38 (by decide) ?_
      have hPc := hP.sub (ws' := [(za, (b13_0 0 z1 (nI z2) (nI z3) z4 z5 z6 z7 z8 z9 (nI z10) z11 z12 z13 z14 z15 (nI z16) z17 z18 z19))]) [0] rfl
      have hDc := hD.sub (ws' := [(za, (b13_0 0 z1 (nI z2) (nI z3) z4 z5 z6 z7 z8 z9 (nI z10) z11 z12 z13 z14 z15 (nI z16) z17 z18 z19))]) [0] (by decide) rfl
      have hKc := hK.sub (tys' := []) [] rfl
      have hFc := va_free (wc := [(za, (b13_0 0 z1 (nI z2) (nI z3) z4 z5 z6 z7 z8 z9 (nI z10) z11 z12 z13 z14 z15 (nI z16) z17 z18 z19))]) hD hS hA [0] rfl
      refine va_calli (va_runV (As := [.int 6]) (rest := []) ⟨hx, hb, hml, hown, hg⟩ (m_refused l D H_2.size za 0 z1 (nI z2) (nI z3) z4 z5 z6 z7 z8 z9 (nI z10) z11 z12 z13 z14 z15 (nI z16) z17 z18 z19 6) (cwV 1 hg (gV wd_725 wd_726 wd_727 wd_717 wd_728) rfl rfl rfl (by decide +kernel) ⟨(Nat.le_trans (Nat.le_of_ble_eq_true rfl) hRf), (Nat.le_trans (Nat.le_of_ble_eq_true rfl) hRl)⟩) ⟨Pr.blind, va_recv hK hP (ci := 13) (q0 := 0) rfl rfl, fun U hU hW => ⟨rfl, Pr.at hPc hKc hDc hN hU hW⟩⟩ rfl rfl hl.1 rfl (lv_room (Nat.le_of_ble_eq_true rfl)) dX13_close_40 ⟨(Nat.le_trans (Nat.le_of_ble_eq_true rfl) hRc), (Nat.le_trans (Nat.le_of_ble_eq_true rfl) hRs)⟩) hS (fun q _ h => hFc q h) hFc (fun r_775 M_776 t H_774 locs ht hvm hw hB hz1 hk1 hS => ?_)
      have hp_777 := hw
      obtain ⟨hP1, hK1, hD1⟩ := hB
      rw [ht] at hP1
      obtain ⟨hP, hD⟩ := va_joinQ (X := [(za, (b13_0 0 z1 (nI z2) (nI z3) z4 z5 z6 z7 z8 z9 (nI z10) z11 z12 z13 z14 z15 (nI z16) z17 z18 z19))]) (cx := [(za, (b13_0 0 z1 (nI z2) (nI z3) z4 z5 z6 z7 z8 z9 (nI z10) z11 z12 z13 z14 z15 (nI z16) z17 z18 z19))]) (wr := []) (w1 := [(za, (b13_0 0 z1 (nI z2) (nI z3) 6 (-1) z6 z7 z8 z9 (nI z10) z11 z12 z13 z14 z15 (nI z16) z17 z18 z19))]) (pl := va_pl L M) hP hD [0] [] rfl rfl (by decide) (by decide) hk1 hFc hP1 hD1
      have hP : va_P D vwCl ([(za, (b13_0 0 z1 (nI z2) (nI z3) 6 (-1) z6 z7 z8 z9 (nI z10) z11 z12 z13 z14 z15 (nI z16) z17 z18 z19))] ++ va_pl L M) H_774 := hP
      have hD : va_D A ([(za, (b13_0 0 z1 (nI z2) (nI z3) 6 (-1) z6 z7 z8 z9 (nI z10) z11 z12 z13 z14 z15 (nI z16) z17 z18 z19))] ++ va_pl L M) := hD
      have hq := Eq.symm hp_777
      subst hq
      have hI_778 : (0 : Int) ≤ (k1 : Int32).toInt := inltI rfl rfl c_7
      have hI_779 : (k1 : Int32).toInt < ((z2 : Nat) : Int) := inleI (nI_toInt (by omega)) rfl c_8
      have hI_780 : ((v21 : Nat) : Int) = ((v20 : Nat) : Int) := ieqI (nI_toInt (by omega)) (nI_toInt (by omega)) c_24
      have hno : ¬ okCl z2 PK PT SX SY k1 := fun q9 => by unfold okCl okH at q9; first | omega | (obtain ⟨⟨_, _⟩, _, _, _, _⟩ := q9; first | omega | contradiction)
      rw [hQ]
      exact W.iret (v := (-1)) hx hb hr (fun t ht hW9 => ⟨⟨(-1), M, rfl, ⟨hW, hF, hG, ⟨hGI, fun _ => 0, fun _ _ => 0, fun w9 => absurd w9 hno, (by unfold sxCl syCl; rw [if_neg hno, if_neg hno]; exact hZS)⟩, (by unfold anCl; rw [if_neg hno])⟩, ⟨6, (-1), z16, (by omega), (WHR.np (fun w9 => by obtain ⟨⟨a0, a1⟩, a2, a3⟩ := w9; omega)), by rw [ht]; exact hP, hD⟩⟩, hS.F ht⟩) hS.2.2 dX13_close_43
  · have hz := rfl (a := 0)
    refine lv_if_ne (tgt := 19) hx hb dX13_close_10 (by decide) (fun c_781 => absurd c_781 (by decide)) (fun _ => ?_)
    refine lv_aload_n hx hb dX13_close_13 rfl (lv_at hl 0 rfl) ?_
    refine lv_iconst (v := 1) hx hb dX13_close_14 (by decide) ?_
    have hPc := hP.sub (ws' := [(za, (b13_0 0 z1 (nI z2) (nI z3) z4 z5 z6 z7 z8 z9 (nI z10) z11 z12 z13 z14 z15 (nI z16) z17 z18 z19))]) [0] rfl
    have hDc := hD.sub (ws' := [(za, (b13_0 0 z1 (nI z2) (nI z3) z4 z5 z6 z7 z8 z9 (nI z10) z11 z12 z13 z14 z15 (nI z16) z17 z18 z19))]) [0] (by decide) rfl
    have hKc := hK.sub (tys' := []) [] rfl
    have hFc := va_free (wc := [(za, (b13_0 0 z1 (nI z2) (nI z3) z4 z5 z6 z7 z8 z9 (nI z10) z11 z12 z13 z14 z15 (nI z16) z17 z18 z19))]) hD hS hA [0] rfl
    refine va_calli (va_runV (As := [.int 1]) (rest := []) ⟨hx, hb, hml, hown, hg⟩ (m_refused l D H_2.size za 0 z1 (nI z2) (nI z3) z4 z5 z6 z7 z8 z9 (nI z10) z11 z12 z13 z14 z15 (nI z16) z17 z18 z19 1) (cwV 1 hg (gV wd_725 wd_726 wd_727 wd_717 wd_728) rfl rfl rfl (by decide +kernel) ⟨(Nat.le_trans (Nat.le_of_ble_eq_true rfl) hRf), (Nat.le_trans (Nat.le_of_ble_eq_true rfl) hRl)⟩) ⟨Pr.blind, va_recv hK hP (ci := 13) (q0 := 0) rfl rfl, fun U hU hW => ⟨rfl, Pr.at hPc hKc hDc hN hU hW⟩⟩ rfl rfl hl.1 rfl (lv_room (Nat.le_of_ble_eq_true rfl)) dX13_close_15 ⟨(Nat.le_trans (Nat.le_of_ble_eq_true rfl) hRc), (Nat.le_trans (Nat.le_of_ble_eq_true rfl) hRs)⟩) hS (fun q _ h => hFc q h) hFc (fun r_783 M_784 t H_782 locs ht hvm hw hB hz1 hk1 hS => ?_)
    have hp_785 := hw
    obtain ⟨hP1, hK1, hD1⟩ := hB
    rw [ht] at hP1
    obtain ⟨hP, hD⟩ := va_joinQ (X := [(za, (b13_0 0 z1 (nI z2) (nI z3) z4 z5 z6 z7 z8 z9 (nI z10) z11 z12 z13 z14 z15 (nI z16) z17 z18 z19))]) (cx := [(za, (b13_0 0 z1 (nI z2) (nI z3) z4 z5 z6 z7 z8 z9 (nI z10) z11 z12 z13 z14 z15 (nI z16) z17 z18 z19))]) (wr := []) (w1 := [(za, (b13_0 0 z1 (nI z2) (nI z3) 1 (-1) z6 z7 z8 z9 (nI z10) z11 z12 z13 z14 z15 (nI z16) z17 z18 z19))]) (pl := va_pl L M) hP hD [0] [] rfl rfl (by decide) (by decide) hk1 hFc hP1 hD1
    have hP : va_P D vwCl ([(za, (b13_0 0 z1 (nI z2) (nI z3) 1 (-1) z6 z7 z8 z9 (nI z10) z11 z12 z13 z14 z15 (nI z16) z17 z18 z19))] ++ va_pl L M) H_782 := hP
    have hD : va_D A ([(za, (b13_0 0 z1 (nI z2) (nI z3) 1 (-1) z6 z7 z8 z9 (nI z10) z11 z12 z13 z14 z15 (nI z16) z17 z18 z19))] ++ va_pl L M) := hD
    have hq := Eq.symm hp_785
    subst hq
    have hno : ¬ okCl z2 PK PT SX SY k1 := fun q9 => by unfold okCl okH at q9; first | omega | (obtain ⟨⟨_, _⟩, _, _, _, _⟩ := q9; first | omega | contradiction)
    rw [hQ]
    exact W.iret (v := (-1)) hx hb hr (fun t ht hW9 => ⟨⟨(-1), M, rfl, ⟨hW, hF, hG, ⟨hGI, fun _ => 0, fun _ _ => 0, fun w9 => absurd w9 hno, (by unfold sxCl syCl; rw [if_neg hno, if_neg hno]; exact hZS)⟩, (by unfold anCl; rw [if_neg hno])⟩, ⟨1, (-1), z16, (by omega), (WHR.np (fun w9 => by obtain ⟨⟨a0, a1⟩, a2, a3⟩ := w9; omega)), by rw [ht]; exact hP, hD⟩⟩, hS.F ht⟩) hS.2.2 dX13_close_18
