set_option maxHeartbeats 4000000 in
set_option maxRecDepth 100000 in
theorem z_close (l : Launch) (D : va_G) (cy : Nat → ClassId) (K : Kp) (L : List Nat) (M : Hp) (sz : Nat) (za : Nat) (z0 : Int32) (z1 : Nat) (z2 : Nat) (z3 : Nat) (z4 : Int32) (z5 : Int32) (z6 : Nat) (z7 : Nat) (z8 : Nat) (z9 : Nat) (z10 : Nat) (z11 : Nat) (z12 : Nat) (z13 : Nat) (z14 : Nat) (z15 : Nat) (z16 : Nat) (z17 : Nat) (z18 : Int32) (z19 : Nat) (k1 : Int32) (SX : Nat → Nat → Int) (SY : Nat → Nat → Nat → Int32) (PK : Nat → Int32) (PT : Nat → Int32) (hW : WOM cy K L M) (i1 : isk K L z1 23 8) (b2 : z2 ≤ 8) (b3 : z3 ≤ 40) (i6 : isk K L z6 47 40) (i7 : isk K L z7 48 40) (i8 : isk K L z8 49 8) (i9 : isk K L z9 50 8) (b10 : z10 ≤ 8) (i11 : isk K L z11 32 24) (i12 : isk K L z12 14 24) (i13 : isk K L z13 15 24) (i14 : isk K L z14 15 24) (i15 : isk K L z15 15 24) (b16 : z16 ≤ 24) (i17 : isk K L z17 14 24) (i19 : isk K L z19 15 25) (hGI : GI K L z1 z2 M) (hZS : ZSx z1 z2 SX SY M) (hR5 : R5 z6 z7 M) (hZP : ZP z6 z7 PK PT M) : Met l yX13_close (wsM yX13_close cX13_close 8 (some .int)) ({ frames := 6, cells := 0, slots := 0, locals := 165 }) (va_Pc [.ref za, .int k1] (PG D cy [(za, .inr (13, [.int z0, .ref z1, .int (nI z2), .int (nI z3), .int z4, .int z5, .ref z6, .ref z7, .ref z8, .ref z9, .int (nI z10), .ref z11, .ref z12, .ref z13, .ref z14, .ref z15, .int (nI z16), .ref z17, .int z18, .ref z19]))] L M sz)) (va_Qi (fun (r : Int32) (M9 : Hp) => WOM cy K L M9 ∧ fr K L [12, 14, 15, 32, 42, 45, 46, 79, 80, 81, 83] M M9 ∧ fG K L [1, 7, 8, 13, 14, 15, 16, 17, 18] M M9 ∧ (GI K L z1 z2 M9 ∧ ∃ (X9 : Nat → Int) (Y9 : Nat → Nat → Int32), (okCl z2 PK PT SX SY k1 → CLF (enD (SX k1.toNatClampNeg) (SY k1.toNatClampNeg)) (SX k1.toNatClampNeg) (SY k1.toNatClampNeg) X9 Y9) ∧ ZSx z1 z2 (sxCl z2 PK PT SX SY k1 X9) (syCl z2 PK PT SX SY k1 Y9) M9) ∧ ((r = anCl z2 PK PT SX SY k1))) (fun M9 t => ∃ (w4 : Int32) (w5 : Int32) (w16 : Nat), w16 ≤ 24 ∧ PQ D [(za, .inr (13, [.int 0, .ref z1, .int (nI z2), .int (nI z3), .int w4, .int w5, .ref z6, .ref z7, .ref z8, .ref z9, .int (nI z10), .ref z11, .ref z12, .ref z13, .ref z14, .ref z15, .int (nI w16), .ref z17, .int z18, .ref z19]))] L M9 (va_A ([(za, .inr (13, [.int z0, .ref z1, .int (nI z2), .int (nI z3), .int z4, .int z5, .ref z6, .ref z7, .ref z8, .ref z9, .int (nI z10), .ref z11, .ref z12, .ref z13, .ref z14, .ref z15, .int (nI z16), .ref z17, .int z18, .ref z19]))] ++ va_pl L M) sz) t) (va_A ([(za, .inr (13, [.int z0, .ref z1, .int (nI z2), .int (nI z3), .int z4, .int z5, .ref z6, .ref z7, .ref z8, .ref z9, .int (nI z10), .ref z11, .ref z12, .ref z13, .ref z14, .ref z15, .int (nI z16), .ref z17, .int z18, .ref z19]))] ++ va_pl L M) sz)) 0 0 (va_A ([(za, .inr (13, [.int z0, .ref z1, .int (nI z2), .int (nI z3), .int z4, .int z5, .ref z6, .ref z7, .ref z8, .ref z9, .int (nI z10), .ref z11, .ref z12, .ref z13, .ref z14, .ref z15, .int (nI z16), .ref z17, .int z18, .ref z19]))] ++ va_pl L M) sz) := by
  refine Met.ofW (cc := cX13_close) (maxL := 8) (ret := (some .int)) (by decide) rfl ?_
  intro p e s m args below meth c s₁ B hml hv
  obtain ⟨rfl, hsz, hP, hK, hD0, hN⟩ := hv
  have hx := B.exec
  have hb := B.bytes
  have hr := B.returns
  have hts := atoms_spec (ws := (wsM yX13_close cX13_close 8 (some .int))) B.pre
  have hg : ∀ w ∈ lw_good, w.before _ s = true := fun w h => hts w (List.mem_cons_of_mem _ h)
  have hown : s.vm.findClass RX13 = some m.cls := findClass_of_methodNamed B.named
  have hlocks := B.notSynchronized
  subst hsz
  have hD := hD0.self (sz := s.heap.size)
  generalize hAe : va_A ([(za, .inr (13, [.int z0, .ref z1, .int (nI z2), .int (nI z3), .int z4, .int z5, .ref z6, .ref z7, .ref z8, .ref z9, .int (nI z10), .ref z11, .ref z12, .ref z13, .ref z14, .ref z15, .int (nI z16), .ref z17, .int z18, .ref z19]))] ++ va_pl L M) s.heap.size = A at hD ⊢
  have hA : ∀ q : Nat, s.heap.size ≤ q → A q := fun q h => by rw [← hAe]; exact Or.inr h
  have hS : va_S A s.heap s.heap [] := va_S.rf
  have hl := lv_entry ([.ref za, .int k1]) (n := 8) (Nat.le_of_ble_eq_true rfl)
  rw [lg_entry_eq]
  generalize (lg_sl ([.ref za, .int k1]) ++ List.replicate (8 - (lg_sl ([.ref za, .int k1])).length) Slot.unset).toArray = ls at hl ⊢
  refine W.nameQ (fun Q hQ => ?_)
  refine W.nameR (fun R hR => ?_)
  have hRf : 6 ≤ R.frames := by rw [hR]; exact Nat.le_of_ble_eq_true rfl
  have hRl : 165 ≤ R.locals := by rw [hR]; exact Nat.le_of_ble_eq_true rfl
  have hRc : 0 ≤ R.cells := by rw [hR]; exact Nat.le_of_ble_eq_true rfl
  have hRs : 0 ≤ R.slots := by rw [hR]; exact Nat.le_of_ble_eq_true rfl
  have hF : fr K L [12, 14, 15, 32, 42, 45, 46, 79, 80, 81, 83] M M := fr.rf
  have hG : fG K L [1, 7, 8, 13, 14, 15, 16, 17, 18] M M := fG.rf
  have hl : lv_has ls 8 [(0, .ref za), (1, .int k1)] := hl
  have hW0 := hW
  refine lv_aload_n hx hb dX13_close_0 rfl (lv_at hl 0 rfl) ?_
  refine lv_iconst (v := 0) hx hb dX13_close_1 (by decide) ?_
  refine va_put (D := D) (ci := 13) (v := .int 0) (ty := .int) (C := RX13) (T := TX13) (N := 20) hx hb hg inG13 tyX13 tyX13_ok nmX13 hown hK hP hD hS 0 rfl rfl 0 (by decide) (hg _ wd_720) (fun _ h9 => h9) rfl (by decide +kernel) rfl rfl (Nat.le_of_ble_eq_true rfl) dX13_close_2 (fun H_1 locs hP hD hS => ?_)
  have hP : va_P D vwCl ([(za, .inr (13, [.int 0, .ref z1, .int (nI z2), .int (nI z3), .int z4, .int z5, .ref z6, .ref z7, .ref z8, .ref z9, .int (nI z10), .ref z11, .ref z12, .ref z13, .ref z14, .ref z15, .int (nI z16), .ref z17, .int z18, .ref z19]))] ++ va_pl L M) H_1 := hP
  have hD : va_D A ([(za, .inr (13, [.int 0, .ref z1, .int (nI z2), .int (nI z3), .int z4, .int z5, .ref z6, .ref z7, .ref z8, .ref z9, .int (nI z10), .ref z11, .ref z12, .ref z13, .ref z14, .ref z15, .int (nI z16), .ref z17, .int z18, .ref z19]))] ++ va_pl L M) := hD
  refine lv_aload_n hx hb dX13_close_5 rfl (lv_at hl 0 rfl) ?_
  refine lv_iload_n hx hb dX13_close_6 rfl (lv_at hl 1 rfl) ?_
  have hPc : va_P D vwCl ([(za, .inr (13, [.int 0, .ref z1, .int (nI z2), .int (nI z3), .int z4, .int z5, .ref z6, .ref z7, .ref z8, .ref z9, .int (nI z10), .ref z11, .ref z12, .ref z13, .ref z14, .ref z15, .int (nI z16), .ref z17, .int z18, .ref z19]))] ++ va_pl L M) H_1 := hP
  have hDc : va_D A ([(za, .inr (13, [.int 0, .ref z1, .int (nI z2), .int (nI z3), .int z4, .int z5, .ref z6, .ref z7, .ref z8, .ref z9, .int (nI z10), .ref z11, .ref z12, .ref z13, .ref z14, .ref z15, .int (nI z16), .ref z17, .int z18, .ref z19]))] ++ va_pl L M) := hD
  have hFc : ∀ q, va_A ([(za, .inr (13, [.int 0, .ref z1, .int (nI z2), .int (nI z3), .int z4, .int z5, .ref z6, .ref z7, .ref z8, .ref z9, .int (nI z10), .ref z11, .ref z12, .ref z13, .ref z14, .ref z15, .int (nI z16), .ref z17, .int z18, .ref z19]))] ++ va_pl L M) H_1.size q → A q := pg_free hDc hS hA
  refine va_calli (va_runV (As := [.int k1]) (rest := []) ⟨hx, hb, hml, hown, hg⟩ (f_isHouse l D cy K L M H_1.size za 0 z1 z2 z3 z4 z5 z6 z7 z8 z9 z10 z11 z12 z13 z14 z15 z16 z17 z18 z19 k1  hW i1 b2 b3 i6 i7 i8 i9 b10 i11 i12 i13 i14 i15 b16 i17 i19) (cwV 1 hg (gV wd_714 wd_715 wd_716 wd_717 wd_718) rfl rfl rfl (by decide +kernel) ⟨(Nat.le_trans (Nat.le_of_ble_eq_true rfl) hRf), (Nat.le_trans (Nat.le_of_ble_eq_true rfl) hRl)⟩) ⟨PG.blind, va_recv hK hP (ci := 13) (q0 := 0) rfl rfl, fun U hU hW => ⟨rfl, PG.at hPc hK hDc hN hU hW⟩⟩ rfl rfl hl.1 rfl (lv_room (Nat.le_of_ble_eq_true rfl)) dX13_close_7 ⟨(Nat.le_trans (Nat.le_of_ble_eq_true rfl) hRc), (Nat.le_trans (Nat.le_of_ble_eq_true rfl) hRs)⟩) hS (fun q _ h => hFc q h) hFc (fun r_3 M_4 t H_2 locs ht hvm hw hB hz1 hk1 hS => ?_)
  have hp_5 := hw
  obtain ⟨hP1, hD1⟩ := hB
  rw [ht] at hP1
  have hP : va_P D vwCl ([(za, .inr (13, [.int 0, .ref z1, .int (nI z2), .int (nI z3), .int z4, .int z5, .ref z6, .ref z7, .ref z8, .ref z9, .int (nI z10), .ref z11, .ref z12, .ref z13, .ref z14, .ref z15, .int (nI z16), .ref z17, .int z18, .ref z19]))] ++ va_pl L M) H_2 := hP1
  have hD : va_D A ([(za, .inr (13, [.int 0, .ref z1, .int (nI z2), .int (nI z3), .int z4, .int z5, .ref z6, .ref z7, .ref z8, .ref z9, .int (nI z10), .ref z11, .ref z12, .ref z13, .ref z14, .ref z15, .int (nI z16), .ref z17, .int z18, .ref z19]))] ++ va_pl L M) := hD1.mono hFc
  rcases hp_5 with ⟨rfl, c_6, c_7, c_8⟩ | ⟨rfl, c_9⟩
  · have hz := rfl (a := 0)
    refine lv_if_ne (tgt := 19) hx hb dX13_close_10 (by decide) (fun _ => ?_) (fun c_10 => absurd c_10 (by decide))
    refine lv_aload_n hx hb dX13_close_19 rfl (lv_at hl 0 rfl) ?_
    refine va_get (D := D) (ci := 13) (v := .ref z1) (C := RX13) (T := TX13) (N := 20) hx hb hg inG13 hown hK hP 0 rfl rfl 1 (by decide) (hg _ wd_739) (fun _ h9 => h9) rfl dX13_close_20 ?_
    refine lv_iload_n hx hb dX13_close_23 rfl (lv_at hl 1 rfl) ?_
    obtain ⟨f11, hM11, hf11⟩ := hW.open_23 i1
    have hi_12 : vp_in k1 8 := (inbW (a := z2) (by omega) (inb k1 z2 (by omega) c_7 c_8))
    refine pg_aldq hx hb hK hP i1.1 9 hM11 rfl hi_12 dX13_close_24 ?_
    obtain ⟨b13, eb_14, hb_15⟩ := hf11 _ (vp_lt hi_12)
    rw [eb_14]
    have hact : ACT z1 z2 b13 M := ⟨(k1 : Int32).toNatClampNeg, vp_lt (inb k1 z2 (by omega) c_7 c_8), by rw [show RFc (M z1) = f11 from by rw [hM11]; rfl]; exact eb_14⟩
    have hAT := GI.at hGI hact
    have hV : VW K L M M b13 (fx M b13) (ax M b13) := VW.rf b13 hGI.2.2.2
    refine lv_astore_n (lv' := [(2, .ref b13), (0, .ref za), (1, .int k1)]) hx hb dX13_close_25 rfl hl (by decide) rfl (fun ls hl => ?_)
    have hb9 : RFc (M z1) (k1 : Int32).toNatClampNeg = some b13 := by rw [show RFc (M z1) = f11 from by rw [hM11]; rfl]; exact eb_14
    have hkn : (k1 : Int32).toNatClampNeg < z2 := vp_lt (inb k1 z2 (by omega) c_7 c_8)
    have hZk := hZS _ b13 hkn hb9
    have hz0 : fx M b13 0 = SX (k1 : Int32).toNatClampNeg 0 := congrFun hZk.1 0
    have hz1 : fx M b13 1 = SX (k1 : Int32).toNatClampNeg 1 := congrFun hZk.1 1
    have hz10 : fx M b13 10 = SX (k1 : Int32).toNatClampNeg 10 := congrFun hZk.1 10
    have hz11 : fx M b13 11 = SX (k1 : Int32).toNatClampNeg 11 := congrFun hZk.1 11
    have hz12 : fx M b13 12 = SX (k1 : Int32).toNatClampNeg 12 := congrFun hZk.1 12
    have hz13 : fx M b13 13 = SX (k1 : Int32).toNatClampNeg 13 := congrFun hZk.1 13
    have hz14 : fx M b13 14 = SX (k1 : Int32).toNatClampNeg 14 := congrFun hZk.1 14
    have hz15 : fx M b13 15 = SX (k1 : Int32).toNatClampNeg 15 := congrFun hZk.1 15
    have hz16 : fx M b13 16 = SX (k1 : Int32).toNatClampNeg 16 := congrFun hZk.1 16
    obtain ⟨fs16, hM16, hn16, hl16⟩ := hW.open_12 hb_15
    obtain ⟨v17, hv17, hc17⟩ : ∃ v : Nat, fs16[0]? = some (.int (nI v) : Value) ∧ v ≤ 999 := hl16 0 (by decide)
    have hx0 : (fx M b13 0) = ((v17 : Nat) : Int) := (congrFun hV.2.1 0).symm.trans ((fx_of hM16 rfl hv17).trans (nI_toInt (by omega)))
    obtain ⟨v18, hv18, hc18⟩ : ∃ v : Int32, fs16[1]? = some (.int v : Value) ∧ (v = (-1) ∨ ∃ c : Nat, c < 1000 ∧ v = nI c) := hl16 1 (by decide)
    have hx1 : (fx M b13 1) = (v18 : Int32).toInt := (congrFun hV.2.1 1).symm.trans (fx_of hM16 rfl hv18)
    obtain ⟨v19, hv19, hc19⟩ : ∃ v : Nat, fs16[11]? = some (.int (nI v) : Value) ∧ v ≤ 16 := hl16 11 (by decide)
    have hx11 : (fx M b13 11) = ((v19 : Nat) : Int) := (congrFun hV.2.1 11).symm.trans ((fx_of hM16 rfl hv19).trans (nI_toInt (by omega)))
    obtain ⟨v20, hv20, hc20⟩ : ∃ v : Nat, fs16[12]? = some (.int (nI v) : Value) ∧ v ≤ 12 := hl16 12 (by decide)
    have hx12 : (fx M b13 12) = ((v20 : Nat) : Int) := (congrFun hV.2.1 12).symm.trans ((fx_of hM16 rfl hv20).trans (nI_toInt (by omega)))
    obtain ⟨v21, hv21, hc21⟩ : ∃ v : Nat, fs16[13]? = some (.int (nI v) : Value) ∧ v ≤ 12 := hl16 13 (by decide)
    have hx13 : (fx M b13 13) = ((v21 : Nat) : Int) := (congrFun hV.2.1 13).symm.trans ((fx_of hM16 rfl hv21).trans (nI_toInt (by omega)))
    obtain ⟨v22, hv22, hc22⟩ : ∃ v : Nat, fs16[37]? = some (.ref v : Value) ∧ isk K L v 38 12 := hl16 37 (by decide)
    obtain ⟨f23, hM23, hf23⟩ := hW.open_38 hc22
    have hy37 : (ax M b13 37) = f23 := (congrFun hV.2.2.1 37).symm.trans (ax_of hM16 (by decide) hv22 hM23)
    have hb13 := hx13
    have hb12 := hx12
    have hb0 := hx0
    have hb37 := hy37
    refine lv_aload_n hx hb dX13_close_26 rfl (lv_at hl 0 rfl) ?_
    refine pg_getN (D := D) (ci := 12) (v := .int (nI v21)) (C := RX12) (T := TX12) (N := 51) hx hb hg inG12 hown hK hP hb_15.1 hM16 rfl 13 (by decide) (hN.use (Cond.fieldLinkNest RX13 244 RX12 "closed" "I" RX13) 22 rfl rfl) (fun _ h9 => h9) hv21 dX13_close_27 ?_
    refine lv_aload_n hx hb dX13_close_30 rfl (lv_at hl 0 rfl) ?_
    refine pg_getN (D := D) (ci := 12) (v := .int (nI v20)) (C := RX12) (T := TX12) (N := 51) hx hb hg inG12 hown hK hP hb_15.1 hM16 rfl 12 (by decide) (hN.use (Cond.fieldLinkNest RX13 233 RX12 "years" "I" RX13) 21 rfl rfl) (fun _ h9 => h9) hv20 dX13_close_31 ?_
    refine lv_icmp_ne (tgt := 44) hx hb dX13_close_34 (by decide) (fun c_24 => ?_) (fun c_24 => ?_)
    · have hz := rfl (a := 0)
      have n_25 : ¬ (v21 = v20) := fun q => c_24 ((iEQ (a := v21) (b := v20) (by omega) (by omega)).mpr q)
      refine lv_aload_n hx hb dX13_close_44 rfl (lv_at hl 0 rfl) ?_
      refine pg_getN (D := D) (ci := 12) (v := .int (nI v19)) (C := RX12) (T := TX12) (N := 51) hx hb hg inG12 hown hK hP hb_15.1 hM16 rfl 11 (by decide) (hN.use (Cond.fieldLinkNest RX13 142 RX12 "rules" "I" RX13) 20 rfl rfl) (fun _ h9 => h9) hv19 dX13_close_45 ?_
      refine lv_if_ne (tgt := 57) hx hb dX13_close_48 (by decide) (fun c_26 => ?_) (fun c_26 => ?_)
      · have hz := rfl (a := 0)
        have n_27 : ¬ (v19 = 0) := fun q => c_26 ((iEQ (a := v19) (b := 0) (by omega) (by omega)).mpr q)
        refine lv_aload_n hx hb dX13_close_57 rfl (lv_at hl 0 rfl) ?_
        refine pg_getN (D := D) (ci := 12) (v := .int v18) (C := RX12) (T := TX12) (N := 51) hx hb hg inG12 hown hK hP hb_15.1 hM16 rfl 1 (by decide) (hN.use (Cond.fieldLinkNest RX13 80 RX12 "to" "I" RX13) 10 rfl rfl) (fun _ h9 => h9) hv18 dX13_close_58 ?_
        rcases hc18 with rfl | ⟨c_28, hc_29, rfl⟩
        · have hz := rfl (a := 0)
          refine lv_iconst (v := 1) hx hb dX13_close_61 (by decide) ?_
          refine lv_iadd hx hb dX13_close_62 ?_
          refine lv_topi (fun f_30 ef_30 => ?_)
          obtain rfl : f_30 = 0 := by rw [ef_30]; decide
          refine lv_istore_n (lv' := [(3, .int 0), (2, .ref b13), (0, .ref za), (1, .int k1)]) hx hb dX13_close_63 rfl hl (by decide) rfl (fun ls hl => ?_)
          have hlt13 : v21 < v20 := by have h := hAT.2.2.2.2.1; omega
          refine lv_aload_n hx hb dX13_close_64 rfl (lv_at hl 1 rfl) ?_
          refine pg_getN (D := D) (ci := 12) (v := .ref v22) (C := RX12) (T := TX12) (N := 51) hx hb hg inG12 hown hK hP hb_15.1 hM16 rfl 37 (by decide) (hN.use (Cond.fieldLinkNest RX13 236 RX12 "end" "[I" RX13) 46 rfl rfl) (fun _ h9 => h9) hv22 dX13_close_65 ?_
          refine lv_aload_n hx hb dX13_close_68 rfl (lv_at hl 1 rfl) ?_
          refine pg_getN (D := D) (ci := 12) (v := .int (nI v21)) (C := RX12) (T := TX12) (N := 51) hx hb hg inG12 hown hK hP hb_15.1 hM16 rfl 13 (by decide) (hN.use (Cond.fieldLinkNest RX13 244 RX12 "closed" "I" RX13) 22 rfl rfl) (fun _ h9 => h9) hv21 dX13_close_69 ?_
          have hi_31 : vp_in (nI v21) 12 := (inbN v21 12 (by omega) (by omega))
          refine pg_iald hx hb hK hP hc22.1 0 hM23 rfl hi_31 dX13_close_72 ?_
          have hp_32 := hf23 _ (vp_lt hi_31)
          obtain ⟨c_33, hc_34, ec_35⟩ := hp_32
          rw [ec_35]
          refine lv_istore (lv' := [(4, .int (nI c_33)), (3, .int 0), (2, .ref b13), (0, .ref za), (1, .int k1)]) hx hb dX13_close_73 hl (by decide) rfl (fun ls hl => ?_)
          have hx1b : fx M b13 1 = ((0 : Nat) : Int) - 1 := by rw [hx1]; first | decide | (rw [nI_toInt (by omega)]; omega)
          obtain ⟨hq1, hq2, hq3, hq4⟩ := heC hAT.2.2.2.2 hb13 hb12 (by omega) (by omega) hb37 (nI_cl (by omega)) ec_35 (by omega)
          have h11 : 1 ≤ fx M b13 11 := by omega
          have hT37 : (ax M b13 37 v21).toInt = ((c_33 : Nat) : Int) := by
            have h := ec_35
            rw [nI_cl (by omega)] at h
            rw [hb37, h, nI_toInt (by omega)]
          have hEd : enD (SX (k1 : Int32).toNatClampNeg) (SY (k1 : Int32).toNatClampNeg) = ((c_33 : Nat) : Int) := by unfold enD; rw [← hZk.2, show (SX (k1 : Int32).toNatClampNeg 13).toNat = v21 by omega]; exact hT37
          refine lv_iload_n hx hb dX13_close_75 rfl (lv_at hl 1 rfl) ?_
          refine lv_istore (lv' := [(5, .int 0), (4, .int (nI c_33)), (3, .int 0), (2, .ref b13), (0, .ref za), (1, .int k1)]) hx hb dX13_close_76 hl (by decide) rfl (fun ls hl => ?_)
          have key_36 : ∀ (fu_38 : Nat) (v5w39 : Nat) (M_42 : Hp) (H_43 : Heap) (locs : List Loc) (ls : Array Slot), 1001 - v5w39 < fu_38 → M_42 b13 = .inr (12, fs16) → v5w39 ≤ 1000 → (∀ d : Nat, SX (k1 : Int32).toNatClampNeg 1 < (d : Int) → d < v5w39 → ¬ opD (SY (k1 : Int32).toNatClampNeg) d) → WOM cy K L M_42 → fr K L [12, 14, 15, 32, 42, 45, 46, 79, 80, 81, 83] M M_42 → fG K L [1, 7, 8, 13, 14, 15, 16, 17, 18] M M_42 → VW K L M M_42 b13 (fx M b13) (ax M b13) → va_P D vwCl ([(za, .inr (13, [.int 0, .ref z1, .int (nI z2), .int (nI z3), .int z4, .int z5, .ref z6, .ref z7, .ref z8, .ref z9, .int (nI z10), .ref z11, .ref z12, .ref z13, .ref z14, .ref z15, .int (nI z16), .ref z17, .int z18, .ref z19]))] ++ va_pl L M_42) H_43 → va_D A ([(za, .inr (13, [.int 0, .ref z1, .int (nI z2), .int (nI z3), .int z4, .int z5, .ref z6, .ref z7, .ref z8, .ref z9, .int (nI z10), .ref z11, .ref z12, .ref z13, .ref z14, .ref z15, .int (nI z16), .ref z17, .int z18, .ref z19]))] ++ va_pl L M_42) → va_S A s.heap H_43 locs → lv_has ls 8 [(5, .int (nI v5w39)), (4, .int (nI c_33)), (3, .int 0), (2, .ref b13), (0, .ref za), (1, .int k1)] → W p l e R s m ([.ref za, .int k1] : List Value).toArray below meth c H_43 locs 0 0 Q (F0 m 78 ls []) := by
            intro fu_38
            induction fu_38 with
            | zero => intro v5w39 M_42 H_43 locs ls h; exact absurd h (Nat.not_lt_zero _)
            | succ fu_38 ih_37 =>
              intro v5w39 M_42 H_43 locs ls hfu hM_44 hx_40 hx_41 hW hF hG hV hP hD hS hl
              refine lv_iload hx hb dX13_close_78 (lv_at hl 0 rfl) ?_
              refine lv_iload hx hb dX13_close_80 (lv_at hl 1 rfl) ?_
              refine lv_icmp_gt (tgt := 108) hx hb dX13_close_82 (by decide) (fun c_45 => ?_) (fun c_45 => ?_)
              · have hz := rfl (a := 0)
                have n_46 : c_33 < v5w39 := (iLT (a := c_33) (b := v5w39) (by omega) (by omega)).mp c_45
                have hall := hx_41
                have hv5 : c_33 < v5w39 := by omega
                have hI_47 : (0 : Int) ≤ (k1 : Int32).toInt := inltI rfl rfl c_7
                have hI_48 : (k1 : Int32).toInt < ((z2 : Nat) : Int) := inleI (nI_toInt (by omega)) rfl c_8
                have hI_49 : ((v21 : Nat) : Int) ≠ ((v20 : Nat) : Int) := ineI (nI_toInt (by omega)) (nI_toInt (by omega)) c_24
                have hI_50 : ((v19 : Nat) : Int) ≠ (0 : Int) := ineI (nI_toInt (by omega)) rfl c_26
                have hI_51 : ((c_33 : Nat) : Int) < ((v5w39 : Nat) : Int) := iltI (nI_toInt (by omega)) (nI_toInt (by omega)) c_45
                have hZSw := ZSx.fin hW0 i1 b2 hZS hGI.1 hkn hb9 hV (hF.at i1 (by decide)) hZk.1 hZk.2
                rw [va_upJ, va_upJ] at hZSw
                have hZPw := ZP.mv hZP i6 i7 hF (by decide) (by decide)
                refine lv_aload_n hx hb dX13_close_108 rfl (lv_at hl 4 rfl) ?_
                refine lv_iload_n hx hb dX13_close_109 rfl (lv_at hl 5 rfl) ?_
                refine lv_iload hx hb dX13_close_110 (lv_at hl 1 rfl) ?_
                have hPc : va_P D vwCl ([(za, .inr (13, [.int 0, .ref z1, .int (nI z2), .int (nI z3), .int z4, .int z5, .ref z6, .ref z7, .ref z8, .ref z9, .int (nI z10), .ref z11, .ref z12, .ref z13, .ref z14, .ref z15, .int (nI z16), .ref z17, .int z18, .ref z19]))] ++ va_pl L M_42) H_43 := hP
                have hDc : va_D A ([(za, .inr (13, [.int 0, .ref z1, .int (nI z2), .int (nI z3), .int z4, .int z5, .ref z6, .ref z7, .ref z8, .ref z9, .int (nI z10), .ref z11, .ref z12, .ref z13, .ref z14, .ref z15, .int (nI z16), .ref z17, .int z18, .ref z19]))] ++ va_pl L M_42) := hD
                have hFc : ∀ q, va_A ([(za, .inr (13, [.int 0, .ref z1, .int (nI z2), .int (nI z3), .int z4, .int z5, .ref z6, .ref z7, .ref z8, .ref z9, .int (nI z10), .ref z11, .ref z12, .ref z13, .ref z14, .ref z15, .int (nI z16), .ref z17, .int z18, .ref z19]))] ++ va_pl L M_42) H_43.size q → A q := pg_free hDc hS hA
                refine va_calli (va_runV (As := [.int k1, .int (nI c_33)]) (rest := []) ⟨hx, hb, hml, hown, hg⟩ (z_behind l D cy K L M_42 H_43.size za 0 z1 z2 z3 z4 z5 z6 z7 z8 z9 z10 z11 z12 z13 z14 z15 z16 z17 z18 z19 k1 (nI c_33) SX SY PK PT  hW i1 b2 b3 i6 i7 i8 i9 b10 i11 i12 i13 i14 i15 b16 i17 i19 hZSw hZPw (by omega)) (cwV 2 hg (gV wd_853 wd_854 wd_855 wd_717 wd_856) rfl rfl rfl (by decide +kernel) ⟨(Nat.le_trans (Nat.le_of_ble_eq_true rfl) hRf), (Nat.le_trans (Nat.le_of_ble_eq_true rfl) hRl)⟩) ⟨PG.blind, va_recv hK hP (ci := 13) (q0 := 0) rfl rfl, fun U hU hW => ⟨rfl, PG.at hPc hK hDc hN hU hW⟩⟩ rfl rfl hl.1 rfl (lv_room (Nat.le_of_ble_eq_true rfl)) dX13_close_112 ⟨(Nat.le_trans (Nat.le_of_ble_eq_true rfl) hRc), (Nat.le_trans (Nat.le_of_ble_eq_true rfl) hRs)⟩) hS (fun q _ h => hFc q h) hFc (fun r_53 M_54 t H_52 locs ht hvm hw hB hz1 hk1 hS => ?_)
                have hp_55 := hw
                obtain ⟨hP1, hD1⟩ := hB
                rw [ht] at hP1
                have hP : va_P D vwCl ([(za, .inr (13, [.int 0, .ref z1, .int (nI z2), .int (nI z3), .int z4, .int z5, .ref z6, .ref z7, .ref z8, .ref z9, .int (nI z10), .ref z11, .ref z12, .ref z13, .ref z14, .ref z15, .int (nI z16), .ref z17, .int z18, .ref z19]))] ++ va_pl L M_42) H_52 := hP1
                have hD : va_D A ([(za, .inr (13, [.int 0, .ref z1, .int (nI z2), .int (nI z3), .int z4, .int z5, .ref z6, .ref z7, .ref z8, .ref z9, .int (nI z10), .ref z11, .ref z12, .ref z13, .ref z14, .ref z15, .int (nI z16), .ref z17, .int z18, .ref z19]))] ++ va_pl L M_42) := hD1.mono hFc
                rcases hp_55 with ⟨rfl, c_56⟩ | ⟨j_57, rfl, c_58, c_59, c_60, c_61⟩
                · have hz := rfl (a := 0)
                  refine lv_istore (lv' := [(5, .int (-1)), (4, .int (nI c_33)), (3, .int 0), (2, .ref b13), (0, .ref za), (1, .int k1)]) hx hb dX13_close_115 hl (by decide) rfl (fun ls hl => ?_)
                  refine lv_iload hx hb dX13_close_117 (lv_at hl 0 rfl) ?_
                  refine lv_iconst (v := (-1)) hx hb dX13_close_119 (by decide) ?_
                  refine lv_icmp_eq (tgt := 132) hx hb dX13_close_120 (by decide) (fun _ => ?_) (fun c_62 => absurd c_62 (by decide))
                  refine lv_aload_n hx hb dX13_close_132 rfl (lv_at hl 3 rfl) ?_
                  refine lv_iconst (v := 0) hx hb dX13_close_133 (by decide) ?_
                  refine pg_putN (D := D) (ci := 12) (v := .int 0) (ty := .int) (C := RX12) (T := TX12) (N := 51) hx hb hg inG12 tyX12 tyX12_ok nmX12 hown hK hP hD hS hb_15.1 hM_44 rfl 17 (by decide) (hN.use (Cond.fieldLinkNest RX13 256 RX12 "stretches" "I" RX13) 26 rfl rfl) (fun _ h9 => h9) rfl (by decide +kernel) rfl rfl (by rw [hn16]; decide) dX13_close_134 (fun H_63 locs hP hD hS => ?_)
                  have hs_66 : (fs16.set 17 (.int 0))[17]? = some (.int (nI 0)) := List.getElem?_set_self (by rw [hn16]; decide)
                  have hk_65 := fld12_set (k := 17) (w := .int 0) hl16 (show fld12 K L 17 (fs16.set 17 (.int 0)) from ⟨0, hs_66, by omega⟩)
                  have hn_67 : (fs16.set 17 (.int 0)).length = 51 := by rw [List.length_set]; exact hn16
                  have hv_68 : (fs16.set 17 (.int 0))[0]? = some (.int (nI v17)) := by rw [List.getElem?_set_ne (by decide)]; exact hv17
                  have hv_69 : (fs16.set 17 (.int 0))[1]? = some (.int (-1)) := by rw [List.getElem?_set_ne (by decide)]; exact hv18
                  have hv_70 : (fs16.set 17 (.int 0))[11]? = some (.int (nI v19)) := by rw [List.getElem?_set_ne (by decide)]; exact hv19
                  have hv_71 : (fs16.set 17 (.int 0))[12]? = some (.int (nI v20)) := by rw [List.getElem?_set_ne (by decide)]; exact hv20
                  have hv_72 : (fs16.set 17 (.int 0))[13]? = some (.int (nI v21)) := by rw [List.getElem?_set_ne (by decide)]; exact hv21
                  have hv_73 : (fs16.set 17 (.int 0))[37]? = some (.ref v22) := by rw [List.getElem?_set_ne (by decide)]; exact hv22
                  have hb_74 : 0 ≤ 120 := by omega
                  obtain ⟨M_75, eM_75⟩ : ∃ M1 : Hp, M1 = va_up M_42 b13 (.inr (12, fs16.set 17 (.int 0))) := ⟨_, rfl⟩
                  have hV : VW K L M M_75 b13 (va_up (fx M b13) 17 (0 : Int)) (ax M b13) := by rw [eM_75]; exact hV.put hW hb_15 hM_44 hn16 rfl (by decide) rfl (by decide)
                  have hP : va_P D vwCl ([(za, .inr (13, [.int 0, .ref z1, .int (nI z2), .int (nI z3), .int z4, .int z5, .ref z6, .ref z7, .ref z8, .ref z9, .int (nI z10), .ref z11, .ref z12, .ref z13, .ref z14, .ref z15, .int (nI z16), .ref z17, .int z18, .ref z19]))] ++ va_pl L M_75) H_63 := by rw [eM_75]; exact hP
                  have hD : va_D A ([(za, .inr (13, [.int 0, .ref z1, .int (nI z2), .int (nI z3), .int z4, .int z5, .ref z6, .ref z7, .ref z8, .ref z9, .int (nI z10), .ref z11, .ref z12, .ref z13, .ref z14, .ref z15, .int (nI z16), .ref z17, .int z18, .ref z19]))] ++ va_pl L M_75) := by rw [eM_75]; exact hD
                  have hW : WOM cy K L M_75 := by rw [eM_75]; exact hW.up_12 hb_15 ⟨_, rfl, hn_67, hk_65⟩
                  have hF : fr K L [12, 14, 15, 32, 42, 45, 46, 79, 80, 81, 83] M M_75 := by rw [eM_75]; exact hF.up hb_15 (by decide)
                  have hG : fG K L [1, 7, 8, 13, 14, 15, 16, 17, 18] M M_75 := by rw [eM_75]; exact hG.up hM_44 (by decide)
                  have hM_76 : M_75 b13 = .inr (12, fs16.set 17 (.int 0)) := by rw [eM_75]; exact va_up_self _ _ _
                  refine lv_iconst (v := 0) hx hb dX13_close_137 (by decide) ?_
                  refine lv_istore (lv' := [(6, .int 0), (5, .int (-1)), (4, .int (nI c_33)), (3, .int 0), (2, .ref b13), (0, .ref za), (1, .int k1)]) hx hb dX13_close_138 hl (by decide) rfl (fun ls hl => ?_)
                  have key_77 : ∀ (fu_79 : Nat) (v6w80 : Nat) (M_82 : Hp) (H_83 : Heap) (locs : List Loc) (ls : Array Slot), 24 - v6w80 < fu_79 → M_82 b13 = .inr (12, fs16.set 17 (.int 0)) → v6w80 ≤ 24 → WOM cy K L M_82 → fr K L [12, 14, 15, 32, 42, 45, 46, 79, 80, 81, 83] M M_82 → fG K L [1, 7, 8, 13, 14, 15, 16, 17, 18] M M_82 → VW K L M M_82 b13 (va_up (fx M b13) 17 (0 : Int)) (ax M b13) → va_P D vwCl ([(za, .inr (13, [.int 0, .ref z1, .int (nI z2), .int (nI z3), .int z4, .int z5, .ref z6, .ref z7, .ref z8, .ref z9, .int (nI z10), .ref z11, .ref z12, .ref z13, .ref z14, .ref z15, .int (nI z16), .ref z17, .int z18, .ref z19]))] ++ va_pl L M_82) H_83 → va_D A ([(za, .inr (13, [.int 0, .ref z1, .int (nI z2), .int (nI z3), .int z4, .int z5, .ref z6, .ref z7, .ref z8, .ref z9, .int (nI z10), .ref z11, .ref z12, .ref z13, .ref z14, .ref z15, .int (nI z16), .ref z17, .int z18, .ref z19]))] ++ va_pl L M_82) → va_S A s.heap H_83 locs → lv_has ls 8 [(6, .int (nI v6w80)), (5, .int (-1)), (4, .int (nI c_33)), (3, .int 0), (2, .ref b13), (0, .ref za), (1, .int k1)] → W p l e R s m ([.ref za, .int k1] : List Value).toArray below meth c H_83 locs 0 0 Q (F0 m 140 ls []) := by
                    intro fu_79
                    induction fu_79 with
                    | zero => intro v6w80 M_82 H_83 locs ls h; exact absurd h (Nat.not_lt_zero _)
                    | succ fu_79 ih_78 =>
                      intro v6w80 M_82 H_83 locs ls hfu hM_84 hx_81 hW hF hG hV hP hD hS hl
                      refine lv_iload hx hb dX13_close_140 (lv_at hl 0 rfl) ?_
                      refine lv_bipush (v := 24) hx hb dX13_close_142 (by decide) ?_
                      refine lv_icmp_ge (tgt := 161) hx hb dX13_close_144 (by decide) (fun c_85 => ?_) (fun c_85 => ?_)
                      · have hz := rfl (a := 0)
                        have n_86 : 24 ≤ v6w80 := (iLE (a := 24) (b := v6w80) (by omega) (by omega)).mp c_85
                        refine lv_iload_n hx hb dX13_close_161 rfl (lv_at hl 3 rfl) ?_
                        refine lv_istore (lv' := [(6, .int 0), (5, .int (-1)), (4, .int (nI c_33)), (3, .int 0), (2, .ref b13), (0, .ref za), (1, .int k1)]) hx hb dX13_close_162 hl (by decide) rfl (fun ls hl => ?_)
                        have key_87 : ∀ (fu_89 : Nat) (v6w90 : Nat) (gnw90 : Nat) (gpw90 : Nat → Int32) (gqw90 : Nat → Int32) (M_93 : Hp) (H_94 : Heap) (locs : List Loc) (ls : Array Slot), 1001 - v6w90 < fu_89 → v6w90 ≤ c_33 + 1 → SD 0 gnw90 v6w90 gpw90 gqw90 → WOM cy K L M_93 → fr K L [12, 14, 15, 32, 42, 45, 46, 79, 80, 81, 83] M M_93 → fG K L [1, 7, 8, 13, 14, 15, 16, 17, 18] M M_93 → VW K L M M_93 b13 (va_up (fx M b13) 17 ((gnw90 : Nat) : Int)) (va_up (va_up (ax M b13) 44 gpw90) 45 gqw90) → va_P D vwCl ([(za, .inr (13, [.int 0, .ref z1, .int (nI z2), .int (nI z3), .int z4, .int z5, .ref z6, .ref z7, .ref z8, .ref z9, .int (nI z10), .ref z11, .ref z12, .ref z13, .ref z14, .ref z15, .int (nI z16), .ref z17, .int z18, .ref z19]))] ++ va_pl L M_93) H_94 → va_D A ([(za, .inr (13, [.int 0, .ref z1, .int (nI z2), .int (nI z3), .int z4, .int z5, .ref z6, .ref z7, .ref z8, .ref z9, .int (nI z10), .ref z11, .ref z12, .ref z13, .ref z14, .ref z15, .int (nI z16), .ref z17, .int z18, .ref z19]))] ++ va_pl L M_93) → va_S A s.heap H_94 locs → lv_has ls 8 [(6, .int (nI v6w90)), (5, .int (-1)), (4, .int (nI c_33)), (3, .int 0), (2, .ref b13), (0, .ref za), (1, .int k1)] → W p l e R s m ([.ref za, .int k1] : List Value).toArray below meth c H_94 locs 0 0 Q (F0 m 164 ls []) := by
                          intro fu_89
                          induction fu_89 with
                          | zero => intro v6w90 gnw90 gpw90 gqw90 M_93 H_94 locs ls h; exact absurd h (Nat.not_lt_zero _)
                          | succ fu_89 ih_88 =>
                            intro v6w90 gnw90 gpw90 gqw90 M_93 H_94 locs ls hfu hx_91 hx_92 hW hF hG hV hP hD hS hl
                            refine lv_iload hx hb dX13_close_164 (lv_at hl 0 rfl) ?_
                            refine lv_iload hx hb dX13_close_166 (lv_at hl 2 rfl) ?_
                            refine lv_icmp_gt (tgt := 238) hx hb dX13_close_168 (by decide) (fun c_95 => ?_) (fun c_95 => ?_)
                            · have hz := rfl (a := 0)
                              have n_96 : c_33 < v6w90 := (iLT (a := c_33) (b := v6w90) (by omega) (by omega)).mp c_95
                              obtain ⟨fs97, hM97, hn97, hl97⟩ := hW.open_12 hb_15
                              obtain ⟨v98, hv98, hc98⟩ : ∃ v : Nat, fs97[17]? = some (.int (nI v) : Value) ∧ v ≤ 120 := hl97 17 (by decide)
                              have hx17 : ((gnw90 : Nat) : Int) = ((v98 : Nat) : Int) := (congrFun hV.2.1 17).symm.trans ((fx_of hM97 rfl hv98).trans (nI_toInt (by omega)))
                              have hSD := hx_92
                              obtain ⟨hs1, hs2, hs3, hs4⟩ := hx_92
                              have hNn : 1 ≤ gnw90 ∧ 1 ≤ (gqw90 0).toInt := by rcases hs3 with q | q <;> first | exact q | omega
                              have hN1 := hNn.1
                              have hs45 := hNn.2
                              refine lv_aload_n hx hb dX13_close_238 rfl (lv_at hl 4 rfl) ?_
                              refine pg_getN (D := D) (ci := 12) (v := .int (nI v98)) (C := RX12) (T := TX12) (N := 51) hx hb hg inG12 hown hK hP hb_15.1 hM97 rfl 17 (by decide) (hN.use (Cond.fieldLinkNest RX13 256 RX12 "stretches" "I" RX13) 26 rfl rfl) (fun _ h9 => h9) hv98 dX13_close_239 ?_
                              refine lv_istore (lv' := [(6, .int (nI v98)), (5, .int (-1)), (4, .int (nI c_33)), (3, .int 0), (2, .ref b13), (0, .ref za), (1, .int k1)]) hx hb dX13_close_242 hl (by decide) rfl (fun ls hl => ?_)
                              refine lv_aload_n hx hb dX13_close_244 rfl (lv_at hl 5 rfl) ?_
                              refine lv_aload_n hx hb dX13_close_245 rfl (lv_at hl 4 rfl) ?_
                              refine lv_iload hx hb dX13_close_246 (lv_at hl 0 rfl) ?_
                              have hPc : va_P D vwCl ([(za, .inr (13, [.int 0, .ref z1, .int (nI z2), .int (nI z3), .int z4, .int z5, .ref z6, .ref z7, .ref z8, .ref z9, .int (nI z10), .ref z11, .ref z12, .ref z13, .ref z14, .ref z15, .int (nI z16), .ref z17, .int z18, .ref z19]))] ++ va_pl L M_93) H_94 := hP
                              have hDc : va_D A ([(za, .inr (13, [.int 0, .ref z1, .int (nI z2), .int (nI z3), .int z4, .int z5, .ref z6, .ref z7, .ref z8, .ref z9, .int (nI z10), .ref z11, .ref z12, .ref z13, .ref z14, .ref z15, .int (nI z16), .ref z17, .int z18, .ref z19]))] ++ va_pl L M_93) := hD
                              have hFc : ∀ q, va_A ([(za, .inr (13, [.int 0, .ref z1, .int (nI z2), .int (nI z3), .int z4, .int z5, .ref z6, .ref z7, .ref z8, .ref z9, .int (nI z10), .ref z11, .ref z12, .ref z13, .ref z14, .ref z15, .int (nI z16), .ref z17, .int z18, .ref z19]))] ++ va_pl L M_93) H_94.size q → A q := pg_free hDc hS hA
                              refine va_callv (va_runV (As := [.ref b13, .int (nI v98)]) (rest := []) ⟨hx, hb, hml, hown, hg⟩ (g_X13_looses l D cy K L M_93 H_94.size za 0 z1 z2 z3 z4 z5 z6 z7 z8 z9 z10 z11 z12 z13 z14 z15 z16 z17 z18 z19 b13 v98  hW i1 b2 b3 i6 i7 i8 i9 b10 i11 i12 i13 i14 i15 b16 i17 i19 hb_15 (by omega) hV.2.2.2 (by omega) (by rw [hV.2.2.1]; exact hs45)) (cwV 2 hg (gV wd_857 wd_858 wd_859 wd_717 wd_860) rfl rfl rfl (by decide +kernel) ⟨(Nat.le_trans (Nat.le_of_ble_eq_true rfl) hRf), (Nat.le_trans (Nat.le_of_ble_eq_true rfl) hRl)⟩) ⟨PG.blind, va_recv hK hP (ci := 13) (q0 := 0) rfl rfl, fun U hU hW => ⟨rfl, PG.at hPc hK hDc hN hU hW⟩⟩ rfl rfl hl.1 rfl (lv_room (Nat.le_of_ble_eq_true rfl)) dX13_close_248 ⟨(Nat.le_trans (Nat.le_of_ble_eq_true rfl) hRc), (Nat.le_trans (Nat.le_of_ble_eq_true rfl) hRs)⟩) hS (fun q _ h => hFc q h) hFc (fun M_101 t H_99 locs ht hvm hw hB hz1 hk1 hS => ?_)
                              have hWb := hW
                              obtain ⟨hW, hF2, hG2, hp_102⟩ := hw
                              obtain ⟨hP1, hD1⟩ := hB
                              rw [ht] at hP1
                              have hP : va_P D vwCl ([(za, .inr (13, [.int 0, .ref z1, .int (nI z2), .int (nI z3), .int z4, .int z5, .ref z6, .ref z7, .ref z8, .ref z9, .int (nI z10), .ref z11, .ref z12, .ref z13, .ref z14, .ref z15, .int (nI z16), .ref z17, .int z18, .ref z19]))] ++ va_pl L M_101) H_99 := hP1
                              have hD : va_D A ([(za, .inr (13, [.int 0, .ref z1, .int (nI z2), .int (nI z3), .int z4, .int z5, .ref z6, .ref z7, .ref z8, .ref z9, .int (nI z10), .ref z11, .ref z12, .ref z13, .ref z14, .ref z15, .int (nI z16), .ref z17, .int z18, .ref z19]))] ++ va_pl L M_101) := hD1.mono hFc
                              have hM_103 : M_101 b13 = .inr (12, fs97) := (hF2.at hb_15 (by decide)).trans hM97
                              have hF : fr K L [12, 14, 15, 32, 42, 45, 46, 79, 80, 81, 83] M M_101 := hF.tr hF2 (by decide)
                              have hG : fG K L [1, 7, 8, 13, 14, 15, 16, 17, 18] M M_101 := hG.tr hWb hG2 (by decide)
                              have hV : VW K L M M_101 b13 (va_up (fx M b13) 17 ((gnw90 : Nat) : Int)) (va_up (va_up (ax M b13) 44 gpw90) 45 gqw90) := hV.cal hWb hW hF2 hG2 (by decide) (by decide) hb_15
                              refine lv_iconst (v := 0) hx hb dX13_close_251 (by decide) ?_
                              refine lv_istore (lv' := [(7, .int 0), (6, .int (nI v98)), (5, .int (-1)), (4, .int (nI c_33)), (3, .int 0), (2, .ref b13), (0, .ref za), (1, .int k1)]) hx hb dX13_close_252 hl (by decide) rfl (fun ls hl => ?_)
                              have key_104 : ∀ (fu_106 : Nat) (v7w107 : Nat) (zgw107 : Nat) (M_110 : Hp) (H_111 : Heap) (locs : List Loc) (ls : Array Slot), 1001 - v7w107 < fu_106 → v7w107 ≤ v98 → zgw107 ≤ 24 → WOM cy K L M_110 → fr K L [12, 14, 15, 32, 42, 45, 46, 79, 80, 81, 83] M M_110 → fG K L [1, 7, 8, 13, 14, 15, 16, 17, 18] M M_110 → VW K L M M_110 b13 (va_up (fx M b13) 17 ((gnw90 : Nat) : Int)) (va_up (va_up (ax M b13) 44 gpw90) 45 gqw90) → va_P D vwCl ([(za, .inr (13, [.int 0, .ref z1, .int (nI z2), .int (nI z3), .int z4, .int z5, .ref z6, .ref z7, .ref z8, .ref z9, .int (nI z10), .ref z11, .ref z12, .ref z13, .ref z14, .ref z15, .int (nI zgw107), .ref z17, .int z18, .ref z19]))] ++ va_pl L M_110) H_111 → va_D A ([(za, .inr (13, [.int 0, .ref z1, .int (nI z2), .int (nI z3), .int z4, .int z5, .ref z6, .ref z7, .ref z8, .ref z9, .int (nI z10), .ref z11, .ref z12, .ref z13, .ref z14, .ref z15, .int (nI zgw107), .ref z17, .int z18, .ref z19]))] ++ va_pl L M_110) → va_S A s.heap H_111 locs → lv_has ls 8 [(7, .int (nI v7w107)), (6, .int (nI v98)), (5, .int (-1)), (4, .int (nI c_33)), (3, .int 0), (2, .ref b13), (0, .ref za), (1, .int k1)] → W p l e R s m ([.ref za, .int k1] : List Value).toArray below meth c H_111 locs 0 0 Q (F0 m 254 ls []) := by
                                intro fu_106
                                induction fu_106 with
                                | zero => intro v7w107 zgw107 M_110 H_111 locs ls h; exact absurd h (Nat.not_lt_zero _)
                                | succ fu_106 ih_105 =>
                                  intro v7w107 zgw107 M_110 H_111 locs ls hfu hx_108 hx_109 hW hF hG hV hP hD hS hl
                                  refine lv_iload hx hb dX13_close_254 (lv_at hl 0 rfl) ?_
                                  refine lv_iload hx hb dX13_close_256 (lv_at hl 1 rfl) ?_
                                  refine lv_icmp_ge (tgt := 275) hx hb dX13_close_258 (by decide) (fun c_112 => ?_) (fun c_112 => ?_)
                                  · have hz := rfl (a := 0)
                                    have n_113 : v98 ≤ v7w107 := (iLE (a := v98) (b := v7w107) (by omega) (by omega)).mp c_112
                                    refine lv_iconst (v := 0) hx hb dX13_close_275 (by decide) ?_
                                    refine lv_istore (lv' := [(7, .int 0), (6, .int (nI v98)), (5, .int (-1)), (4, .int (nI c_33)), (3, .int 0), (2, .ref b13), (0, .ref za), (1, .int k1)]) hx hb dX13_close_276 hl (by decide) rfl (fun ls hl => ?_)
                                    have key_114 : ∀ (fu_116 : Nat) (v7w117 : Nat) (zgw117 : Nat) (gnw117 : Nat) (gpw117 : Nat → Int32) (gqw117 : Nat → Int32) (M_121 : Hp) (H_122 : Heap) (locs : List Loc) (ls : Array Slot), 24 - v7w117 < fu_116 → v7w117 ≤ 20 → zgw117 ≤ 24 → gnw117 ≤ 100 + v7w117 → WOM cy K L M_121 → fr K L [12, 14, 15, 32, 42, 45, 46, 79, 80, 81, 83] M M_121 → fG K L [1, 7, 8, 13, 14, 15, 16, 17, 18] M M_121 → VW K L M M_121 b13 (va_up (fx M b13) 17 ((gnw117 : Nat) : Int)) (va_up (va_up (ax M b13) 44 gpw117) 45 gqw117) → va_P D vwCl ([(za, .inr (13, [.int 0, .ref z1, .int (nI z2), .int (nI z3), .int z4, .int z5, .ref z6, .ref z7, .ref z8, .ref z9, .int (nI z10), .ref z11, .ref z12, .ref z13, .ref z14, .ref z15, .int (nI zgw117), .ref z17, .int z18, .ref z19]))] ++ va_pl L M_121) H_122 → va_D A ([(za, .inr (13, [.int 0, .ref z1, .int (nI z2), .int (nI z3), .int z4, .int z5, .ref z6, .ref z7, .ref z8, .ref z9, .int (nI z10), .ref z11, .ref z12, .ref z13, .ref z14, .ref z15, .int (nI zgw117), .ref z17, .int z18, .ref z19]))] ++ va_pl L M_121) → va_S A s.heap H_122 locs → lv_has ls 8 [(7, .int (nI v7w117)), (6, .int (nI v98)), (5, .int (-1)), (4, .int (nI c_33)), (3, .int 0), (2, .ref b13), (0, .ref za), (1, .int k1)] → W p l e R s m ([.ref za, .int k1] : List Value).toArray below meth c H_122 locs 0 0 Q (F0 m 278 ls []) := by
                                      intro fu_116
                                      induction fu_116 with
                                      | zero => intro v7w117 zgw117 gnw117 gpw117 gqw117 M_121 H_122 locs ls h; exact absurd h (Nat.not_lt_zero _)
                                      | succ fu_116 ih_115 =>
                                        intro v7w117 zgw117 gnw117 gpw117 gqw117 M_121 H_122 locs ls hfu hx_118 hx_119 hx_120 hW hF hG hV hP hD hS hl
                                        refine lv_iload hx hb dX13_close_278 (lv_at hl 0 rfl) ?_
                                        refine lv_aload_n hx hb dX13_close_280 rfl (lv_at hl 5 rfl) ?_
                                        obtain ⟨fs123, hM123, hn123, hl123⟩ := hW.open_12 hb_15
                                        obtain ⟨v124, hv124, hc124⟩ : ∃ v : Nat, fs123[15]? = some (.int (nI v) : Value) ∧ v ≤ 20 := hl123 15 (by decide)
                                        refine pg_getN (D := D) (ci := 12) (v := .int (nI v124)) (C := RX12) (T := TX12) (N := 51) hx hb hg inG12 hown hK hP hb_15.1 hM123 rfl 15 (by decide) (hN.use (Cond.fieldLinkNest RX13 279 RX12 "mends" "I" RX13) 24 rfl rfl) (fun _ h9 => h9) hv124 dX13_close_281 ?_
                                        refine lv_icmp_ge (tgt := 300) hx hb dX13_close_284 (by decide) (fun c_125 => ?_) (fun c_125 => ?_)
                                        · have hz := rfl (a := 0)
                                          have n_126 : v124 ≤ v7w117 := (iLE (a := v124) (b := v7w117) (by omega) (by omega)).mp c_125
                                          refine lv_aload_n hx hb dX13_close_300 rfl (lv_at hl 5 rfl) ?_
                                          refine lv_iload_n hx hb dX13_close_301 rfl (lv_at hl 4 rfl) ?_
                                          refine lv_iload hx hb dX13_close_302 (lv_at hl 3 rfl) ?_
                                          have hPc : va_P D vwCl ([] ++ va_pl L M_121) H_122 := hP.part (cx := []) [] rfl
                                          have hDc : va_D A ([] ++ va_pl L M_121) := hD.part (cx := []) [] (by decide) rfl
                                          have hFc : ∀ q, va_A ([] ++ va_pl L M_121) H_122.size q → A q := pg_free hDc hS hA
                                          refine va_callv (va_runS (As := [.ref b13, .int 0, .int (nI c_33)]) (rest := []) ⟨hx, hb, hml, hown, hg⟩ (r_settled2 l D cy K L M_121 H_122.size b13 0 (nI c_33)  hW hb_15 hV.2.2.2) (va_cwS 3 hg (gS wd_861 wd_862 wd_717 wd_863) rfl rfl rfl (by decide +kernel) ⟨(Nat.le_trans (Nat.le_of_ble_eq_true rfl) hRf), (Nat.le_trans (Nat.le_of_ble_eq_true rfl) hRl)⟩) ⟨PG.blind, fun U hU hW => ⟨rfl, PG.at hPc hK hDc hN hU hW⟩⟩ rfl rfl hl.1 rfl (lv_room (Nat.le_of_ble_eq_true rfl)) dX13_close_304 ⟨(Nat.le_trans (Nat.le_of_ble_eq_true rfl) hRc), (Nat.le_trans (Nat.le_of_ble_eq_true rfl) hRs)⟩) hS (fun q _ h => hFc q h) hFc (fun M_129 t H_127 locs ht hvm hw hB hz1 hk1 hS => ?_)
                                          have hWb := hW
                                          obtain ⟨hW, hF2, hG2, hVP, hp_130⟩ := hw
                                          obtain ⟨hP1, hD1⟩ := hB
                                          rw [ht] at hP1
                                          obtain ⟨hP, hD⟩ := va_joinP (X := [(za, .inr (13, [.int 0, .ref z1, .int (nI z2), .int (nI z3), .int z4, .int z5, .ref z6, .ref z7, .ref z8, .ref z9, .int (nI z10), .ref z11, .ref z12, .ref z13, .ref z14, .ref z15, .int (nI zgw117), .ref z17, .int z18, .ref z19]))]) (cx := []) (wr := [(za, .inr (13, [.int 0, .ref z1, .int (nI z2), .int (nI z3), .int z4, .int z5, .ref z6, .ref z7, .ref z8, .ref z9, .int (nI z10), .ref z11, .ref z12, .ref z13, .ref z14, .ref z15, .int (nI zgw117), .ref z17, .int z18, .ref z19]))]) (rx := []) (pl := va_pl L M_121) (pl1 := va_pl L M_129) hP hD [] [0] rfl rfl (by decide) (by decide) hk1 hFc hP1 hD1
                                          have hP : va_P D vwCl ([(za, .inr (13, [.int 0, .ref z1, .int (nI z2), .int (nI z3), .int z4, .int z5, .ref z6, .ref z7, .ref z8, .ref z9, .int (nI z10), .ref z11, .ref z12, .ref z13, .ref z14, .ref z15, .int (nI zgw117), .ref z17, .int z18, .ref z19]))] ++ va_pl L M_129) H_127 := hP
                                          have hD : va_D A ([(za, .inr (13, [.int 0, .ref z1, .int (nI z2), .int (nI z3), .int z4, .int z5, .ref z6, .ref z7, .ref z8, .ref z9, .int (nI z10), .ref z11, .ref z12, .ref z13, .ref z14, .ref z15, .int (nI zgw117), .ref z17, .int z18, .ref z19]))] ++ va_pl L M_129) := hD
                                          obtain ⟨fs131, hM131, hn131, hl131⟩ := hW.open_12 hb_15
                                          have hv_132 : fs131[15]? = some (.int (nI v124) : Value) := (hG2 _ hb_15 _ _ hM123 hM131 15 (by decide)).trans hv124
                                          have hF : fr K L [12, 14, 15, 32, 42, 45, 46, 79, 80, 81, 83] M M_129 := hF.tr hF2 (by decide)
                                          have hG : fG K L [1, 7, 8, 13, 14, 15, 16, 17, 18] M M_129 := hG.tr hWb hG2 (by decide)
                                          obtain ⟨n_133, p_134, q_135, r_136, n_137, h8, hle8, htr8, hV2⟩ := hVP
                                          rw [hV.2.1] at h8
                                          rw [hV.2.2.1] at htr8
                                          rw [hV.2.1, hV.2.2.1] at hV2
                                          have hn14 : (0 : Int) ≤ ((n_133 : Nat) : Int) := by omega
                                          have hV : VW K L M M_129 b13 (va_up (va_up (fx M b13) 17 ((gnw117 : Nat) : Int)) 14 ((n_133 : Nat) : Int)) (va_up (va_up (va_up (va_up (va_up (ax M b13) 44 gpw117) 45 gqw117) 38 p_134) 39 q_135) 40 r_136) := hV.tr hV2
                                          have h8s : fx M b13 14 = ((n_137 : Nat) : Int) := h8
                                          refine lv_aload_n hx hb dX13_close_307 rfl (lv_at hl 5 rfl) ?_
                                          refine lv_lconst (v := 0) hx hb dX13_close_308 (by decide) ?_
                                          refine pg_putN (D := D) (ci := 12) (v := .long 0) (ty := .long) (C := RX12) (T := TX12) (N := 51) hx hb hg inG12 tyX12 tyX12_ok nmX12 hown hK hP hD hS hb_15.1 hM131 rfl 7 (by decide) (hN.use (Cond.fieldLinkNest RX13 179 RX12 "loose" "J" RX13) 16 rfl rfl) (fun _ h9 => h9) rfl (by decide +kernel) rfl rfl (by rw [hn131]; decide) dX13_close_309 (fun H_138 locs hP hD hS => ?_)
                                          have hs_141 : (fs131.set 7 (.long 0))[7]? = some (.long 0) := List.getElem?_set_self (by rw [hn131]; decide)
                                          have hk_140 := fld12_set (k := 7) (w := .long 0) hl131 (show fld12 K L 7 (fs131.set 7 (.long 0)) from ⟨0, hs_141⟩)
                                          have hn_142 : (fs131.set 7 (.long 0)).length = 51 := by rw [List.length_set]; exact hn131
                                          have hv_143 : (fs131.set 7 (.long 0))[15]? = some (.int (nI v124)) := by rw [List.getElem?_set_ne (by decide)]; exact hv_132
                                          obtain ⟨M_144, eM_144⟩ : ∃ M1 : Hp, M1 = va_up M_129 b13 (.inr (12, fs131.set 7 (.long 0))) := ⟨_, rfl⟩
                                          have hV : VW K L M M_144 b13 (va_up (va_up (fx M b13) 17 ((gnw117 : Nat) : Int)) 14 ((n_133 : Nat) : Int)) (va_up (va_up (va_up (va_up (va_up (ax M b13) 44 gpw117) 45 gqw117) 38 p_134) 39 q_135) 40 r_136) := by rw [eM_144]; exact hV.put0 hW hb_15 hM131 rfl rfl
                                          have hP : va_P D vwCl ([(za, .inr (13, [.int 0, .ref z1, .int (nI z2), .int (nI z3), .int z4, .int z5, .ref z6, .ref z7, .ref z8, .ref z9, .int (nI z10), .ref z11, .ref z12, .ref z13, .ref z14, .ref z15, .int (nI zgw117), .ref z17, .int z18, .ref z19]))] ++ va_pl L M_144) H_138 := by rw [eM_144]; exact hP
                                          have hD : va_D A ([(za, .inr (13, [.int 0, .ref z1, .int (nI z2), .int (nI z3), .int z4, .int z5, .ref z6, .ref z7, .ref z8, .ref z9, .int (nI z10), .ref z11, .ref z12, .ref z13, .ref z14, .ref z15, .int (nI zgw117), .ref z17, .int z18, .ref z19]))] ++ va_pl L M_144) := by rw [eM_144]; exact hD
                                          have hW : WOM cy K L M_144 := by rw [eM_144]; exact hW.up_12 hb_15 ⟨_, rfl, hn_142, hk_140⟩
                                          have hF : fr K L [12, 14, 15, 32, 42, 45, 46, 79, 80, 81, 83] M M_144 := by rw [eM_144]; exact hF.up hb_15 (by decide)
                                          have hG : fG K L [1, 7, 8, 13, 14, 15, 16, 17, 18] M M_144 := by rw [eM_144]; exact hG.up hM131 (by decide)
                                          have hM_145 : M_144 b13 = .inr (12, fs131.set 7 (.long 0)) := by rw [eM_144]; exact va_up_self _ _ _
                                          refine lv_aload_n hx hb dX13_close_312 rfl (lv_at hl 5 rfl) ?_
                                          refine lv_iconst (v := 0) hx hb dX13_close_313 (by decide) ?_
                                          refine pg_putN (D := D) (ci := 12) (v := .int 0) (ty := .int) (C := RX12) (T := TX12) (N := 51) hx hb hg inG12 tyX12 tyX12_ok nmX12 hown hK hP hD hS hb_15.1 hM_145 rfl 15 (by decide) (hN.use (Cond.fieldLinkNest RX13 279 RX12 "mends" "I" RX13) 24 rfl rfl) (fun _ h9 => h9) rfl (by decide +kernel) rfl rfl (by rw [hn_142]; decide) dX13_close_314 (fun H_146 locs hP hD hS => ?_)
                                          have hs_149 : ((fs131.set 7 (.long 0)).set 15 (.int 0))[15]? = some (.int (nI 0)) := List.getElem?_set_self (by rw [hn_142]; decide)
                                          have hk_148 := fld12_set (k := 15) (w := .int 0) hk_140 (show fld12 K L 15 ((fs131.set 7 (.long 0)).set 15 (.int 0)) from ⟨0, hs_149, by omega⟩)
                                          have hn_150 : ((fs131.set 7 (.long 0)).set 15 (.int 0)).length = 51 := by rw [List.length_set]; exact hn_142
                                          have hv_151 : ((fs131.set 7 (.long 0)).set 15 (.int 0))[7]? = some (.long 0) := by rw [List.getElem?_set_ne (by decide)]; exact hs_141
                                          have hb_152 : 0 ≤ 20 := by omega
                                          obtain ⟨M_153, eM_153⟩ : ∃ M1 : Hp, M1 = va_up M_144 b13 (.inr (12, (fs131.set 7 (.long 0)).set 15 (.int 0))) := ⟨_, rfl⟩
                                          have hx15 : (fx M b13 15) = ((v124 : Nat) : Int) := (congrFun hV.2.1 15).symm.trans ((fx_of hM_145 rfl hv_143).trans (nI_toInt (by omega)))
                                          have hV : VW K L M M_153 b13 (va_up (va_up (va_up (fx M b13) 17 ((gnw117 : Nat) : Int)) 14 ((n_133 : Nat) : Int)) 15 (0 : Int)) (va_up (va_up (va_up (va_up (va_up (ax M b13) 44 gpw117) 45 gqw117) 38 p_134) 39 q_135) 40 r_136) := by rw [eM_153]; exact hV.put hW hb_15 hM_145 hn_142 rfl (by decide) rfl (by decide)
                                          have hP : va_P D vwCl ([(za, .inr (13, [.int 0, .ref z1, .int (nI z2), .int (nI z3), .int z4, .int z5, .ref z6, .ref z7, .ref z8, .ref z9, .int (nI z10), .ref z11, .ref z12, .ref z13, .ref z14, .ref z15, .int (nI zgw117), .ref z17, .int z18, .ref z19]))] ++ va_pl L M_153) H_146 := by rw [eM_153]; exact hP
                                          have hD : va_D A ([(za, .inr (13, [.int 0, .ref z1, .int (nI z2), .int (nI z3), .int z4, .int z5, .ref z6, .ref z7, .ref z8, .ref z9, .int (nI z10), .ref z11, .ref z12, .ref z13, .ref z14, .ref z15, .int (nI zgw117), .ref z17, .int z18, .ref z19]))] ++ va_pl L M_153) := by rw [eM_153]; exact hD
                                          have hW : WOM cy K L M_153 := by rw [eM_153]; exact hW.up_12 hb_15 ⟨_, rfl, hn_150, hk_148⟩
                                          have hF : fr K L [12, 14, 15, 32, 42, 45, 46, 79, 80, 81, 83] M M_153 := by rw [eM_153]; exact hF.up hb_15 (by decide)
                                          have hG : fG K L [1, 7, 8, 13, 14, 15, 16, 17, 18] M M_153 := by rw [eM_153]; exact hG.up hM_145 (by decide)
                                          have hM_154 : M_153 b13 = .inr (12, (fs131.set 7 (.long 0)).set 15 (.int 0)) := by rw [eM_153]; exact va_up_self _ _ _
                                          refine lv_aload_n hx hb dX13_close_317 rfl (lv_at hl 5 rfl) ?_
                                          refine lv_iconst (v := 0) hx hb dX13_close_318 (by decide) ?_
                                          refine pg_putN (D := D) (ci := 12) (v := .int 0) (ty := .int) (C := RX12) (T := TX12) (N := 51) hx hb hg inG12 tyX12 tyX12_ok nmX12 hown hK hP hD hS hb_15.1 hM_154 rfl 16 (by decide) (hN.use (Cond.fieldLinkNest RX13 161 RX12 "undone" "I" RX13) 25 rfl rfl) (fun _ h9 => h9) rfl (by decide +kernel) rfl rfl (by rw [hn_150]; decide) dX13_close_319 (fun H_155 locs hP hD hS => ?_)
                                          have hs_158 : (((fs131.set 7 (.long 0)).set 15 (.int 0)).set 16 (.int 0))[16]? = some (.int (nI 0)) := List.getElem?_set_self (by rw [hn_150]; decide)
                                          have hk_157 := fld12_set (k := 16) (w := .int 0) hk_148 (show fld12 K L 16 (((fs131.set 7 (.long 0)).set 15 (.int 0)).set 16 (.int 0)) from ⟨0, hs_158, by omega⟩)
                                          have hn_159 : (((fs131.set 7 (.long 0)).set 15 (.int 0)).set 16 (.int 0)).length = 51 := by rw [List.length_set]; exact hn_150
                                          have hv_160 : (((fs131.set 7 (.long 0)).set 15 (.int 0)).set 16 (.int 0))[7]? = some (.long 0) := by rw [List.getElem?_set_ne (by decide)]; exact hv_151
                                          have hv_161 : (((fs131.set 7 (.long 0)).set 15 (.int 0)).set 16 (.int 0))[15]? = some (.int (nI 0)) := by rw [List.getElem?_set_ne (by decide)]; exact hs_149
                                          have hb_162 : 0 ≤ 60 := by omega
                                          obtain ⟨M_163, eM_163⟩ : ∃ M1 : Hp, M1 = va_up M_153 b13 (.inr (12, ((fs131.set 7 (.long 0)).set 15 (.int 0)).set 16 (.int 0))) := ⟨_, rfl⟩
                                          have hV : VW K L M M_163 b13 (va_up (va_up (va_up (va_up (fx M b13) 17 ((gnw117 : Nat) : Int)) 14 ((n_133 : Nat) : Int)) 15 (0 : Int)) 16 (0 : Int)) (va_up (va_up (va_up (va_up (va_up (ax M b13) 44 gpw117) 45 gqw117) 38 p_134) 39 q_135) 40 r_136) := by rw [eM_163]; exact hV.put hW hb_15 hM_154 hn_150 rfl (by decide) rfl (by decide)
                                          have hP : va_P D vwCl ([(za, .inr (13, [.int 0, .ref z1, .int (nI z2), .int (nI z3), .int z4, .int z5, .ref z6, .ref z7, .ref z8, .ref z9, .int (nI z10), .ref z11, .ref z12, .ref z13, .ref z14, .ref z15, .int (nI zgw117), .ref z17, .int z18, .ref z19]))] ++ va_pl L M_163) H_155 := by rw [eM_163]; exact hP
                                          have hD : va_D A ([(za, .inr (13, [.int 0, .ref z1, .int (nI z2), .int (nI z3), .int z4, .int z5, .ref z6, .ref z7, .ref z8, .ref z9, .int (nI z10), .ref z11, .ref z12, .ref z13, .ref z14, .ref z15, .int (nI zgw117), .ref z17, .int z18, .ref z19]))] ++ va_pl L M_163) := by rw [eM_163]; exact hD
                                          have hW : WOM cy K L M_163 := by rw [eM_163]; exact hW.up_12 hb_15 ⟨_, rfl, hn_159, hk_157⟩
                                          have hF : fr K L [12, 14, 15, 32, 42, 45, 46, 79, 80, 81, 83] M M_163 := by rw [eM_163]; exact hF.up hb_15 (by decide)
                                          have hG : fG K L [1, 7, 8, 13, 14, 15, 16, 17, 18] M M_163 := by rw [eM_163]; exact hG.up hM_154 (by decide)
                                          have hM_164 : M_163 b13 = .inr (12, ((fs131.set 7 (.long 0)).set 15 (.int 0)).set 16 (.int 0)) := by rw [eM_163]; exact va_up_self _ _ _
                                          refine lv_aload_n hx hb dX13_close_322 rfl (lv_at hl 5 rfl) ?_
                                          refine lv_iload hx hb dX13_close_323 (lv_at hl 3 rfl) ?_
                                          refine pg_putN (D := D) (ci := 12) (v := .int (nI c_33)) (ty := .int) (C := RX12) (T := TX12) (N := 51) hx hb hg inG12 tyX12 tyX12_ok nmX12 hown hK hP hD hS hb_15.1 hM_164 rfl 1 (by decide) (hN.use (Cond.fieldLinkNest RX13 80 RX12 "to" "I" RX13) 10 rfl rfl) (fun _ h9 => h9) rfl (by decide +kernel) rfl rfl (by rw [hn_159]; decide) dX13_close_325 (fun H_165 locs hP hD hS => ?_)
                                          have hs_168 : ((((fs131.set 7 (.long 0)).set 15 (.int 0)).set 16 (.int 0)).set 1 (.int (nI c_33)))[1]? = some (.int (nI c_33)) := List.getElem?_set_self (by rw [hn_159]; decide)
                                          have hk_167 := fld12_set (k := 1) (w := .int (nI c_33)) hk_157 (show fld12 K L 1 ((((fs131.set 7 (.long 0)).set 15 (.int 0)).set 16 (.int 0)).set 1 (.int (nI c_33))) from ⟨(nI c_33), hs_168, Or.inr ⟨c_33, by omega, rfl⟩⟩)
                                          have hn_169 : ((((fs131.set 7 (.long 0)).set 15 (.int 0)).set 16 (.int 0)).set 1 (.int (nI c_33))).length = 51 := by rw [List.length_set]; exact hn_159
                                          have hv_170 : ((((fs131.set 7 (.long 0)).set 15 (.int 0)).set 16 (.int 0)).set 1 (.int (nI c_33)))[7]? = some (.long 0) := by rw [List.getElem?_set_ne (by decide)]; exact hv_160
                                          have hv_171 : ((((fs131.set 7 (.long 0)).set 15 (.int 0)).set 16 (.int 0)).set 1 (.int (nI c_33)))[15]? = some (.int (nI 0)) := by rw [List.getElem?_set_ne (by decide)]; exact hv_161
                                          have hv_172 : ((((fs131.set 7 (.long 0)).set 15 (.int 0)).set 16 (.int 0)).set 1 (.int (nI c_33)))[16]? = some (.int (nI 0)) := by rw [List.getElem?_set_ne (by decide)]; exact hs_158
                                          obtain ⟨M_173, eM_173⟩ : ∃ M1 : Hp, M1 = va_up M_163 b13 (.inr (12, (((fs131.set 7 (.long 0)).set 15 (.int 0)).set 16 (.int 0)).set 1 (.int (nI c_33)))) := ⟨_, rfl⟩
                                          have hV : VW K L M M_173 b13 (va_up (va_up (va_up (va_up (va_up (fx M b13) 17 ((gnw117 : Nat) : Int)) 14 ((n_133 : Nat) : Int)) 15 (0 : Int)) 16 (0 : Int)) 1 ((c_33 : Nat) : Int)) (va_up (va_up (va_up (va_up (va_up (ax M b13) 44 gpw117) 45 gqw117) 38 p_134) 39 q_135) 40 r_136) := by rw [eM_173]; exact hV.put hW hb_15 hM_164 hn_159 rfl (by decide) rfl (nI_toInt (by omega))
                                          have hP : va_P D vwCl ([(za, .inr (13, [.int 0, .ref z1, .int (nI z2), .int (nI z3), .int z4, .int z5, .ref z6, .ref z7, .ref z8, .ref z9, .int (nI z10), .ref z11, .ref z12, .ref z13, .ref z14, .ref z15, .int (nI zgw117), .ref z17, .int z18, .ref z19]))] ++ va_pl L M_173) H_165 := by rw [eM_173]; exact hP
                                          have hD : va_D A ([(za, .inr (13, [.int 0, .ref z1, .int (nI z2), .int (nI z3), .int z4, .int z5, .ref z6, .ref z7, .ref z8, .ref z9, .int (nI z10), .ref z11, .ref z12, .ref z13, .ref z14, .ref z15, .int (nI zgw117), .ref z17, .int z18, .ref z19]))] ++ va_pl L M_173) := by rw [eM_173]; exact hD
                                          have hW : WOM cy K L M_173 := by rw [eM_173]; exact hW.up_12 hb_15 ⟨_, rfl, hn_169, hk_167⟩
                                          have hF : fr K L [12, 14, 15, 32, 42, 45, 46, 79, 80, 81, 83] M M_173 := by rw [eM_173]; exact hF.up hb_15 (by decide)
                                          have hG : fG K L [1, 7, 8, 13, 14, 15, 16, 17, 18] M M_173 := by rw [eM_173]; exact hG.up hM_164 (by decide)
                                          have hM_174 : M_173 b13 = .inr (12, (((fs131.set 7 (.long 0)).set 15 (.int 0)).set 16 (.int 0)).set 1 (.int (nI c_33))) := by rw [eM_173]; exact va_up_self _ _ _
                                          refine lv_aload_n hx hb dX13_close_328 rfl (lv_at hl 5 rfl) ?_
                                          refine lv_dup hx hb dX13_close_329 rfl ?_
                                          obtain ⟨v175, hv175, hc175⟩ : ∃ v : Nat, ((((fs131.set 7 (.long 0)).set 15 (.int 0)).set 16 (.int 0)).set 1 (.int (nI c_33)))[13]? = some (.int (nI v) : Value) ∧ v ≤ 12 := hk_167 13 (by decide)
                                          refine pg_getN (D := D) (ci := 12) (v := .int (nI v175)) (C := RX12) (T := TX12) (N := 51) hx hb hg inG12 hown hK hP hb_15.1 hM_174 rfl 13 (by decide) (hN.use (Cond.fieldLinkNest RX13 244 RX12 "closed" "I" RX13) 22 rfl rfl) (fun _ h9 => h9) hv175 dX13_close_330 ?_
                                          have hx13 : (fx M b13 13) = ((v175 : Nat) : Int) := (congrFun hV.2.1 13).symm.trans ((fx_of hM_174 rfl hv175).trans (nI_toInt (by omega)))
                                          refine lv_iconst (v := 1) hx hb dX13_close_333 (by decide) ?_
                                          refine lv_iadd hx hb dX13_close_334 ?_
                                          refine lv_topi (fun f_176 ef_176 => ?_)
                                          obtain rfl : f_176 = (nI (v175 + 1)) := ef_176.trans (nI_add v175 1)
                                          refine pg_putN (D := D) (ci := 12) (v := .int (nI (v175 + 1))) (ty := .int) (C := RX12) (T := TX12) (N := 51) hx hb hg inG12 tyX12 tyX12_ok nmX12 hown hK hP hD hS hb_15.1 hM_174 rfl 13 (by decide) (hN.use (Cond.fieldLinkNest RX13 244 RX12 "closed" "I" RX13) 22 rfl rfl) (fun _ h9 => h9) rfl (by decide +kernel) rfl rfl (by rw [hn_169]; decide) dX13_close_335 (fun H_177 locs hP hD hS => ?_)
                                          have hs_180 : (((((fs131.set 7 (.long 0)).set 15 (.int 0)).set 16 (.int 0)).set 1 (.int (nI c_33))).set 13 (.int (nI (v175 + 1))))[13]? = some (.int (nI (v175 + 1))) := List.getElem?_set_self (by rw [hn_169]; decide)
                                          have hk_179 := fld12_set (k := 13) (w := .int (nI (v175 + 1))) hk_167 (show fld12 K L 13 (((((fs131.set 7 (.long 0)).set 15 (.int 0)).set 16 (.int 0)).set 1 (.int (nI c_33))).set 13 (.int (nI (v175 + 1)))) from ⟨(v175 + 1), hs_180, by omega⟩)
                                          have hn_181 : (((((fs131.set 7 (.long 0)).set 15 (.int 0)).set 16 (.int 0)).set 1 (.int (nI c_33))).set 13 (.int (nI (v175 + 1)))).length = 51 := by rw [List.length_set]; exact hn_169
                                          have hv_182 : (((((fs131.set 7 (.long 0)).set 15 (.int 0)).set 16 (.int 0)).set 1 (.int (nI c_33))).set 13 (.int (nI (v175 + 1))))[7]? = some (.long 0) := by rw [List.getElem?_set_ne (by decide)]; exact hv_170
                                          have hv_183 : (((((fs131.set 7 (.long 0)).set 15 (.int 0)).set 16 (.int 0)).set 1 (.int (nI c_33))).set 13 (.int (nI (v175 + 1))))[15]? = some (.int (nI 0)) := by rw [List.getElem?_set_ne (by decide)]; exact hv_171
                                          have hv_184 : (((((fs131.set 7 (.long 0)).set 15 (.int 0)).set 16 (.int 0)).set 1 (.int (nI c_33))).set 13 (.int (nI (v175 + 1))))[16]? = some (.int (nI 0)) := by rw [List.getElem?_set_ne (by decide)]; exact hv_172
                                          have hv_185 : (((((fs131.set 7 (.long 0)).set 15 (.int 0)).set 16 (.int 0)).set 1 (.int (nI c_33))).set 13 (.int (nI (v175 + 1))))[1]? = some (.int (nI c_33)) := by rw [List.getElem?_set_ne (by decide)]; exact hs_168
                                          have hb_186 : (v175 + 1) ≤ 12 := by omega
                                          obtain ⟨M_187, eM_187⟩ : ∃ M1 : Hp, M1 = va_up M_173 b13 (.inr (12, ((((fs131.set 7 (.long 0)).set 15 (.int 0)).set 16 (.int 0)).set 1 (.int (nI c_33))).set 13 (.int (nI (v175 + 1))))) := ⟨_, rfl⟩
                                          have hx13 : (fx M b13 13) = ((v175 : Nat) : Int) := (congrFun hV.2.1 13).symm.trans ((fx_of hM_174 rfl hv175).trans (nI_toInt (by omega)))
                                          have hV : VW K L M M_187 b13 (va_up (va_up (va_up (va_up (va_up (va_up (fx M b13) 17 ((gnw117 : Nat) : Int)) 14 ((n_133 : Nat) : Int)) 15 (0 : Int)) 16 (0 : Int)) 1 ((c_33 : Nat) : Int)) 13 (((v175 + 1) : Nat) : Int)) (va_up (va_up (va_up (va_up (va_up (ax M b13) 44 gpw117) 45 gqw117) 38 p_134) 39 q_135) 40 r_136) := by rw [eM_187]; exact hV.put hW hb_15 hM_174 hn_169 rfl (by decide) rfl (nI_toInt (by omega))
                                          have hP : va_P D vwCl ([(za, .inr (13, [.int 0, .ref z1, .int (nI z2), .int (nI z3), .int z4, .int z5, .ref z6, .ref z7, .ref z8, .ref z9, .int (nI z10), .ref z11, .ref z12, .ref z13, .ref z14, .ref z15, .int (nI zgw117), .ref z17, .int z18, .ref z19]))] ++ va_pl L M_187) H_177 := by rw [eM_187]; exact hP
                                          have hD : va_D A ([(za, .inr (13, [.int 0, .ref z1, .int (nI z2), .int (nI z3), .int z4, .int z5, .ref z6, .ref z7, .ref z8, .ref z9, .int (nI z10), .ref z11, .ref z12, .ref z13, .ref z14, .ref z15, .int (nI zgw117), .ref z17, .int z18, .ref z19]))] ++ va_pl L M_187) := by rw [eM_187]; exact hD
                                          have hW : WOM cy K L M_187 := by rw [eM_187]; exact hW.up_12 hb_15 ⟨_, rfl, hn_181, hk_179⟩
                                          have hF : fr K L [12, 14, 15, 32, 42, 45, 46, 79, 80, 81, 83] M M_187 := by rw [eM_187]; exact hF.up hb_15 (by decide)
                                          have hG : fG K L [1, 7, 8, 13, 14, 15, 16, 17, 18] M M_187 := by rw [eM_187]; exact hG.up hM_174 (by decide)
                                          have hM_188 : M_187 b13 = .inr (12, ((((fs131.set 7 (.long 0)).set 15 (.int 0)).set 16 (.int 0)).set 1 (.int (nI c_33))).set 13 (.int (nI (v175 + 1)))) := by rw [eM_187]; exact va_up_self _ _ _
                                          refine lv_aload_n hx hb dX13_close_338 rfl (lv_at hl 5 rfl) ?_
                                          refine lv_iconst (v := 1) hx hb dX13_close_339 (by decide) ?_
                                          refine pg_putN (D := D) (ci := 12) (v := .int 1) (ty := .boolean) (C := RX12) (T := TX12) (N := 51) hx hb hg inG12 tyX12 tyX12_ok nmX12 hown hK hP hD hS hb_15.1 hM_188 rfl 18 (by decide) (hN.use (Cond.fieldLinkNest RX13 288 RX12 "hasClosed" "Z" RX13) 27 rfl rfl) (fun _ h9 => h9) rfl (by decide +kernel) rfl rfl (by rw [hn_181]; decide) dX13_close_340 (fun H_189 locs hP hD hS => ?_)
                                          have hs_192 : ((((((fs131.set 7 (.long 0)).set 15 (.int 0)).set 16 (.int 0)).set 1 (.int (nI c_33))).set 13 (.int (nI (v175 + 1)))).set 18 (.int 1))[18]? = some (.int 1) := List.getElem?_set_self (by rw [hn_181]; decide)
                                          have hk_191 := fld12_set (k := 18) (w := .int 1) hk_179 (show fld12 K L 18 ((((((fs131.set 7 (.long 0)).set 15 (.int 0)).set 16 (.int 0)).set 1 (.int (nI c_33))).set 13 (.int (nI (v175 + 1)))).set 18 (.int 1)) from ⟨1, hs_192, by decide⟩)
                                          have hn_193 : ((((((fs131.set 7 (.long 0)).set 15 (.int 0)).set 16 (.int 0)).set 1 (.int (nI c_33))).set 13 (.int (nI (v175 + 1)))).set 18 (.int 1)).length = 51 := by rw [List.length_set]; exact hn_181
                                          have hv_194 : ((((((fs131.set 7 (.long 0)).set 15 (.int 0)).set 16 (.int 0)).set 1 (.int (nI c_33))).set 13 (.int (nI (v175 + 1)))).set 18 (.int 1))[7]? = some (.long 0) := by rw [List.getElem?_set_ne (by decide)]; exact hv_182
                                          have hv_195 : ((((((fs131.set 7 (.long 0)).set 15 (.int 0)).set 16 (.int 0)).set 1 (.int (nI c_33))).set 13 (.int (nI (v175 + 1)))).set 18 (.int 1))[15]? = some (.int (nI 0)) := by rw [List.getElem?_set_ne (by decide)]; exact hv_183
                                          have hv_196 : ((((((fs131.set 7 (.long 0)).set 15 (.int 0)).set 16 (.int 0)).set 1 (.int (nI c_33))).set 13 (.int (nI (v175 + 1)))).set 18 (.int 1))[16]? = some (.int (nI 0)) := by rw [List.getElem?_set_ne (by decide)]; exact hv_184
                                          have hv_197 : ((((((fs131.set 7 (.long 0)).set 15 (.int 0)).set 16 (.int 0)).set 1 (.int (nI c_33))).set 13 (.int (nI (v175 + 1)))).set 18 (.int 1))[1]? = some (.int (nI c_33)) := by rw [List.getElem?_set_ne (by decide)]; exact hv_185
                                          have hv_198 : ((((((fs131.set 7 (.long 0)).set 15 (.int 0)).set 16 (.int 0)).set 1 (.int (nI c_33))).set 13 (.int (nI (v175 + 1)))).set 18 (.int 1))[13]? = some (.int (nI (v175 + 1))) := by rw [List.getElem?_set_ne (by decide)]; exact hs_180
                                          obtain ⟨M_199, eM_199⟩ : ∃ M1 : Hp, M1 = va_up M_187 b13 (.inr (12, (((((fs131.set 7 (.long 0)).set 15 (.int 0)).set 16 (.int 0)).set 1 (.int (nI c_33))).set 13 (.int (nI (v175 + 1)))).set 18 (.int 1))) := ⟨_, rfl⟩
                                          have hV : VW K L M M_199 b13 (va_up (va_up (va_up (va_up (va_up (va_up (va_up (fx M b13) 17 ((gnw117 : Nat) : Int)) 14 ((n_133 : Nat) : Int)) 15 (0 : Int)) 16 (0 : Int)) 1 ((c_33 : Nat) : Int)) 13 (((v175 + 1) : Nat) : Int)) 18 (1 : Int)) (va_up (va_up (va_up (va_up (va_up (ax M b13) 44 gpw117) 45 gqw117) 38 p_134) 39 q_135) 40 r_136) := by rw [eM_199]; exact hV.put hW hb_15 hM_188 hn_181 rfl (by decide) rfl (by decide)
                                          have hP : va_P D vwCl ([(za, .inr (13, [.int 0, .ref z1, .int (nI z2), .int (nI z3), .int z4, .int z5, .ref z6, .ref z7, .ref z8, .ref z9, .int (nI z10), .ref z11, .ref z12, .ref z13, .ref z14, .ref z15, .int (nI zgw117), .ref z17, .int z18, .ref z19]))] ++ va_pl L M_199) H_189 := by rw [eM_199]; exact hP
                                          have hD : va_D A ([(za, .inr (13, [.int 0, .ref z1, .int (nI z2), .int (nI z3), .int z4, .int z5, .ref z6, .ref z7, .ref z8, .ref z9, .int (nI z10), .ref z11, .ref z12, .ref z13, .ref z14, .ref z15, .int (nI zgw117), .ref z17, .int z18, .ref z19]))] ++ va_pl L M_199) := by rw [eM_199]; exact hD
                                          have hW : WOM cy K L M_199 := by rw [eM_199]; exact hW.up_12 hb_15 ⟨_, rfl, hn_193, hk_191⟩
                                          have hF : fr K L [12, 14, 15, 32, 42, 45, 46, 79, 80, 81, 83] M M_199 := by rw [eM_199]; exact hF.up hb_15 (by decide)
                                          have hG : fG K L [1, 7, 8, 13, 14, 15, 16, 17, 18] M M_199 := by rw [eM_199]; exact hG.up hM_188 (by decide)
                                          have hM_200 : M_199 b13 = .inr (12, (((((fs131.set 7 (.long 0)).set 15 (.int 0)).set 16 (.int 0)).set 1 (.int (nI c_33))).set 13 (.int (nI (v175 + 1)))).set 18 (.int 1)) := by rw [eM_199]; exact va_up_self _ _ _
                                          refine lv_aload_n hx hb dX13_close_343 rfl (lv_at hl 6 rfl) ?_
                                          refine lv_aload_n hx hb dX13_close_344 rfl (lv_at hl 5 rfl) ?_
                                          refine lv_iload hx hb dX13_close_345 (lv_at hl 3 rfl) ?_
                                          have hPc : va_P D vwCl ([(za, .inr (13, [.int 0, .ref z1, .int (nI z2), .int (nI z3), .int z4, .int z5, .ref z6, .ref z7, .ref z8, .ref z9, .int (nI z10), .ref z11, .ref z12, .ref z13, .ref z14, .ref z15, .int (nI zgw117), .ref z17, .int z18, .ref z19]))] ++ va_pl L M_199) H_189 := hP
                                          have hDc : va_D A ([(za, .inr (13, [.int 0, .ref z1, .int (nI z2), .int (nI z3), .int z4, .int z5, .ref z6, .ref z7, .ref z8, .ref z9, .int (nI z10), .ref z11, .ref z12, .ref z13, .ref z14, .ref z15, .int (nI zgw117), .ref z17, .int z18, .ref z19]))] ++ va_pl L M_199) := hD
                                          have hFc : ∀ q, va_A ([(za, .inr (13, [.int 0, .ref z1, .int (nI z2), .int (nI z3), .int z4, .int z5, .ref z6, .ref z7, .ref z8, .ref z9, .int (nI z10), .ref z11, .ref z12, .ref z13, .ref z14, .ref z15, .int (nI zgw117), .ref z17, .int z18, .ref z19]))] ++ va_pl L M_199) H_189.size q → A q := pg_free hDc hS hA
                                          refine va_callv (va_runV (As := [.ref b13, .int (nI c_33)]) (rest := []) ⟨hx, hb, hml, hown, hg⟩ (g_X13_incomes l D cy K L M_199 H_189.size za 0 z1 z2 z3 z4 z5 z6 z7 z8 z9 z10 z11 z12 z13 z14 z15 zgw117 z17 z18 z19 b13 c_33  hW i1 b2 b3 i6 i7 i8 i9 b10 i11 i12 i13 i14 i15 (by omega) i17 i19 hb_15 hc_34 (R5.mv hR5 i6 i7 hF (by decide) (by decide))) (cwV 2 hg (gV wd_864 wd_865 wd_866 wd_717 wd_867) rfl rfl rfl (by decide +kernel) ⟨(Nat.le_trans (Nat.le_of_ble_eq_true rfl) hRf), (Nat.le_trans (Nat.le_of_ble_eq_true rfl) hRl)⟩) ⟨PG.blind, va_recv hK hP (ci := 13) (q0 := 0) rfl rfl, fun U hU hW => ⟨rfl, PG.at hPc hK hDc hN hU hW⟩⟩ rfl rfl hl.1 rfl (lv_room (Nat.le_of_ble_eq_true rfl)) dX13_close_347 ⟨(Nat.le_trans (Nat.le_of_ble_eq_true rfl) hRc), (Nat.le_trans (Nat.le_of_ble_eq_true rfl) hRs)⟩) hS (fun q _ h => hFc q h) hFc (fun M_203 t H_201 locs ht hvm hw hB hz1 hk1 hS => ?_)
                                          have hWb := hW
                                          obtain ⟨hW, hF2, hG2, hp_204⟩ := hw
                                          obtain ⟨hP1, hD1⟩ := hB
                                          rw [ht] at hP1
                                          have hP : va_P D vwCl ([(za, .inr (13, [.int 0, .ref z1, .int (nI z2), .int (nI z3), .int z4, .int z5, .ref z6, .ref z7, .ref z8, .ref z9, .int (nI z10), .ref z11, .ref z12, .ref z13, .ref z14, .ref z15, .int (nI zgw117), .ref z17, .int z18, .ref z19]))] ++ va_pl L M_203) H_201 := hP1
                                          have hD : va_D A ([(za, .inr (13, [.int 0, .ref z1, .int (nI z2), .int (nI z3), .int z4, .int z5, .ref z6, .ref z7, .ref z8, .ref z9, .int (nI z10), .ref z11, .ref z12, .ref z13, .ref z14, .ref z15, .int (nI zgw117), .ref z17, .int z18, .ref z19]))] ++ va_pl L M_203) := hD1.mono hFc
                                          obtain ⟨fs205, hM205, hn205, hl205⟩ := hW.open_12 hb_15
                                          have hv_206 : fs205[15]? = some (.int (nI 0) : Value) := (hG2 _ hb_15 _ _ hM_200 hM205 15 (by decide)).trans hv_195
                                          have hv_207 : fs205[16]? = some (.int (nI 0) : Value) := (hG2 _ hb_15 _ _ hM_200 hM205 16 (by decide)).trans hv_196
                                          have hv_208 : fs205[1]? = some (.int (nI c_33) : Value) := (hG2 _ hb_15 _ _ hM_200 hM205 1 (by decide)).trans hv_197
                                          have hv_209 : fs205[13]? = some (.int (nI (v175 + 1)) : Value) := (hG2 _ hb_15 _ _ hM_200 hM205 13 (by decide)).trans hv_198
                                          have hv_210 : fs205[18]? = some (.int 1 : Value) := (hG2 _ hb_15 _ _ hM_200 hM205 18 (by decide)).trans hs_192
                                          have hF : fr K L [12, 14, 15, 32, 42, 45, 46, 79, 80, 81, 83] M M_203 := hF.tr hF2 (by decide)
                                          have hG : fG K L [1, 7, 8, 13, 14, 15, 16, 17, 18] M M_203 := hG.tr hWb hG2 (by decide)
                                          have hV : VW K L M M_203 b13 (va_up (va_up (va_up (va_up (va_up (va_up (va_up (fx M b13) 17 ((gnw117 : Nat) : Int)) 14 ((n_133 : Nat) : Int)) 15 (0 : Int)) 16 (0 : Int)) 1 ((c_33 : Nat) : Int)) 13 (((v175 + 1) : Nat) : Int)) 18 (1 : Int)) (va_up (va_up (va_up (va_up (va_up (ax M b13) 44 gpw117) 45 gqw117) 38 p_134) 39 q_135) 40 r_136) := hV.cal hWb hW hF2 hG2 (by decide) (by decide) hb_15
                                          refine lv_aload_n hx hb dX13_close_350 rfl (lv_at hl 5 rfl) ?_
                                          refine lv_iload hx hb dX13_close_351 (lv_at hl 3 rfl) ?_
                                          have hPc : va_P D vwCl ([] ++ va_pl L M_203) H_201 := hP.part (cx := []) [] rfl
                                          have hDc : va_D A ([] ++ va_pl L M_203) := hD.part (cx := []) [] (by decide) rfl
                                          have hFc : ∀ q, va_A ([] ++ va_pl L M_203) H_201.size q → A q := pg_free hDc hS hA
                                          refine va_callv (va_runS (As := [.ref b13, .int (nI c_33)]) (rest := []) ⟨hx, hb, hml, hown, hg⟩ (z_ends l D cy K L M_203 H_201.size b13 c_33  hW hb_15 hc_34 hV.2.2.2 (by rw [hV.2.1, hV.2.2.1]; exact hAT.2.2.1)) (va_cwS 2 hg (gS wd_868 wd_869 wd_717 wd_870) rfl rfl rfl (by decide +kernel) ⟨(Nat.le_trans (Nat.le_of_ble_eq_true rfl) hRf), (Nat.le_trans (Nat.le_of_ble_eq_true rfl) hRl)⟩) ⟨PG.blind, fun U hU hW => ⟨rfl, PG.at hPc hK hDc hN hU hW⟩⟩ rfl rfl hl.1 rfl (lv_room (Nat.le_of_ble_eq_true rfl)) dX13_close_353 ⟨(Nat.le_trans (Nat.le_of_ble_eq_true rfl) hRc), (Nat.le_trans (Nat.le_of_ble_eq_true rfl) hRs)⟩) hS (fun q _ h => hFc q h) hFc (fun M_213 t H_211 locs ht hvm hw hB hz1 hk1 hS => ?_)
                                          have hWb := hW
                                          obtain ⟨hW, hF2, hG2, hVP, hp_214⟩ := hw
                                          obtain ⟨hP1, hD1⟩ := hB
                                          rw [ht] at hP1
                                          obtain ⟨hP, hD⟩ := va_joinP (X := [(za, .inr (13, [.int 0, .ref z1, .int (nI z2), .int (nI z3), .int z4, .int z5, .ref z6, .ref z7, .ref z8, .ref z9, .int (nI z10), .ref z11, .ref z12, .ref z13, .ref z14, .ref z15, .int (nI zgw117), .ref z17, .int z18, .ref z19]))]) (cx := []) (wr := [(za, .inr (13, [.int 0, .ref z1, .int (nI z2), .int (nI z3), .int z4, .int z5, .ref z6, .ref z7, .ref z8, .ref z9, .int (nI z10), .ref z11, .ref z12, .ref z13, .ref z14, .ref z15, .int (nI zgw117), .ref z17, .int z18, .ref z19]))]) (rx := []) (pl := va_pl L M_203) (pl1 := va_pl L M_213) hP hD [] [0] rfl rfl (by decide) (by decide) hk1 hFc hP1 hD1
                                          have hP : va_P D vwCl ([(za, .inr (13, [.int 0, .ref z1, .int (nI z2), .int (nI z3), .int z4, .int z5, .ref z6, .ref z7, .ref z8, .ref z9, .int (nI z10), .ref z11, .ref z12, .ref z13, .ref z14, .ref z15, .int (nI zgw117), .ref z17, .int z18, .ref z19]))] ++ va_pl L M_213) H_211 := hP
                                          have hD : va_D A ([(za, .inr (13, [.int 0, .ref z1, .int (nI z2), .int (nI z3), .int z4, .int z5, .ref z6, .ref z7, .ref z8, .ref z9, .int (nI z10), .ref z11, .ref z12, .ref z13, .ref z14, .ref z15, .int (nI zgw117), .ref z17, .int z18, .ref z19]))] ++ va_pl L M_213) := hD
                                          have hM_215 : M_213 b13 = .inr (12, fs205) := (hF2.at hb_15 (by decide)).trans hM205
                                          have hF : fr K L [12, 14, 15, 32, 42, 45, 46, 79, 80, 81, 83] M M_213 := hF.tr hF2 (by decide)
                                          have hG : fG K L [1, 7, 8, 13, 14, 15, 16, 17, 18] M M_213 := hG.tr hWb hG2 (by decide)
                                          obtain ⟨g_216, hg23, hV2⟩ := hVP
                                          rw [hV.2.1, hV.2.2.1] at hg23
                                          rw [hV.2.1, hV.2.2.1] at hV2
                                          have hV : VW K L M M_213 b13 (va_up (va_up (va_up (va_up (va_up (va_up (va_up (fx M b13) 17 ((gnw117 : Nat) : Int)) 14 ((n_133 : Nat) : Int)) 15 (0 : Int)) 16 (0 : Int)) 1 ((c_33 : Nat) : Int)) 13 (((v175 + 1) : Nat) : Int)) 18 (1 : Int)) (va_up (va_up (va_up (va_up (va_up (va_up (ax M b13) 44 gpw117) 45 gqw117) 38 p_134) 39 q_135) 40 r_136) 23 g_216) := hV.tr hV2
                                          refine lv_aload_n hx hb dX13_close_356 rfl (lv_at hl 6 rfl) ?_
                                          refine lv_aload_n hx hb dX13_close_357 rfl (lv_at hl 5 rfl) ?_
                                          refine pg_getN (D := D) (ci := 12) (v := .int (nI (v175 + 1))) (C := RX12) (T := TX12) (N := 51) hx hb hg inG12 hown hK hP hb_15.1 hM_215 rfl 13 (by decide) (hN.use (Cond.fieldLinkNest RX13 244 RX12 "closed" "I" RX13) 22 rfl rfl) (fun _ h9 => h9) hv_209 dX13_close_358 ?_
                                          have hx13 : (((v175 + 1) : Nat) : Int) = (((v175 + 1) : Nat) : Int) := (congrFun hV.2.1 13).symm.trans ((fx_of hM_215 rfl hv_209).trans (nI_toInt (by omega)))
                                          refine lv_iconst (v := 1) hx hb dX13_close_361 (by decide) ?_
                                          refine lv_isub hx hb dX13_close_362 ?_
                                          refine lv_topi (fun f_217 ef_217 => ?_)
                                          obtain rfl : f_217 = (nI ((v175 + 1) - 1)) := ef_217.trans (nI_prd (by omega))
                                          have hPc := hP.sub (ws' := [(za, .inr (13, [.int 0, .ref z1, .int (nI z2), .int (nI z3), .int z4, .int z5, .ref z6, .ref z7, .ref z8, .ref z9, .int (nI z10), .ref z11, .ref z12, .ref z13, .ref z14, .ref z15, .int (nI zgw117), .ref z17, .int z18, .ref z19]))]) [0] rfl
                                          have hDc := hD.sub (ws' := [(za, .inr (13, [.int 0, .ref z1, .int (nI z2), .int (nI z3), .int z4, .int z5, .ref z6, .ref z7, .ref z8, .ref z9, .int (nI z10), .ref z11, .ref z12, .ref z13, .ref z14, .ref z15, .int (nI zgw117), .ref z17, .int z18, .ref z19]))]) [0] (by decide) rfl
                                          have hKc := hK.sub (tys' := []) [] rfl
                                          have hFc := va_free (wc := [(za, .inr (13, [.int 0, .ref z1, .int (nI z2), .int (nI z3), .int z4, .int z5, .ref z6, .ref z7, .ref z8, .ref z9, .int (nI z10), .ref z11, .ref z12, .ref z13, .ref z14, .ref z15, .int (nI zgw117), .ref z17, .int z18, .ref z19]))]) hD hS hA [0] rfl
                                          refine va_calli (va_runV (As := [.int (nI ((v175 + 1) - 1))]) (rest := []) ⟨hx, hb, hml, hown, hg⟩ (m_done l D H_211.size za 0 z1 (nI z2) (nI z3) z4 z5 z6 z7 z8 z9 (nI z10) z11 z12 z13 z14 z15 (nI zgw117) z17 z18 z19 (nI ((v175 + 1) - 1))) (cwV 1 hg (gV wd_730 wd_731 wd_732 wd_717 wd_733) rfl rfl rfl (by decide +kernel) ⟨(Nat.le_trans (Nat.le_of_ble_eq_true rfl) hRf), (Nat.le_trans (Nat.le_of_ble_eq_true rfl) hRl)⟩) ⟨Pr.blind, va_recv hK hP (ci := 13) (q0 := 0) rfl rfl, fun U hU hW => ⟨rfl, Pr.at hPc hKc hDc hN hU hW⟩⟩ rfl rfl hl.1 rfl (lv_room (Nat.le_of_ble_eq_true rfl)) dX13_close_363 ⟨(Nat.le_trans (Nat.le_of_ble_eq_true rfl) hRc), (Nat.le_trans (Nat.le_of_ble_eq_true rfl) hRs)⟩) hS (fun q _ h => hFc q h) hFc (fun r_219 M_220 t H_218 locs ht hvm hw hB hz1 hk1 hS => ?_)
                                          have hp_221 := hw
                                          obtain ⟨hP1, hK1, hD1⟩ := hB
                                          rw [ht] at hP1
                                          obtain ⟨hP, hD⟩ := va_joinQ (X := [(za, .inr (13, [.int 0, .ref z1, .int (nI z2), .int (nI z3), .int z4, .int z5, .ref z6, .ref z7, .ref z8, .ref z9, .int (nI z10), .ref z11, .ref z12, .ref z13, .ref z14, .ref z15, .int (nI zgw117), .ref z17, .int z18, .ref z19]))]) (cx := [(za, .inr (13, [.int 0, .ref z1, .int (nI z2), .int (nI z3), .int z4, .int z5, .ref z6, .ref z7, .ref z8, .ref z9, .int (nI z10), .ref z11, .ref z12, .ref z13, .ref z14, .ref z15, .int (nI zgw117), .ref z17, .int z18, .ref z19]))]) (wr := []) (w1 := [(za, .inr (13, [.int 0, .ref z1, .int (nI z2), .int (nI z3), .int 0, .int (-1), .ref z6, .ref z7, .ref z8, .ref z9, .int (nI z10), .ref z11, .ref z12, .ref z13, .ref z14, .ref z15, .int (nI zgw117), .ref z17, .int z18, .ref z19]))]) (pl := va_pl L M_213) hP hD [0] [] rfl rfl (by decide) (by decide) hk1 hFc hP1 hD1
                                          have hP : va_P D vwCl ([(za, .inr (13, [.int 0, .ref z1, .int (nI z2), .int (nI z3), .int 0, .int (-1), .ref z6, .ref z7, .ref z8, .ref z9, .int (nI z10), .ref z11, .ref z12, .ref z13, .ref z14, .ref z15, .int (nI zgw117), .ref z17, .int z18, .ref z19]))] ++ va_pl L M_213) H_218 := hP
                                          have hD : va_D A ([(za, .inr (13, [.int 0, .ref z1, .int (nI z2), .int (nI z3), .int 0, .int (-1), .ref z6, .ref z7, .ref z8, .ref z9, .int (nI z10), .ref z11, .ref z12, .ref z13, .ref z14, .ref z15, .int (nI zgw117), .ref z17, .int z18, .ref z19]))] ++ va_pl L M_213) := hD
                                          have hq := Eq.symm hp_221
                                          subst hq
                                          have hI_222 : (24 : Int) ≤ ((v6w80 : Nat) : Int) := ileI rfl (nI_toInt (by omega)) c_85
                                          have hI_223 : ((c_33 : Nat) : Int) < ((v6w90 : Nat) : Int) := iltI (nI_toInt (by omega)) (nI_toInt (by omega)) c_95
                                          have hI_224 : ((v98 : Nat) : Int) ≤ ((v7w107 : Nat) : Int) := ileI (nI_toInt (by omega)) (nI_toInt (by omega)) c_112
                                          have hI_225 : ((v124 : Nat) : Int) ≤ ((v7w117 : Nat) : Int) := ileI (nI_toInt (by omega)) (nI_toInt (by omega)) c_125
                                          have hy4 : ∀ d : Nat, SX (k1 : Int32).toNatClampNeg 1 < (d : Int) → (d : Int) ≤ enD (SX (k1 : Int32).toNatClampNeg) (SY (k1 : Int32).toNatClampNeg) → ¬ opD (SY (k1 : Int32).toNatClampNeg) d := fun d h1 h2 => hall d h1 (by rw [hEd] at h2; omega)
                                          have hy5 : ∀ b, b < z2 → ¬ LAG PK PT SX SY (k1 : Int32).toNatClampNeg (enD (SX (k1 : Int32).toNatClampNeg) (SY (k1 : Int32).toNatClampNeg)) b := by rw [hEd]; have h9 := c_56; rw [nI_toInt (by omega)] at h9; exact h9
                                          have hyes : okCl z2 PK PT SX SY k1 := by unfold okCl okH; refine ⟨⟨?_, ?_⟩, ?_, ?_, ?_, ?_⟩ <;> first | omega | assumption
                                          have hA9 : HA (ax M b13 2) (ax M b13 3) := hAT.1
                                          have hB9 : HB (0 : Int) ((n_133 : Nat) : Int) (ax M b13 3) (ax M b13 43) := HB.zero hAT.2.1.nn.1 hn14
                                          have hC9 : HC (fx M b13 10) (ax M b13 22) g_216 := HC.gr hAT.2.2.1 hg9
                                          have hD9 : HD (fx M b13 0) (fx M b13 11) (0 : Int) (ax M b13 34) (ax M b13 41) := HD.clr hAT.2.2.2.1
                                          have hE9 : HE (fx M b13 0) ((c_33 : Nat) : Int) (fx M b13 12) (((v175 + 1) : Nat) : Int) (ax M b13 37) := HE.close hAT.2.2.2.2 hb13 (by omega) (by omega) (by rw [hT37])
                                          have hH9 : HI (va_up (va_up (va_up (va_up (va_up (va_up (va_up (fx M b13) 17 ((gnw117 : Nat) : Int)) 14 ((n_133 : Nat) : Int)) 15 (0 : Int)) 16 (0 : Int)) 1 ((c_33 : Nat) : Int)) 13 (((v175 + 1) : Nat) : Int)) 18 (1 : Int)) (va_up (va_up (va_up (va_up (va_up (va_up (ax M b13) 44 gpw117) 45 gqw117) 38 p_134) 39 q_135) 40 r_136) 23 g_216) := ⟨hA9, hB9, hC9, hD9, hE9⟩
                                          have hGI9 : GI K L z1 z2 M_213 := GI.fin hW0 i1 b2 hGI hact hV (hF.at i1 (by decide)) hH9
                                          have hX1 : (va_up (va_up (va_up (va_up (va_up (va_up (va_up (fx M b13) 17 ((gnw117 : Nat) : Int)) 14 ((n_133 : Nat) : Int)) 15 (0 : Int)) 16 (0 : Int)) 1 ((c_33 : Nat) : Int)) 13 (((v175 + 1) : Nat) : Int)) 18 (1 : Int)) 1 = ((c_33 : Nat) : Int) := rfl
                                          have hX13 : (va_up (va_up (va_up (va_up (va_up (va_up (va_up (fx M b13) 17 ((gnw117 : Nat) : Int)) 14 ((n_133 : Nat) : Int)) 15 (0 : Int)) 16 (0 : Int)) 1 ((c_33 : Nat) : Int)) 13 (((v175 + 1) : Nat) : Int)) 18 (1 : Int)) 13 = SX (k1 : Int32).toNatClampNeg 13 + 1 := by show (((v175 + 1) : Nat) : Int) = _; omega
                                          have hkp : kpF (nI 0) (nI c_33) = clk (SX (k1 : Int32).toNatClampNeg 1) ((c_33 : Nat) : Int) := by funext z9; unfold kpF clk; rw [show (decide (nI 0 ≤ z9.2.1)) = decide (SX (k1 : Int32).toNatClampNeg 1 + 1 ≤ z9.2.1.toInt) from decide_eq_decide.mpr (by rw [Int32.le_iff_toInt_le, nI_toInt (by omega)]; omega), show (decide (z9.2.1 ≤ nI c_33)) = decide (z9.2.1.toInt ≤ ((c_33 : Nat) : Int)) from decide_eq_decide.mpr (by rw [Int32.le_iff_toInt_le, nI_toInt (by omega)])]
                                          have hCLF : CLF (enD (SX (k1 : Int32).toNatClampNeg) (SY (k1 : Int32).toNatClampNeg)) (SX (k1 : Int32).toNatClampNeg) (SY (k1 : Int32).toNatClampNeg) (va_up (va_up (va_up (va_up (va_up (va_up (va_up (fx M b13) 17 ((gnw117 : Nat) : Int)) 14 ((n_133 : Nat) : Int)) 15 (0 : Int)) 16 (0 : Int)) 1 ((c_33 : Nat) : Int)) 13 (((v175 + 1) : Nat) : Int)) 18 (1 : Int)) (va_up (va_up (va_up (va_up (va_up (va_up (ax M b13) 44 gpw117) 45 gqw117) 38 p_134) 39 q_135) 40 r_136) 23 g_216) := by
                                            rw [hEd]
                                            refine ⟨congrFun hZk.1 0, hX1, congrFun hZk.1 10, congrFun hZk.1 11, congrFun hZk.1 12, hX13, rfl, rfl, ⟨n_133, rfl, ?_⟩, fun j q23 q38 q39 q40 q44 q45 => ?_, fun i hi => ?_⟩
                                            · rw [← hkp, show (SX (k1 : Int32).toNatClampNeg 14).toNat = n_137 by omega]; rw [← hZk.2]; exact htr8
                                            · rw [← hZk.2]; simp only [va_up_ne _ _ q23, va_up_ne _ _ q38, va_up_ne _ _ q39, va_up_ne _ _ q40, va_up_ne _ _ q44, va_up_ne _ _ q45]
                                            · rw [← hZk.2]; exact (hg23 i (by show (i : Int) < fx M b13 10; omega))
                                          rw [hQ]
                                          exact W.iret (v := (nI ((v175 + 1) - 1))) hx hb hr (fun t ht hW9 => ⟨⟨(nI ((v175 + 1) - 1)), M_213, rfl, ⟨hW, hF, hG, ⟨hGI9, (va_up (va_up (va_up (va_up (va_up (va_up (va_up (fx M b13) 17 ((gnw117 : Nat) : Int)) 14 ((n_133 : Nat) : Int)) 15 (0 : Int)) 16 (0 : Int)) 1 ((c_33 : Nat) : Int)) 13 (((v175 + 1) : Nat) : Int)) 18 (1 : Int)), (va_up (va_up (va_up (va_up (va_up (va_up (ax M b13) 44 gpw117) 45 gqw117) 38 p_134) 39 q_135) 40 r_136) 23 g_216), fun _ => hCLF, (by unfold sxCl syCl; rw [if_pos hyes, if_pos hyes]; exact ZSx.fin hW0 i1 b2 hZS hGI.1 hkn hb9 hV (hF.at i1 (by decide)) rfl rfl)⟩, (by unfold anCl; rw [if_pos hyes]; exact congrArg nI (by omega))⟩, ⟨0, (-1), zgw117, (by omega), by rw [ht]; exact hP, hD⟩⟩, hS.F ht⟩) hS.2.2 dX13_close_366
                                        · have hz := rfl (a := 0)
                                          have n_226 : ¬ (v124 ≤ v7w117) := fun q => c_125 ((iLE (a := v124) (b := v7w117) (by omega) (by omega)).mpr q)
                                          obtain ⟨v227, hv227, hc227⟩ : ∃ v : Nat, fs123[17]? = some (.int (nI v) : Value) ∧ v ≤ 120 := hl123 17 (by decide)
                                          have hx17 : ((gnw117 : Nat) : Int) = ((v227 : Nat) : Int) := (congrFun hV.2.1 17).symm.trans ((fx_of hM123 rfl hv227).trans (nI_toInt (by omega)))
                                          have hx15 : (fx M b13 15) = ((v124 : Nat) : Int) := (congrFun hV.2.1 15).symm.trans ((fx_of hM123 rfl hv124).trans (nI_toInt (by omega)))
                                          refine lv_aload_n hx hb dX13_close_287 rfl (lv_at hl 6 rfl) ?_
                                          refine lv_aload_n hx hb dX13_close_288 rfl (lv_at hl 5 rfl) ?_
                                          refine lv_iload hx hb dX13_close_289 (lv_at hl 0 rfl) ?_
                                          have hPc : va_P D vwCl ([(za, .inr (13, [.int 0, .ref z1, .int (nI z2), .int (nI z3), .int z4, .int z5, .ref z6, .ref z7, .ref z8, .ref z9, .int (nI z10), .ref z11, .ref z12, .ref z13, .ref z14, .ref z15, .int (nI zgw117), .ref z17, .int z18, .ref z19]))] ++ va_pl L M_121) H_122 := hP
                                          have hDc : va_D A ([(za, .inr (13, [.int 0, .ref z1, .int (nI z2), .int (nI z3), .int z4, .int z5, .ref z6, .ref z7, .ref z8, .ref z9, .int (nI z10), .ref z11, .ref z12, .ref z13, .ref z14, .ref z15, .int (nI zgw117), .ref z17, .int z18, .ref z19]))] ++ va_pl L M_121) := hD
                                          have hFc : ∀ q, va_A ([(za, .inr (13, [.int 0, .ref z1, .int (nI z2), .int (nI z3), .int z4, .int z5, .ref z6, .ref z7, .ref z8, .ref z9, .int (nI z10), .ref z11, .ref z12, .ref z13, .ref z14, .ref z15, .int (nI zgw117), .ref z17, .int z18, .ref z19]))] ++ va_pl L M_121) H_122.size q → A q := pg_free hDc hS hA
                                          refine va_callv (va_runV (As := [.ref b13, .int (nI v7w117)]) (rest := []) ⟨hx, hb, hml, hown, hg⟩ (g_X13_mended l D cy K L M_121 H_122.size za 0 z1 z2 z3 z4 z5 z6 z7 z8 z9 z10 z11 z12 z13 z14 z15 zgw117 z17 z18 z19 b13 v7w117  hW i1 b2 b3 i6 i7 i8 i9 b10 i11 i12 i13 i14 i15 (by omega) i17 i19 hb_15 (by omega) hV.2.2.2 ⟨_, _, hM123, hv227, by omega⟩ (by rw [hV.2.1]; exact h11) (by rw [hV.2.1, hV.2.2.1]; exact hAT.2.2.2.1) (by rw [hV.2.1]; show ((v7w117 : Nat) : Int) < fx M b13 15; omega)) (cwV 2 hg (gV wd_871 wd_872 wd_873 wd_717 wd_874) rfl rfl rfl (by decide +kernel) ⟨(Nat.le_trans (Nat.le_of_ble_eq_true rfl) hRf), (Nat.le_trans (Nat.le_of_ble_eq_true rfl) hRl)⟩) ⟨PG.blind, va_recv hK hP (ci := 13) (q0 := 0) rfl rfl, fun U hU hW => ⟨rfl, PG.at hPc hK hDc hN hU hW⟩⟩ rfl rfl hl.1 rfl (lv_room (Nat.le_of_ble_eq_true rfl)) dX13_close_291 ⟨(Nat.le_trans (Nat.le_of_ble_eq_true rfl) hRc), (Nat.le_trans (Nat.le_of_ble_eq_true rfl) hRs)⟩) hS (fun q _ h => hFc q h) hFc (fun M_230 t H_228 locs ht hvm hw hB hz1 hk1 hS => ?_)
                                          have hWb := hW
                                          obtain ⟨hW, hF2, hG2, hVP, hp_231⟩ := hw
                                          obtain ⟨w16_232, hg_233, hP1, hD1⟩ := hB
                                          rw [ht] at hP1
                                          have hP : va_P D vwCl ([(za, .inr (13, [.int 0, .ref z1, .int (nI z2), .int (nI z3), .int z4, .int z5, .ref z6, .ref z7, .ref z8, .ref z9, .int (nI z10), .ref z11, .ref z12, .ref z13, .ref z14, .ref z15, .int (nI w16_232), .ref z17, .int z18, .ref z19]))] ++ va_pl L M_230) H_228 := hP1
                                          have hD : va_D A ([(za, .inr (13, [.int 0, .ref z1, .int (nI z2), .int (nI z3), .int z4, .int z5, .ref z6, .ref z7, .ref z8, .ref z9, .int (nI z10), .ref z11, .ref z12, .ref z13, .ref z14, .ref z15, .int (nI w16_232), .ref z17, .int z18, .ref z19]))] ++ va_pl L M_230) := hD1.mono hFc
                                          obtain ⟨fs234, hM234, hn234, hl234⟩ := hW.open_12 hb_15
                                          have hv_235 : fs234[15]? = some (.int (nI v124) : Value) := (hG2 _ hb_15 _ _ hM123 hM234 15 (by decide)).trans hv124
                                          have hF : fr K L [12, 14, 15, 32, 42, 45, 46, 79, 80, 81, 83] M M_230 := hF.tr hF2 (by decide)
                                          have hG : fG K L [1, 7, 8, 13, 14, 15, 16, 17, 18] M M_230 := hG.tr hWb hG2 (by decide)
                                          obtain ⟨n_236, g_237, g_238, hn17, hV2⟩ := hVP
                                          rw [hV.2.1] at hn17
                                          rw [hV.2.1, hV.2.2.1] at hV2
                                          have hn17 : ((gnw117 : Nat) : Int) = (n_236 : Int) := hn17
                                          have hV : VW K L M M_230 b13 (va_up (va_up (fx M b13) 17 ((gnw117 : Nat) : Int)) 17 ((n_236 + 1 : Nat) : Int)) (va_up (va_up (va_up (va_up (ax M b13) 44 gpw117) 45 gqw117) 44 g_237) 45 g_238) := hV.tr hV2
                                          refine lv_iinc (v := (nI (v7w117 + 1))) (lv' := [(7, .int (nI (v7w117 + 1))), (6, .int (nI v98)), (5, .int (-1)), (4, .int (nI c_33)), (3, .int 0), (2, .ref b13), (0, .ref za), (1, .int k1)]) hx hb dX13_close_294 hl (k := 0) rfl (nI_1 v7w117) (by decide) rfl (fun ls hl => ?_)
                                          refine lv_goto (tgt := 278) hx hb dX13_close_297 (by decide) ?_
                                          exact ih_115 (v7w117 + 1) w16_232 (n_236 + 1) g_237 g_238 M_230 H_228 _ _ (by omega) (by omega) (by omega) (by omega) hW hF hG (by have h := hV; simp only [va_up_up] at h; rw [va_up_4] at h; exact h) hP hD hS (lv_sub hl [0, 1, 2, 3, 4, 5, 6, 7] rfl)
                                    exact key_114 (24 - 0 + 1) 0 zgw107 gnw90 gpw90 gqw90 M_110 H_111 _ _ (by omega) (by omega) (by omega) (by omega) hW hF hG hV hP hD hS (lv_sub hl [0, 1, 2, 3, 4, 5, 6, 7] rfl)
                                  · have hz := rfl (a := 0)
                                    have n_239 : ¬ (v98 ≤ v7w107) := fun q => c_112 ((iLE (a := v98) (b := v7w107) (by omega) (by omega)).mpr q)
                                    refine lv_aload_n hx hb dX13_close_261 rfl (lv_at hl 6 rfl) ?_
                                    refine lv_aload_n hx hb dX13_close_262 rfl (lv_at hl 5 rfl) ?_
                                    refine lv_iload hx hb dX13_close_263 (lv_at hl 0 rfl) ?_
                                    refine lv_iload_n hx hb dX13_close_265 rfl (lv_at hl 4 rfl) ?_
                                    have hPc : va_P D vwCl ([(za, .inr (13, [.int 0, .ref z1, .int (nI z2), .int (nI z3), .int z4, .int z5, .ref z6, .ref z7, .ref z8, .ref z9, .int (nI z10), .ref z11, .ref z12, .ref z13, .ref z14, .ref z15, .int (nI zgw107), .ref z17, .int z18, .ref z19]))] ++ va_pl L M_110) H_111 := hP
                                    have hDc : va_D A ([(za, .inr (13, [.int 0, .ref z1, .int (nI z2), .int (nI z3), .int z4, .int z5, .ref z6, .ref z7, .ref z8, .ref z9, .int (nI z10), .ref z11, .ref z12, .ref z13, .ref z14, .ref z15, .int (nI zgw107), .ref z17, .int z18, .ref z19]))] ++ va_pl L M_110) := hD
                                    have hFc : ∀ q, va_A ([(za, .inr (13, [.int 0, .ref z1, .int (nI z2), .int (nI z3), .int z4, .int z5, .ref z6, .ref z7, .ref z8, .ref z9, .int (nI z10), .ref z11, .ref z12, .ref z13, .ref z14, .ref z15, .int (nI zgw107), .ref z17, .int z18, .ref z19]))] ++ va_pl L M_110) H_111.size q → A q := pg_free hDc hS hA
                                    refine va_callv (va_runV (As := [.ref b13, .int (nI v7w107), .int 0]) (rest := []) ⟨hx, hb, hml, hown, hg⟩ (g_X13_stretch l D cy K L M_110 H_111.size za 0 z1 z2 z3 z4 z5 z6 z7 z8 z9 z10 z11 z12 z13 z14 z15 zgw107 z17 z18 z19 b13 v7w107 0  hW i1 b2 b3 i6 i7 i8 i9 b10 i11 i12 i13 i14 i15 (by omega) i17 i19 hb_15 (by omega) hV.2.2.2 (by rw [hV.2.1]; exact h11) (by rw [hV.2.1, hV.2.2.1]; exact hAT.2.2.2.1.1 h11) (by have hq9 := hs4 v7w107 (by omega); rw [hV.2.1, hV.2.2.1]; show fx M b13 0 ≤ (gpw90 v7w107).toInt; omega) (by have hq9 := hs4 v7w107 (by omega); rw [hV.2.2.1]; show (gpw90 v7w107).toInt + (gqw90 v7w107).toInt ≤ 1000; omega)) (cwV 3 hg (gV wd_875 wd_876 wd_877 wd_717 wd_878) rfl rfl rfl (by decide +kernel) ⟨(Nat.le_trans (Nat.le_of_ble_eq_true rfl) hRf), (Nat.le_trans (Nat.le_of_ble_eq_true rfl) hRl)⟩) ⟨PG.blind, va_recv hK hP (ci := 13) (q0 := 0) rfl rfl, fun U hU hW => ⟨rfl, PG.at hPc hK hDc hN hU hW⟩⟩ rfl rfl hl.1 rfl (lv_room (Nat.le_of_ble_eq_true rfl)) dX13_close_266 ⟨(Nat.le_trans (Nat.le_of_ble_eq_true rfl) hRc), (Nat.le_trans (Nat.le_of_ble_eq_true rfl) hRs)⟩) hS (fun q _ h => hFc q h) hFc (fun M_242 t H_240 locs ht hvm hw hB hz1 hk1 hS => ?_)
                                    have hWb := hW
                                    obtain ⟨hW, hF2, hG2, hp_243⟩ := hw
                                    obtain ⟨w16_244, hg_245, hP1, hD1⟩ := hB
                                    rw [ht] at hP1
                                    have hP : va_P D vwCl ([(za, .inr (13, [.int 0, .ref z1, .int (nI z2), .int (nI z3), .int z4, .int z5, .ref z6, .ref z7, .ref z8, .ref z9, .int (nI z10), .ref z11, .ref z12, .ref z13, .ref z14, .ref z15, .int (nI w16_244), .ref z17, .int z18, .ref z19]))] ++ va_pl L M_242) H_240 := hP1
                                    have hD : va_D A ([(za, .inr (13, [.int 0, .ref z1, .int (nI z2), .int (nI z3), .int z4, .int z5, .ref z6, .ref z7, .ref z8, .ref z9, .int (nI z10), .ref z11, .ref z12, .ref z13, .ref z14, .ref z15, .int (nI w16_244), .ref z17, .int z18, .ref z19]))] ++ va_pl L M_242) := hD1.mono hFc
                                    have hF : fr K L [12, 14, 15, 32, 42, 45, 46, 79, 80, 81, 83] M M_242 := hF.tr hF2 (by decide)
                                    have hG : fG K L [1, 7, 8, 13, 14, 15, 16, 17, 18] M M_242 := hG.tr hWb hG2 (by decide)
                                    have hV : VW K L M M_242 b13 (va_up (fx M b13) 17 ((gnw90 : Nat) : Int)) (va_up (va_up (ax M b13) 44 gpw90) 45 gqw90) := hV.cal hWb hW hF2 hG2 (by decide) (by decide) hb_15
                                    refine lv_iinc (v := (nI (v7w107 + 1))) (lv' := [(7, .int (nI (v7w107 + 1))), (6, .int (nI v98)), (5, .int (-1)), (4, .int (nI c_33)), (3, .int 0), (2, .ref b13), (0, .ref za), (1, .int k1)]) hx hb dX13_close_269 hl (k := 0) rfl (nI_1 v7w107) (by decide) rfl (fun ls hl => ?_)
                                    refine lv_goto (tgt := 254) hx hb dX13_close_272 (by decide) ?_
                                    exact ih_105 (v7w107 + 1) w16_244 M_242 H_240 _ _ (by omega) (by omega) (by omega) hW hF hG hV hP hD hS (lv_sub hl [0, 1, 2, 3, 4, 5, 6, 7] rfl)
                              exact key_104 (1001 - 0 + 1) 0 z16 M_101 H_99 _ _ (by omega) (by omega) (by omega) hW hF hG hV hP hD hS (lv_sub hl [0, 1, 2, 3, 4, 5, 6, 7] rfl)
                            · have hz := rfl (a := 0)
                              have n_246 : ¬ (c_33 < v6w90) := fun q => c_95 ((iLT (a := c_33) (b := v6w90) (by omega) (by omega)).mpr q)
                              obtain ⟨fs247, hM247, hn247, hl247⟩ := hW.open_12 hb_15
                              obtain ⟨v248, hv248, hc248⟩ : ∃ v : Nat, fs247[17]? = some (.int (nI v) : Value) ∧ v ≤ 120 := hl247 17 (by decide)
                              have hx17 : ((gnw90 : Nat) : Int) = ((v248 : Nat) : Int) := (congrFun hV.2.1 17).symm.trans ((fx_of hM247 rfl hv248).trans (nI_toInt (by omega)))
                              obtain ⟨v249, hv249, hc249⟩ : ∃ v : Nat, fs247[44]? = some (.ref v : Value) ∧ isk K L v 45 120 := hl247 44 (by decide)
                              obtain ⟨f250, hM250, hf250⟩ := hW.open_45 hc249
                              have hy44 : gpw90 = f250 := (congrFun hV.2.2.1 44).symm.trans (ax_of hM247 (by decide) hv249 hM250)
                              obtain ⟨v251, hv251, hc251⟩ : ∃ v : Nat, fs247[45]? = some (.ref v : Value) ∧ isk K L v 46 120 := hl247 45 (by decide)
                              obtain ⟨f252, hM252, hf252⟩ := hW.open_46 hc251
                              have hy45 : gqw90 = f252 := (congrFun hV.2.2.1 45).symm.trans (ax_of hM247 (by decide) hv251 hM252)
                              have hSD := hx_92
                              obtain ⟨hs1, hs2, hs3, hs4⟩ := hx_92
                              have hgn : v248 = gnw90 := by omega
                              refine lv_iload hx hb dX13_close_171 (lv_at hl 0 rfl) ?_
                              refine lv_iload_n hx hb dX13_close_173 rfl (lv_at hl 3 rfl) ?_
                              refine lv_icmp_eq (tgt := 186) hx hb dX13_close_174 (by decide) (fun c_253 => ?_) (fun c_253 => ?_)
                              · have hz := rfl (a := 0)
                                have n_254 : v6w90 = 0 := (iEQ (a := v6w90) (b := 0) (by omega) (by omega)).mp c_253
                                refine lv_aload_n hx hb dX13_close_186 rfl (lv_at hl 4 rfl) ?_
                                refine pg_getN (D := D) (ci := 12) (v := .ref v249) (C := RX12) (T := TX12) (N := 51) hx hb hg inG12 hown hK hP hb_15.1 hM247 rfl 44 (by decide) (hN.use (Cond.fieldLinkNest RX13 265 RX12 "stretchDay" "[I" RX13) 53 rfl rfl) (fun _ h9 => h9) hv249 dX13_close_187 ?_
                                refine lv_aload_n hx hb dX13_close_190 rfl (lv_at hl 4 rfl) ?_
                                refine pg_getN (D := D) (ci := 12) (v := .int (nI v248)) (C := RX12) (T := TX12) (N := 51) hx hb hg inG12 hown hK hP hb_15.1 hM247 rfl 17 (by decide) (hN.use (Cond.fieldLinkNest RX13 256 RX12 "stretches" "I" RX13) 26 rfl rfl) (fun _ h9 => h9) hv248 dX13_close_191 ?_
                                refine lv_iload hx hb dX13_close_194 (lv_at hl 0 rfl) ?_
                                refine pg_iast hx hb hK hP hD hS hc249.1 0 hM250 rfl (inbN v248 120 (by omega) (by omega)) dX13_close_196 (fun H_255 locs hP hD hS => ?_)
                                obtain ⟨M_256, eM_256⟩ : ∃ M1 : Hp, M1 = va_up M_93 v249 (.inl (cy 14, 120, .inl (upd f250 ((nI v248) : Int32).toNatClampNeg (nI v6w90)))) := ⟨_, rfl⟩
                                have hy44 : gpw90 = f250 := (congrFun hV.2.2.1 44).symm.trans (ax_of hM247 (by decide) hv249 hM250)
                                have hV : VW K L M M_256 b13 (va_up (fx M b13) 17 ((gnw90 : Nat) : Int)) (va_up (va_up (va_up (ax M b13) 44 gpw90) 45 gqw90) 44 (upd gpw90 ((nI v248) : Int32).toNatClampNeg (nI v6w90))) := by rw [eM_256]; exact hV.ast (j := 44) hW hb_15 hM247 (by decide) hv249 hc249 hM250
                                have hP : va_P D vwCl ([(za, .inr (13, [.int 0, .ref z1, .int (nI z2), .int (nI z3), .int z4, .int z5, .ref z6, .ref z7, .ref z8, .ref z9, .int (nI z10), .ref z11, .ref z12, .ref z13, .ref z14, .ref z15, .int (nI z16), .ref z17, .int z18, .ref z19]))] ++ va_pl L M_256) H_255 := by rw [eM_256]; exact hP
                                have hD : va_D A ([(za, .inr (13, [.int 0, .ref z1, .int (nI z2), .int (nI z3), .int z4, .int z5, .ref z6, .ref z7, .ref z8, .ref z9, .int (nI z10), .ref z11, .ref z12, .ref z13, .ref z14, .ref z15, .int (nI z16), .ref z17, .int z18, .ref z19]))] ++ va_pl L M_256) := by rw [eM_256]; exact hD
                                have hW : WOM cy K L M_256 := by rw [eM_256]; exact hW.up_45 hc249 ⟨_, rfl, (updP (P := fun z => ∃ c : Nat, c < 1000 ∧ z = nI c) hf250 ⟨v6w90, by omega, rfl⟩)⟩
                                have hF : fr K L [12, 14, 15, 32, 42, 45, 46, 79, 80, 81, 83] M M_256 := by rw [eM_256]; exact hF.up hc249 (by decide)
                                have hG : fG K L [1, 7, 8, 13, 14, 15, 16, 17, 18] M M_256 := by rw [eM_256]; exact hG.arr hc249 (by decide)
                                have hM_257 : M_256 v249 = .inl (cy 14, 120, .inl (upd f250 ((nI v248) : Int32).toNatClampNeg (nI v6w90))) := by rw [eM_256]; exact va_up_self _ _ _
                                have hM_258 : M_256 b13 = .inr (12, fs247) := by rw [eM_256, va_up_ne _ _ (hb_15.neT hc249 (by decide))]; exact hM247
                                have hM_259 : M_256 v251 = .inl (cy 14, 120, .inl (f252)) := by rw [eM_256, va_up_ne _ _ (hc251.neT hc249 (by decide))]; exact hM252
                                have hf_261 : ∀ j, j < 120 → ∃ c : Nat, c < 1000 ∧ (upd f250 ((nI v248) : Int32).toNatClampNeg (nI v6w90)) j = nI c := (updP (P := fun z => ∃ c : Nat, c < 1000 ∧ z = nI c) hf250 ⟨v6w90, by omega, rfl⟩)
                                obtain ⟨f_260, ef_260⟩ : ∃ f : Nat → Int32, f = upd f250 ((nI v248) : Int32).toNatClampNeg (nI v6w90) := ⟨_, rfl⟩
                                rw [← ef_260] at hM_257 hf_261
                                refine lv_aload_n hx hb dX13_close_197 rfl (lv_at hl 4 rfl) ?_
                                refine pg_getN (D := D) (ci := 12) (v := .ref v251) (C := RX12) (T := TX12) (N := 51) hx hb hg inG12 hown hK hP hb_15.1 hM_258 rfl 45 (by decide) (hN.use (Cond.fieldLinkNest RX13 268 RX12 "stretchDays" "[I" RX13) 54 rfl rfl) (fun _ h9 => h9) hv251 dX13_close_198 ?_
                                refine lv_aload_n hx hb dX13_close_201 rfl (lv_at hl 4 rfl) ?_
                                refine pg_getN (D := D) (ci := 12) (v := .int (nI v248)) (C := RX12) (T := TX12) (N := 51) hx hb hg inG12 hown hK hP hb_15.1 hM_258 rfl 17 (by decide) (hN.use (Cond.fieldLinkNest RX13 256 RX12 "stretches" "I" RX13) 26 rfl rfl) (fun _ h9 => h9) hv248 dX13_close_202 ?_
                                refine lv_iconst (v := 0) hx hb dX13_close_205 (by decide) ?_
                                refine pg_iast hx hb hK hP hD hS hc251.1 0 hM_259 rfl (inbN v248 120 (by omega) (by omega)) dX13_close_206 (fun H_262 locs hP hD hS => ?_)
                                obtain ⟨M_263, eM_263⟩ : ∃ M1 : Hp, M1 = va_up M_256 v251 (.inl (cy 14, 120, .inl (upd f252 ((nI v248) : Int32).toNatClampNeg 0))) := ⟨_, rfl⟩
                                have hy45 : gqw90 = f252 := (congrFun hV.2.2.1 45).symm.trans (ax_of hM_258 (by decide) hv251 hM_259)
                                have hV : VW K L M M_263 b13 (va_up (fx M b13) 17 ((gnw90 : Nat) : Int)) (va_up (va_up (va_up (va_up (ax M b13) 44 gpw90) 45 gqw90) 44 (upd gpw90 ((nI v248) : Int32).toNatClampNeg (nI v6w90))) 45 (upd gqw90 ((nI v248) : Int32).toNatClampNeg 0)) := by rw [eM_263]; exact hV.ast (j := 45) hW hb_15 hM_258 (by decide) hv251 hc251 hM_259
                                have hP : va_P D vwCl ([(za, .inr (13, [.int 0, .ref z1, .int (nI z2), .int (nI z3), .int z4, .int z5, .ref z6, .ref z7, .ref z8, .ref z9, .int (nI z10), .ref z11, .ref z12, .ref z13, .ref z14, .ref z15, .int (nI z16), .ref z17, .int z18, .ref z19]))] ++ va_pl L M_263) H_262 := by rw [eM_263]; exact hP
                                have hD : va_D A ([(za, .inr (13, [.int 0, .ref z1, .int (nI z2), .int (nI z3), .int z4, .int z5, .ref z6, .ref z7, .ref z8, .ref z9, .int (nI z10), .ref z11, .ref z12, .ref z13, .ref z14, .ref z15, .int (nI z16), .ref z17, .int z18, .ref z19]))] ++ va_pl L M_263) := by rw [eM_263]; exact hD
                                have hW : WOM cy K L M_263 := by rw [eM_263]; exact hW.up_46 hc251 ⟨_, rfl, (updP (P := fun z => ∃ c : Nat, c < 1001 ∧ z = nI c) hf252 ⟨0, by omega, rfl⟩)⟩
                                have hF : fr K L [12, 14, 15, 32, 42, 45, 46, 79, 80, 81, 83] M M_263 := by rw [eM_263]; exact hF.up hc251 (by decide)
                                have hG : fG K L [1, 7, 8, 13, 14, 15, 16, 17, 18] M M_263 := by rw [eM_263]; exact hG.arr hc251 (by decide)
                                have hM_264 : M_263 v251 = .inl (cy 14, 120, .inl (upd f252 ((nI v248) : Int32).toNatClampNeg 0)) := by rw [eM_263]; exact va_up_self _ _ _
                                have hM_265 : M_263 v249 = .inl (cy 14, 120, .inl (f_260)) := by rw [eM_263, va_up_ne _ _ (hc249.neT hc251 (by decide))]; exact hM_257
                                have hM_266 : M_263 b13 = .inr (12, fs247) := by rw [eM_263, va_up_ne _ _ (hb_15.neT hc251 (by decide))]; exact hM_258
                                have hf_268 : ∀ j, j < 120 → ∃ c : Nat, c < 1001 ∧ (upd f252 ((nI v248) : Int32).toNatClampNeg 0) j = nI c := (updP (P := fun z => ∃ c : Nat, c < 1001 ∧ z = nI c) hf252 ⟨0, by omega, rfl⟩)
                                obtain ⟨f_267, ef_267⟩ : ∃ f : Nat → Int32, f = upd f252 ((nI v248) : Int32).toNatClampNeg 0 := ⟨_, rfl⟩
                                rw [← ef_267] at hM_264 hf_268
                                refine lv_aload_n hx hb dX13_close_207 rfl (lv_at hl 4 rfl) ?_
                                refine lv_dup hx hb dX13_close_208 rfl ?_
                                refine pg_getN (D := D) (ci := 12) (v := .int (nI v248)) (C := RX12) (T := TX12) (N := 51) hx hb hg inG12 hown hK hP hb_15.1 hM_266 rfl 17 (by decide) (hN.use (Cond.fieldLinkNest RX13 256 RX12 "stretches" "I" RX13) 26 rfl rfl) (fun _ h9 => h9) hv248 dX13_close_209 ?_
                                refine lv_iconst (v := 1) hx hb dX13_close_212 (by decide) ?_
                                refine lv_iadd hx hb dX13_close_213 ?_
                                refine lv_topi (fun f_269 ef_269 => ?_)
                                obtain rfl : f_269 = (nI (v248 + 1)) := ef_269.trans (nI_add v248 1)
                                refine pg_putN (D := D) (ci := 12) (v := .int (nI (v248 + 1))) (ty := .int) (C := RX12) (T := TX12) (N := 51) hx hb hg inG12 tyX12 tyX12_ok nmX12 hown hK hP hD hS hb_15.1 hM_266 rfl 17 (by decide) (hN.use (Cond.fieldLinkNest RX13 256 RX12 "stretches" "I" RX13) 26 rfl rfl) (fun _ h9 => h9) rfl (by decide +kernel) rfl rfl (by rw [hn247]; decide) dX13_close_214 (fun H_270 locs hP hD hS => ?_)
                                have hs_273 : (fs247.set 17 (.int (nI (v248 + 1))))[17]? = some (.int (nI (v248 + 1))) := List.getElem?_set_self (by rw [hn247]; decide)
                                have hk_272 := fld12_set (k := 17) (w := .int (nI (v248 + 1))) hl247 (show fld12 K L 17 (fs247.set 17 (.int (nI (v248 + 1)))) from ⟨(v248 + 1), hs_273, by omega⟩)
                                have hn_274 : (fs247.set 17 (.int (nI (v248 + 1)))).length = 51 := by rw [List.length_set]; exact hn247
                                have hv_275 : (fs247.set 17 (.int (nI (v248 + 1))))[44]? = some (.ref v249) := by rw [List.getElem?_set_ne (by decide)]; exact hv249
                                have hv_276 : (fs247.set 17 (.int (nI (v248 + 1))))[45]? = some (.ref v251) := by rw [List.getElem?_set_ne (by decide)]; exact hv251
                                have hb_277 : (v248 + 1) ≤ 120 := by omega
                                obtain ⟨M_278, eM_278⟩ : ∃ M1 : Hp, M1 = va_up M_263 b13 (.inr (12, fs247.set 17 (.int (nI (v248 + 1))))) := ⟨_, rfl⟩
                                have hx17 : ((gnw90 : Nat) : Int) = ((v248 : Nat) : Int) := (congrFun hV.2.1 17).symm.trans ((fx_of hM_266 rfl hv248).trans (nI_toInt (by omega)))
                                have hV : VW K L M M_278 b13 (va_up (va_up (fx M b13) 17 ((gnw90 : Nat) : Int)) 17 (((v248 + 1) : Nat) : Int)) (va_up (va_up (va_up (va_up (ax M b13) 44 gpw90) 45 gqw90) 44 (upd gpw90 ((nI v248) : Int32).toNatClampNeg (nI v6w90))) 45 (upd gqw90 ((nI v248) : Int32).toNatClampNeg 0)) := by rw [eM_278]; exact hV.put hW hb_15 hM_266 hn247 rfl (by decide) rfl (nI_toInt (by omega))
                                have hP : va_P D vwCl ([(za, .inr (13, [.int 0, .ref z1, .int (nI z2), .int (nI z3), .int z4, .int z5, .ref z6, .ref z7, .ref z8, .ref z9, .int (nI z10), .ref z11, .ref z12, .ref z13, .ref z14, .ref z15, .int (nI z16), .ref z17, .int z18, .ref z19]))] ++ va_pl L M_278) H_270 := by rw [eM_278]; exact hP
                                have hD : va_D A ([(za, .inr (13, [.int 0, .ref z1, .int (nI z2), .int (nI z3), .int z4, .int z5, .ref z6, .ref z7, .ref z8, .ref z9, .int (nI z10), .ref z11, .ref z12, .ref z13, .ref z14, .ref z15, .int (nI z16), .ref z17, .int z18, .ref z19]))] ++ va_pl L M_278) := by rw [eM_278]; exact hD
                                have hW : WOM cy K L M_278 := by rw [eM_278]; exact hW.up_12 hb_15 ⟨_, rfl, hn_274, hk_272⟩
                                have hF : fr K L [12, 14, 15, 32, 42, 45, 46, 79, 80, 81, 83] M M_278 := by rw [eM_278]; exact hF.up hb_15 (by decide)
                                have hG : fG K L [1, 7, 8, 13, 14, 15, 16, 17, 18] M M_278 := by rw [eM_278]; exact hG.up hM_266 (by decide)
                                have hM_279 : M_278 b13 = .inr (12, fs247.set 17 (.int (nI (v248 + 1)))) := by rw [eM_278]; exact va_up_self _ _ _
                                have hM_280 : M_278 v251 = .inl (cy 14, 120, .inl (f_267)) := by rw [eM_278, va_up_ne _ _ (hc251.neT hb_15 (by decide))]; exact hM_264
                                have hM_281 : M_278 v249 = .inl (cy 14, 120, .inl (f_260)) := by rw [eM_278, va_up_ne _ _ (hc249.neT hb_15 (by decide))]; exact hM_265
                                refine lv_aload_n hx hb dX13_close_217 rfl (lv_at hl 4 rfl) ?_
                                refine pg_getN (D := D) (ci := 12) (v := .ref v251) (C := RX12) (T := TX12) (N := 51) hx hb hg inG12 hown hK hP hb_15.1 hM_279 rfl 45 (by decide) (hN.use (Cond.fieldLinkNest RX13 268 RX12 "stretchDays" "[I" RX13) 54 rfl rfl) (fun _ h9 => h9) hv_276 dX13_close_218 ?_
                                refine lv_aload_n hx hb dX13_close_221 rfl (lv_at hl 4 rfl) ?_
                                refine pg_getN (D := D) (ci := 12) (v := .int (nI (v248 + 1))) (C := RX12) (T := TX12) (N := 51) hx hb hg inG12 hown hK hP hb_15.1 hM_279 rfl 17 (by decide) (hN.use (Cond.fieldLinkNest RX13 256 RX12 "stretches" "I" RX13) 26 rfl rfl) (fun _ h9 => h9) hs_273 dX13_close_222 ?_
                                refine lv_iconst (v := 1) hx hb dX13_close_225 (by decide) ?_
                                refine lv_isub hx hb dX13_close_226 ?_
                                refine lv_topi (fun f_282 ef_282 => ?_)
                                obtain rfl : f_282 = (nI ((v248 + 1) - 1)) := ef_282.trans (nI_prd (by omega))
                                refine lv_dup2_11 hx hb dX13_close_227 rfl rfl ?_
                                have hi_283 : vp_in (nI ((v248 + 1) - 1)) 120 := (inbN ((v248 + 1) - 1) 120 (by omega) (by omega))
                                refine pg_iald hx hb hK hP hc251.1 0 hM_280 rfl hi_283 dX13_close_228 ?_
                                have hp_284 := hf_268 _ (vp_lt hi_283)
                                obtain ⟨c_285, hc_286, ec_287⟩ := hp_284
                                rw [ec_287]
                                have hy45 : (upd gqw90 ((nI v248) : Int32).toNatClampNeg 0) = f_267 := (congrFun hV.2.2.1 45).symm.trans (ax_of hM_279 (by decide) hv_276 hM_280)
                                have hec : (upd gqw90 ((nI v248) : Int32).toNatClampNeg 0) ((nI ((v248 + 1) - 1)) : Int32).toNatClampNeg = nI c_285 := by rw [hy45]; exact ec_287
                                have hcc : c_285 = 0 := updz (n := v248) (nI_cl (by omega)) ((nI_cl (by omega)).trans (by omega)) hec (by omega)
                                refine lv_iconst (v := 1) hx hb dX13_close_229 (by decide) ?_
                                refine lv_iadd hx hb dX13_close_230 ?_
                                refine lv_topi (fun f_288 ef_288 => ?_)
                                obtain rfl : f_288 = (nI (c_285 + 1)) := ef_288.trans (nI_add c_285 1)
                                refine pg_iast hx hb hK hP hD hS hc251.1 0 hM_280 rfl (inbN ((v248 + 1) - 1) 120 (by omega) (by omega)) dX13_close_231 (fun H_289 locs hP hD hS => ?_)
                                obtain ⟨M_290, eM_290⟩ : ∃ M1 : Hp, M1 = va_up M_278 v251 (.inl (cy 14, 120, .inl (upd f_267 ((nI ((v248 + 1) - 1)) : Int32).toNatClampNeg (nI (c_285 + 1))))) := ⟨_, rfl⟩
                                have hy45 : (upd gqw90 ((nI v248) : Int32).toNatClampNeg 0) = f_267 := (congrFun hV.2.2.1 45).symm.trans (ax_of hM_279 (by decide) hv_276 hM_280)
                                have hV : VW K L M M_290 b13 (va_up (va_up (fx M b13) 17 ((gnw90 : Nat) : Int)) 17 (((v248 + 1) : Nat) : Int)) (va_up (va_up (va_up (va_up (va_up (ax M b13) 44 gpw90) 45 gqw90) 44 (upd gpw90 ((nI v248) : Int32).toNatClampNeg (nI v6w90))) 45 (upd gqw90 ((nI v248) : Int32).toNatClampNeg 0)) 45 (upd (upd gqw90 ((nI v248) : Int32).toNatClampNeg 0) ((nI ((v248 + 1) - 1)) : Int32).toNatClampNeg (nI (c_285 + 1)))) := by rw [eM_290]; exact hV.ast (j := 45) hW hb_15 hM_279 (by decide) hv_276 hc251 hM_280
                                have hP : va_P D vwCl ([(za, .inr (13, [.int 0, .ref z1, .int (nI z2), .int (nI z3), .int z4, .int z5, .ref z6, .ref z7, .ref z8, .ref z9, .int (nI z10), .ref z11, .ref z12, .ref z13, .ref z14, .ref z15, .int (nI z16), .ref z17, .int z18, .ref z19]))] ++ va_pl L M_290) H_289 := by rw [eM_290]; exact hP
                                have hD : va_D A ([(za, .inr (13, [.int 0, .ref z1, .int (nI z2), .int (nI z3), .int z4, .int z5, .ref z6, .ref z7, .ref z8, .ref z9, .int (nI z10), .ref z11, .ref z12, .ref z13, .ref z14, .ref z15, .int (nI z16), .ref z17, .int z18, .ref z19]))] ++ va_pl L M_290) := by rw [eM_290]; exact hD
                                have hW : WOM cy K L M_290 := by rw [eM_290]; exact hW.up_46 hc251 ⟨_, rfl, (updP (P := fun z => ∃ c : Nat, c < 1001 ∧ z = nI c) hf_268 ⟨(c_285 + 1), by omega, rfl⟩)⟩
                                have hF : fr K L [12, 14, 15, 32, 42, 45, 46, 79, 80, 81, 83] M M_290 := by rw [eM_290]; exact hF.up hc251 (by decide)
                                have hG : fG K L [1, 7, 8, 13, 14, 15, 16, 17, 18] M M_290 := by rw [eM_290]; exact hG.arr hc251 (by decide)
                                have hM_291 : M_290 v251 = .inl (cy 14, 120, .inl (upd f_267 ((nI ((v248 + 1) - 1)) : Int32).toNatClampNeg (nI (c_285 + 1)))) := by rw [eM_290]; exact va_up_self _ _ _
                                have hM_292 : M_290 b13 = .inr (12, fs247.set 17 (.int (nI (v248 + 1)))) := by rw [eM_290, va_up_ne _ _ (hb_15.neT hc251 (by decide))]; exact hM_279
                                have hM_293 : M_290 v249 = .inl (cy 14, 120, .inl (f_260)) := by rw [eM_290, va_up_ne _ _ (hc249.neT hc251 (by decide))]; exact hM_281
                                have hf_295 : ∀ j, j < 120 → ∃ c : Nat, c < 1001 ∧ (upd f_267 ((nI ((v248 + 1) - 1)) : Int32).toNatClampNeg (nI (c_285 + 1))) j = nI c := (updP (P := fun z => ∃ c : Nat, c < 1001 ∧ z = nI c) hf_268 ⟨(c_285 + 1), by omega, rfl⟩)
                                obtain ⟨f_294, ef_294⟩ : ∃ f : Nat → Int32, f = upd f_267 ((nI ((v248 + 1) - 1)) : Int32).toNatClampNeg (nI (c_285 + 1)) := ⟨_, rfl⟩
                                rw [← ef_294] at hM_291 hf_295
                                refine lv_iinc (v := (nI (v6w90 + 1))) (lv' := [(6, .int (nI (v6w90 + 1))), (5, .int (-1)), (4, .int (nI c_33)), (3, .int 0), (2, .ref b13), (0, .ref za), (1, .int k1)]) hx hb dX13_close_232 hl (k := 0) rfl (nI_1 v6w90) (by decide) rfl (fun ls hl => ?_)
                                refine lv_goto (tgt := 164) hx hb dX13_close_235 (by decide) ?_
                                exact ih_88 (v6w90 + 1) (v248 + 1) (upd gpw90 ((nI v248) : Int32).toNatClampNeg (nI v6w90)) (upd (upd gqw90 ((nI v248) : Int32).toNatClampNeg 0) ((nI ((v248 + 1) - 1)) : Int32).toNatClampNeg (nI (c_285 + 1))) M_290 H_289 _ _ (by omega) (by omega) (by have h := SD.new hSD (by omega) (show (nI v248).toNatClampNeg = gnw90 from (nI_cl (by omega)).trans (by omega)) (show (nI ((v248 + 1) - 1)).toNatClampNeg = gnw90 from (nI_cl (by omega)).trans (by omega)) hcc; rw [← hgn] at h; exact h) hW hF hG (by have h := hV; simp only [va_up_up] at h; rw [va_up_4] at h; exact h) hP hD hS (lv_sub hl [0, 1, 2, 3, 4, 5, 6] rfl)
                              · have hz := rfl (a := 0)
                                have n_296 : ¬ (v6w90 = 0) := fun q => c_253 ((iEQ (a := v6w90) (b := 0) (by omega) (by omega)).mpr q)
                                refine lv_aload_n hx hb dX13_close_177 rfl (lv_at hl 4 rfl) ?_
                                refine lv_iload hx hb dX13_close_178 (lv_at hl 0 rfl) ?_
                                have hPc : va_P D vwCl ([] ++ va_pl L M_93) H_94 := hP.part (cx := []) [] rfl
                                have hDc : va_D A ([] ++ va_pl L M_93) := hD.part (cx := []) [] (by decide) rfl
                                have hFc : ∀ q, va_A ([] ++ va_pl L M_93) H_94.size q → A q := pg_free hDc hS hA
                                refine va_calli (va_runS (As := [.ref b13, .int (nI v6w90)]) (rest := []) ⟨hx, hb, hml, hown, hg⟩ (r_X13_isParted l D cy K L M_93 H_94.size b13 (nI v6w90)  hW hb_15) (va_cwS 2 hg (gS wd_879 wd_880 wd_717 wd_881) rfl rfl rfl (by decide +kernel) ⟨(Nat.le_trans (Nat.le_of_ble_eq_true rfl) hRf), (Nat.le_trans (Nat.le_of_ble_eq_true rfl) hRl)⟩) ⟨PG.blind, fun U hU hW => ⟨rfl, PG.at hPc hK hDc hN hU hW⟩⟩ rfl rfl hl.1 rfl (lv_room (Nat.le_of_ble_eq_true rfl)) dX13_close_180 ⟨(Nat.le_trans (Nat.le_of_ble_eq_true rfl) hRc), (Nat.le_trans (Nat.le_of_ble_eq_true rfl) hRs)⟩) hS (fun q _ h => hFc q h) hFc (fun r_298 M_299 t H_297 locs ht hvm hw hB hz1 hk1 hS => ?_)
                                have hp_300 := hw
                                obtain ⟨hP1, hD1⟩ := hB
                                rw [ht] at hP1
                                obtain ⟨hP, hD⟩ := va_joinP (X := [(za, .inr (13, [.int 0, .ref z1, .int (nI z2), .int (nI z3), .int z4, .int z5, .ref z6, .ref z7, .ref z8, .ref z9, .int (nI z10), .ref z11, .ref z12, .ref z13, .ref z14, .ref z15, .int (nI z16), .ref z17, .int z18, .ref z19]))]) (cx := []) (wr := [(za, .inr (13, [.int 0, .ref z1, .int (nI z2), .int (nI z3), .int z4, .int z5, .ref z6, .ref z7, .ref z8, .ref z9, .int (nI z10), .ref z11, .ref z12, .ref z13, .ref z14, .ref z15, .int (nI z16), .ref z17, .int z18, .ref z19]))]) (rx := []) (pl := va_pl L M_93) (pl1 := va_pl L M_93) hP hD [] [0] rfl rfl (by decide) (by decide) hk1 hFc hP1 hD1
                                have hP : va_P D vwCl ([(za, .inr (13, [.int 0, .ref z1, .int (nI z2), .int (nI z3), .int z4, .int z5, .ref z6, .ref z7, .ref z8, .ref z9, .int (nI z10), .ref z11, .ref z12, .ref z13, .ref z14, .ref z15, .int (nI z16), .ref z17, .int z18, .ref z19]))] ++ va_pl L M_93) H_297 := hP
                                have hD : va_D A ([(za, .inr (13, [.int 0, .ref z1, .int (nI z2), .int (nI z3), .int z4, .int z5, .ref z6, .ref z7, .ref z8, .ref z9, .int (nI z10), .ref z11, .ref z12, .ref z13, .ref z14, .ref z15, .int (nI z16), .ref z17, .int z18, .ref z19]))] ++ va_pl L M_93) := hD
                                rcases hp_300 with rfl | rfl
                                · have hz := rfl (a := 0)
                                  refine lv_if_eq (tgt := 217) hx hb dX13_close_183 (by decide) (fun c_301 => absurd c_301 (by decide)) (fun _ => ?_)
                                  refine lv_aload_n hx hb dX13_close_186 rfl (lv_at hl 4 rfl) ?_
                                  refine pg_getN (D := D) (ci := 12) (v := .ref v249) (C := RX12) (T := TX12) (N := 51) hx hb hg inG12 hown hK hP hb_15.1 hM247 rfl 44 (by decide) (hN.use (Cond.fieldLinkNest RX13 265 RX12 "stretchDay" "[I" RX13) 53 rfl rfl) (fun _ h9 => h9) hv249 dX13_close_187 ?_
                                  refine lv_aload_n hx hb dX13_close_190 rfl (lv_at hl 4 rfl) ?_
                                  refine pg_getN (D := D) (ci := 12) (v := .int (nI v248)) (C := RX12) (T := TX12) (N := 51) hx hb hg inG12 hown hK hP hb_15.1 hM247 rfl 17 (by decide) (hN.use (Cond.fieldLinkNest RX13 256 RX12 "stretches" "I" RX13) 26 rfl rfl) (fun _ h9 => h9) hv248 dX13_close_191 ?_
                                  refine lv_iload hx hb dX13_close_194 (lv_at hl 0 rfl) ?_
                                  refine pg_iast hx hb hK hP hD hS hc249.1 0 hM250 rfl (inbN v248 120 (by omega) (by omega)) dX13_close_196 (fun H_302 locs hP hD hS => ?_)
                                  obtain ⟨M_303, eM_303⟩ : ∃ M1 : Hp, M1 = va_up M_93 v249 (.inl (cy 14, 120, .inl (upd f250 ((nI v248) : Int32).toNatClampNeg (nI v6w90)))) := ⟨_, rfl⟩
                                  have hy44 : gpw90 = f250 := (congrFun hV.2.2.1 44).symm.trans (ax_of hM247 (by decide) hv249 hM250)
                                  have hV : VW K L M M_303 b13 (va_up (fx M b13) 17 ((gnw90 : Nat) : Int)) (va_up (va_up (va_up (ax M b13) 44 gpw90) 45 gqw90) 44 (upd gpw90 ((nI v248) : Int32).toNatClampNeg (nI v6w90))) := by rw [eM_303]; exact hV.ast (j := 44) hW hb_15 hM247 (by decide) hv249 hc249 hM250
                                  have hP : va_P D vwCl ([(za, .inr (13, [.int 0, .ref z1, .int (nI z2), .int (nI z3), .int z4, .int z5, .ref z6, .ref z7, .ref z8, .ref z9, .int (nI z10), .ref z11, .ref z12, .ref z13, .ref z14, .ref z15, .int (nI z16), .ref z17, .int z18, .ref z19]))] ++ va_pl L M_303) H_302 := by rw [eM_303]; exact hP
                                  have hD : va_D A ([(za, .inr (13, [.int 0, .ref z1, .int (nI z2), .int (nI z3), .int z4, .int z5, .ref z6, .ref z7, .ref z8, .ref z9, .int (nI z10), .ref z11, .ref z12, .ref z13, .ref z14, .ref z15, .int (nI z16), .ref z17, .int z18, .ref z19]))] ++ va_pl L M_303) := by rw [eM_303]; exact hD
                                  have hW : WOM cy K L M_303 := by rw [eM_303]; exact hW.up_45 hc249 ⟨_, rfl, (updP (P := fun z => ∃ c : Nat, c < 1000 ∧ z = nI c) hf250 ⟨v6w90, by omega, rfl⟩)⟩
                                  have hF : fr K L [12, 14, 15, 32, 42, 45, 46, 79, 80, 81, 83] M M_303 := by rw [eM_303]; exact hF.up hc249 (by decide)
                                  have hG : fG K L [1, 7, 8, 13, 14, 15, 16, 17, 18] M M_303 := by rw [eM_303]; exact hG.arr hc249 (by decide)
                                  have hM_304 : M_303 v249 = .inl (cy 14, 120, .inl (upd f250 ((nI v248) : Int32).toNatClampNeg (nI v6w90))) := by rw [eM_303]; exact va_up_self _ _ _
                                  have hM_305 : M_303 b13 = .inr (12, fs247) := by rw [eM_303, va_up_ne _ _ (hb_15.neT hc249 (by decide))]; exact hM247
                                  have hM_306 : M_303 v251 = .inl (cy 14, 120, .inl (f252)) := by rw [eM_303, va_up_ne _ _ (hc251.neT hc249 (by decide))]; exact hM252
                                  have hf_308 : ∀ j, j < 120 → ∃ c : Nat, c < 1000 ∧ (upd f250 ((nI v248) : Int32).toNatClampNeg (nI v6w90)) j = nI c := (updP (P := fun z => ∃ c : Nat, c < 1000 ∧ z = nI c) hf250 ⟨v6w90, by omega, rfl⟩)
                                  obtain ⟨f_307, ef_307⟩ : ∃ f : Nat → Int32, f = upd f250 ((nI v248) : Int32).toNatClampNeg (nI v6w90) := ⟨_, rfl⟩
                                  rw [← ef_307] at hM_304 hf_308
                                  refine lv_aload_n hx hb dX13_close_197 rfl (lv_at hl 4 rfl) ?_
                                  refine pg_getN (D := D) (ci := 12) (v := .ref v251) (C := RX12) (T := TX12) (N := 51) hx hb hg inG12 hown hK hP hb_15.1 hM_305 rfl 45 (by decide) (hN.use (Cond.fieldLinkNest RX13 268 RX12 "stretchDays" "[I" RX13) 54 rfl rfl) (fun _ h9 => h9) hv251 dX13_close_198 ?_
                                  refine lv_aload_n hx hb dX13_close_201 rfl (lv_at hl 4 rfl) ?_
                                  refine pg_getN (D := D) (ci := 12) (v := .int (nI v248)) (C := RX12) (T := TX12) (N := 51) hx hb hg inG12 hown hK hP hb_15.1 hM_305 rfl 17 (by decide) (hN.use (Cond.fieldLinkNest RX13 256 RX12 "stretches" "I" RX13) 26 rfl rfl) (fun _ h9 => h9) hv248 dX13_close_202 ?_
                                  refine lv_iconst (v := 0) hx hb dX13_close_205 (by decide) ?_
                                  refine pg_iast hx hb hK hP hD hS hc251.1 0 hM_306 rfl (inbN v248 120 (by omega) (by omega)) dX13_close_206 (fun H_309 locs hP hD hS => ?_)
                                  obtain ⟨M_310, eM_310⟩ : ∃ M1 : Hp, M1 = va_up M_303 v251 (.inl (cy 14, 120, .inl (upd f252 ((nI v248) : Int32).toNatClampNeg 0))) := ⟨_, rfl⟩
                                  have hy45 : gqw90 = f252 := (congrFun hV.2.2.1 45).symm.trans (ax_of hM_305 (by decide) hv251 hM_306)
                                  have hV : VW K L M M_310 b13 (va_up (fx M b13) 17 ((gnw90 : Nat) : Int)) (va_up (va_up (va_up (va_up (ax M b13) 44 gpw90) 45 gqw90) 44 (upd gpw90 ((nI v248) : Int32).toNatClampNeg (nI v6w90))) 45 (upd gqw90 ((nI v248) : Int32).toNatClampNeg 0)) := by rw [eM_310]; exact hV.ast (j := 45) hW hb_15 hM_305 (by decide) hv251 hc251 hM_306
                                  have hP : va_P D vwCl ([(za, .inr (13, [.int 0, .ref z1, .int (nI z2), .int (nI z3), .int z4, .int z5, .ref z6, .ref z7, .ref z8, .ref z9, .int (nI z10), .ref z11, .ref z12, .ref z13, .ref z14, .ref z15, .int (nI z16), .ref z17, .int z18, .ref z19]))] ++ va_pl L M_310) H_309 := by rw [eM_310]; exact hP
                                  have hD : va_D A ([(za, .inr (13, [.int 0, .ref z1, .int (nI z2), .int (nI z3), .int z4, .int z5, .ref z6, .ref z7, .ref z8, .ref z9, .int (nI z10), .ref z11, .ref z12, .ref z13, .ref z14, .ref z15, .int (nI z16), .ref z17, .int z18, .ref z19]))] ++ va_pl L M_310) := by rw [eM_310]; exact hD
                                  have hW : WOM cy K L M_310 := by rw [eM_310]; exact hW.up_46 hc251 ⟨_, rfl, (updP (P := fun z => ∃ c : Nat, c < 1001 ∧ z = nI c) hf252 ⟨0, by omega, rfl⟩)⟩
                                  have hF : fr K L [12, 14, 15, 32, 42, 45, 46, 79, 80, 81, 83] M M_310 := by rw [eM_310]; exact hF.up hc251 (by decide)
                                  have hG : fG K L [1, 7, 8, 13, 14, 15, 16, 17, 18] M M_310 := by rw [eM_310]; exact hG.arr hc251 (by decide)
                                  have hM_311 : M_310 v251 = .inl (cy 14, 120, .inl (upd f252 ((nI v248) : Int32).toNatClampNeg 0)) := by rw [eM_310]; exact va_up_self _ _ _
                                  have hM_312 : M_310 v249 = .inl (cy 14, 120, .inl (f_307)) := by rw [eM_310, va_up_ne _ _ (hc249.neT hc251 (by decide))]; exact hM_304
                                  have hM_313 : M_310 b13 = .inr (12, fs247) := by rw [eM_310, va_up_ne _ _ (hb_15.neT hc251 (by decide))]; exact hM_305
                                  have hf_315 : ∀ j, j < 120 → ∃ c : Nat, c < 1001 ∧ (upd f252 ((nI v248) : Int32).toNatClampNeg 0) j = nI c := (updP (P := fun z => ∃ c : Nat, c < 1001 ∧ z = nI c) hf252 ⟨0, by omega, rfl⟩)
                                  obtain ⟨f_314, ef_314⟩ : ∃ f : Nat → Int32, f = upd f252 ((nI v248) : Int32).toNatClampNeg 0 := ⟨_, rfl⟩
                                  rw [← ef_314] at hM_311 hf_315
                                  refine lv_aload_n hx hb dX13_close_207 rfl (lv_at hl 4 rfl) ?_
                                  refine lv_dup hx hb dX13_close_208 rfl ?_
                                  refine pg_getN (D := D) (ci := 12) (v := .int (nI v248)) (C := RX12) (T := TX12) (N := 51) hx hb hg inG12 hown hK hP hb_15.1 hM_313 rfl 17 (by decide) (hN.use (Cond.fieldLinkNest RX13 256 RX12 "stretches" "I" RX13) 26 rfl rfl) (fun _ h9 => h9) hv248 dX13_close_209 ?_
                                  refine lv_iconst (v := 1) hx hb dX13_close_212 (by decide) ?_
                                  refine lv_iadd hx hb dX13_close_213 ?_
                                  refine lv_topi (fun f_316 ef_316 => ?_)
                                  obtain rfl : f_316 = (nI (v248 + 1)) := ef_316.trans (nI_add v248 1)
                                  refine pg_putN (D := D) (ci := 12) (v := .int (nI (v248 + 1))) (ty := .int) (C := RX12) (T := TX12) (N := 51) hx hb hg inG12 tyX12 tyX12_ok nmX12 hown hK hP hD hS hb_15.1 hM_313 rfl 17 (by decide) (hN.use (Cond.fieldLinkNest RX13 256 RX12 "stretches" "I" RX13) 26 rfl rfl) (fun _ h9 => h9) rfl (by decide +kernel) rfl rfl (by rw [hn247]; decide) dX13_close_214 (fun H_317 locs hP hD hS => ?_)
                                  have hs_320 : (fs247.set 17 (.int (nI (v248 + 1))))[17]? = some (.int (nI (v248 + 1))) := List.getElem?_set_self (by rw [hn247]; decide)
                                  have hk_319 := fld12_set (k := 17) (w := .int (nI (v248 + 1))) hl247 (show fld12 K L 17 (fs247.set 17 (.int (nI (v248 + 1)))) from ⟨(v248 + 1), hs_320, by omega⟩)
                                  have hn_321 : (fs247.set 17 (.int (nI (v248 + 1)))).length = 51 := by rw [List.length_set]; exact hn247
                                  have hv_322 : (fs247.set 17 (.int (nI (v248 + 1))))[44]? = some (.ref v249) := by rw [List.getElem?_set_ne (by decide)]; exact hv249
                                  have hv_323 : (fs247.set 17 (.int (nI (v248 + 1))))[45]? = some (.ref v251) := by rw [List.getElem?_set_ne (by decide)]; exact hv251
                                  have hb_324 : (v248 + 1) ≤ 120 := by omega
                                  obtain ⟨M_325, eM_325⟩ : ∃ M1 : Hp, M1 = va_up M_310 b13 (.inr (12, fs247.set 17 (.int (nI (v248 + 1))))) := ⟨_, rfl⟩
                                  have hx17 : ((gnw90 : Nat) : Int) = ((v248 : Nat) : Int) := (congrFun hV.2.1 17).symm.trans ((fx_of hM_313 rfl hv248).trans (nI_toInt (by omega)))
                                  have hV : VW K L M M_325 b13 (va_up (va_up (fx M b13) 17 ((gnw90 : Nat) : Int)) 17 (((v248 + 1) : Nat) : Int)) (va_up (va_up (va_up (va_up (ax M b13) 44 gpw90) 45 gqw90) 44 (upd gpw90 ((nI v248) : Int32).toNatClampNeg (nI v6w90))) 45 (upd gqw90 ((nI v248) : Int32).toNatClampNeg 0)) := by rw [eM_325]; exact hV.put hW hb_15 hM_313 hn247 rfl (by decide) rfl (nI_toInt (by omega))
                                  have hP : va_P D vwCl ([(za, .inr (13, [.int 0, .ref z1, .int (nI z2), .int (nI z3), .int z4, .int z5, .ref z6, .ref z7, .ref z8, .ref z9, .int (nI z10), .ref z11, .ref z12, .ref z13, .ref z14, .ref z15, .int (nI z16), .ref z17, .int z18, .ref z19]))] ++ va_pl L M_325) H_317 := by rw [eM_325]; exact hP
                                  have hD : va_D A ([(za, .inr (13, [.int 0, .ref z1, .int (nI z2), .int (nI z3), .int z4, .int z5, .ref z6, .ref z7, .ref z8, .ref z9, .int (nI z10), .ref z11, .ref z12, .ref z13, .ref z14, .ref z15, .int (nI z16), .ref z17, .int z18, .ref z19]))] ++ va_pl L M_325) := by rw [eM_325]; exact hD
                                  have hW : WOM cy K L M_325 := by rw [eM_325]; exact hW.up_12 hb_15 ⟨_, rfl, hn_321, hk_319⟩
                                  have hF : fr K L [12, 14, 15, 32, 42, 45, 46, 79, 80, 81, 83] M M_325 := by rw [eM_325]; exact hF.up hb_15 (by decide)
                                  have hG : fG K L [1, 7, 8, 13, 14, 15, 16, 17, 18] M M_325 := by rw [eM_325]; exact hG.up hM_313 (by decide)
                                  have hM_326 : M_325 b13 = .inr (12, fs247.set 17 (.int (nI (v248 + 1)))) := by rw [eM_325]; exact va_up_self _ _ _
                                  have hM_327 : M_325 v251 = .inl (cy 14, 120, .inl (f_314)) := by rw [eM_325, va_up_ne _ _ (hc251.neT hb_15 (by decide))]; exact hM_311
                                  have hM_328 : M_325 v249 = .inl (cy 14, 120, .inl (f_307)) := by rw [eM_325, va_up_ne _ _ (hc249.neT hb_15 (by decide))]; exact hM_312
                                  refine lv_aload_n hx hb dX13_close_217 rfl (lv_at hl 4 rfl) ?_
                                  refine pg_getN (D := D) (ci := 12) (v := .ref v251) (C := RX12) (T := TX12) (N := 51) hx hb hg inG12 hown hK hP hb_15.1 hM_326 rfl 45 (by decide) (hN.use (Cond.fieldLinkNest RX13 268 RX12 "stretchDays" "[I" RX13) 54 rfl rfl) (fun _ h9 => h9) hv_323 dX13_close_218 ?_
                                  refine lv_aload_n hx hb dX13_close_221 rfl (lv_at hl 4 rfl) ?_
                                  refine pg_getN (D := D) (ci := 12) (v := .int (nI (v248 + 1))) (C := RX12) (T := TX12) (N := 51) hx hb hg inG12 hown hK hP hb_15.1 hM_326 rfl 17 (by decide) (hN.use (Cond.fieldLinkNest RX13 256 RX12 "stretches" "I" RX13) 26 rfl rfl) (fun _ h9 => h9) hs_320 dX13_close_222 ?_
                                  refine lv_iconst (v := 1) hx hb dX13_close_225 (by decide) ?_
                                  refine lv_isub hx hb dX13_close_226 ?_
                                  refine lv_topi (fun f_329 ef_329 => ?_)
                                  obtain rfl : f_329 = (nI ((v248 + 1) - 1)) := ef_329.trans (nI_prd (by omega))
                                  refine lv_dup2_11 hx hb dX13_close_227 rfl rfl ?_
                                  have hi_330 : vp_in (nI ((v248 + 1) - 1)) 120 := (inbN ((v248 + 1) - 1) 120 (by omega) (by omega))
                                  refine pg_iald hx hb hK hP hc251.1 0 hM_327 rfl hi_330 dX13_close_228 ?_
                                  have hp_331 := hf_315 _ (vp_lt hi_330)
                                  obtain ⟨c_332, hc_333, ec_334⟩ := hp_331
                                  rw [ec_334]
                                  have hy45 : (upd gqw90 ((nI v248) : Int32).toNatClampNeg 0) = f_314 := (congrFun hV.2.2.1 45).symm.trans (ax_of hM_326 (by decide) hv_323 hM_327)
                                  have hec : (upd gqw90 ((nI v248) : Int32).toNatClampNeg 0) ((nI ((v248 + 1) - 1)) : Int32).toNatClampNeg = nI c_332 := by rw [hy45]; exact ec_334
                                  have hcc : c_332 = 0 := updz (n := v248) (nI_cl (by omega)) ((nI_cl (by omega)).trans (by omega)) hec (by omega)
                                  refine lv_iconst (v := 1) hx hb dX13_close_229 (by decide) ?_
                                  refine lv_iadd hx hb dX13_close_230 ?_
                                  refine lv_topi (fun f_335 ef_335 => ?_)
                                  obtain rfl : f_335 = (nI (c_332 + 1)) := ef_335.trans (nI_add c_332 1)
                                  refine pg_iast hx hb hK hP hD hS hc251.1 0 hM_327 rfl (inbN ((v248 + 1) - 1) 120 (by omega) (by omega)) dX13_close_231 (fun H_336 locs hP hD hS => ?_)
                                  obtain ⟨M_337, eM_337⟩ : ∃ M1 : Hp, M1 = va_up M_325 v251 (.inl (cy 14, 120, .inl (upd f_314 ((nI ((v248 + 1) - 1)) : Int32).toNatClampNeg (nI (c_332 + 1))))) := ⟨_, rfl⟩
                                  have hy45 : (upd gqw90 ((nI v248) : Int32).toNatClampNeg 0) = f_314 := (congrFun hV.2.2.1 45).symm.trans (ax_of hM_326 (by decide) hv_323 hM_327)
                                  have hV : VW K L M M_337 b13 (va_up (va_up (fx M b13) 17 ((gnw90 : Nat) : Int)) 17 (((v248 + 1) : Nat) : Int)) (va_up (va_up (va_up (va_up (va_up (ax M b13) 44 gpw90) 45 gqw90) 44 (upd gpw90 ((nI v248) : Int32).toNatClampNeg (nI v6w90))) 45 (upd gqw90 ((nI v248) : Int32).toNatClampNeg 0)) 45 (upd (upd gqw90 ((nI v248) : Int32).toNatClampNeg 0) ((nI ((v248 + 1) - 1)) : Int32).toNatClampNeg (nI (c_332 + 1)))) := by rw [eM_337]; exact hV.ast (j := 45) hW hb_15 hM_326 (by decide) hv_323 hc251 hM_327
                                  have hP : va_P D vwCl ([(za, .inr (13, [.int 0, .ref z1, .int (nI z2), .int (nI z3), .int z4, .int z5, .ref z6, .ref z7, .ref z8, .ref z9, .int (nI z10), .ref z11, .ref z12, .ref z13, .ref z14, .ref z15, .int (nI z16), .ref z17, .int z18, .ref z19]))] ++ va_pl L M_337) H_336 := by rw [eM_337]; exact hP
                                  have hD : va_D A ([(za, .inr (13, [.int 0, .ref z1, .int (nI z2), .int (nI z3), .int z4, .int z5, .ref z6, .ref z7, .ref z8, .ref z9, .int (nI z10), .ref z11, .ref z12, .ref z13, .ref z14, .ref z15, .int (nI z16), .ref z17, .int z18, .ref z19]))] ++ va_pl L M_337) := by rw [eM_337]; exact hD
                                  have hW : WOM cy K L M_337 := by rw [eM_337]; exact hW.up_46 hc251 ⟨_, rfl, (updP (P := fun z => ∃ c : Nat, c < 1001 ∧ z = nI c) hf_315 ⟨(c_332 + 1), by omega, rfl⟩)⟩
                                  have hF : fr K L [12, 14, 15, 32, 42, 45, 46, 79, 80, 81, 83] M M_337 := by rw [eM_337]; exact hF.up hc251 (by decide)
                                  have hG : fG K L [1, 7, 8, 13, 14, 15, 16, 17, 18] M M_337 := by rw [eM_337]; exact hG.arr hc251 (by decide)
                                  have hM_338 : M_337 v251 = .inl (cy 14, 120, .inl (upd f_314 ((nI ((v248 + 1) - 1)) : Int32).toNatClampNeg (nI (c_332 + 1)))) := by rw [eM_337]; exact va_up_self _ _ _
                                  have hM_339 : M_337 b13 = .inr (12, fs247.set 17 (.int (nI (v248 + 1)))) := by rw [eM_337, va_up_ne _ _ (hb_15.neT hc251 (by decide))]; exact hM_326
                                  have hM_340 : M_337 v249 = .inl (cy 14, 120, .inl (f_307)) := by rw [eM_337, va_up_ne _ _ (hc249.neT hc251 (by decide))]; exact hM_328
                                  have hf_342 : ∀ j, j < 120 → ∃ c : Nat, c < 1001 ∧ (upd f_314 ((nI ((v248 + 1) - 1)) : Int32).toNatClampNeg (nI (c_332 + 1))) j = nI c := (updP (P := fun z => ∃ c : Nat, c < 1001 ∧ z = nI c) hf_315 ⟨(c_332 + 1), by omega, rfl⟩)
                                  obtain ⟨f_341, ef_341⟩ : ∃ f : Nat → Int32, f = upd f_314 ((nI ((v248 + 1) - 1)) : Int32).toNatClampNeg (nI (c_332 + 1)) := ⟨_, rfl⟩
                                  rw [← ef_341] at hM_338 hf_342
                                  refine lv_iinc (v := (nI (v6w90 + 1))) (lv' := [(6, .int (nI (v6w90 + 1))), (5, .int (-1)), (4, .int (nI c_33)), (3, .int 0), (2, .ref b13), (0, .ref za), (1, .int k1)]) hx hb dX13_close_232 hl (k := 0) rfl (nI_1 v6w90) (by decide) rfl (fun ls hl => ?_)
                                  refine lv_goto (tgt := 164) hx hb dX13_close_235 (by decide) ?_
                                  exact ih_88 (v6w90 + 1) (v248 + 1) (upd gpw90 ((nI v248) : Int32).toNatClampNeg (nI v6w90)) (upd (upd gqw90 ((nI v248) : Int32).toNatClampNeg 0) ((nI ((v248 + 1) - 1)) : Int32).toNatClampNeg (nI (c_332 + 1))) M_337 H_336 _ _ (by omega) (by omega) (by have h := SD.new hSD (by omega) (show (nI v248).toNatClampNeg = gnw90 from (nI_cl (by omega)).trans (by omega)) (show (nI ((v248 + 1) - 1)).toNatClampNeg = gnw90 from (nI_cl (by omega)).trans (by omega)) hcc; rw [← hgn] at h; exact h) hW hF hG (by have h := hV; simp only [va_up_up] at h; rw [va_up_4] at h; exact h) hP hD hS (lv_sub hl [0, 1, 2, 3, 4, 5, 6] rfl)
                                · have hz := rfl (a := 0)
                                  refine lv_if_eq (tgt := 217) hx hb dX13_close_183 (by decide) (fun _ => ?_) (fun c_343 => absurd c_343 (by decide))
                                  refine lv_aload_n hx hb dX13_close_217 rfl (lv_at hl 4 rfl) ?_
                                  refine pg_getN (D := D) (ci := 12) (v := .ref v251) (C := RX12) (T := TX12) (N := 51) hx hb hg inG12 hown hK hP hb_15.1 hM247 rfl 45 (by decide) (hN.use (Cond.fieldLinkNest RX13 268 RX12 "stretchDays" "[I" RX13) 54 rfl rfl) (fun _ h9 => h9) hv251 dX13_close_218 ?_
                                  refine lv_aload_n hx hb dX13_close_221 rfl (lv_at hl 4 rfl) ?_
                                  refine pg_getN (D := D) (ci := 12) (v := .int (nI v248)) (C := RX12) (T := TX12) (N := 51) hx hb hg inG12 hown hK hP hb_15.1 hM247 rfl 17 (by decide) (hN.use (Cond.fieldLinkNest RX13 256 RX12 "stretches" "I" RX13) 26 rfl rfl) (fun _ h9 => h9) hv248 dX13_close_222 ?_
                                  refine lv_iconst (v := 1) hx hb dX13_close_225 (by decide) ?_
                                  refine lv_isub hx hb dX13_close_226 ?_
                                  refine lv_topi (fun f_344 ef_344 => ?_)
                                  obtain rfl : f_344 = (nI (v248 - 1)) := ef_344.trans (nI_prd (by omega))
                                  refine lv_dup2_11 hx hb dX13_close_227 rfl rfl ?_
                                  have hi_345 : vp_in (nI (v248 - 1)) 120 := (inbN (v248 - 1) 120 (by omega) (by omega))
                                  refine pg_iald hx hb hK hP hc251.1 0 hM252 rfl hi_345 dX13_close_228 ?_
                                  have hp_346 := hf252 _ (vp_lt hi_345)
                                  obtain ⟨c_347, hc_348, ec_349⟩ := hp_346
                                  rw [ec_349]
                                  have hy45 : gqw90 = f252 := (congrFun hV.2.2.1 45).symm.trans (ax_of hM247 (by decide) hv251 hM252)
                                  have hec : gqw90 ((nI (v248 - 1)) : Int32).toNatClampNeg = nI c_347 := by rw [hy45]; exact ec_349
                                  have hcc : c_347 ≤ v6w90 := SD.c hSD (by omega) ((nI_cl (by omega)).trans (by omega)) hec (by omega)
                                  refine lv_iconst (v := 1) hx hb dX13_close_229 (by decide) ?_
                                  refine lv_iadd hx hb dX13_close_230 ?_
                                  refine lv_topi (fun f_350 ef_350 => ?_)
                                  obtain rfl : f_350 = (nI (c_347 + 1)) := ef_350.trans (nI_add c_347 1)
                                  refine pg_iast hx hb hK hP hD hS hc251.1 0 hM252 rfl (inbN (v248 - 1) 120 (by omega) (by omega)) dX13_close_231 (fun H_351 locs hP hD hS => ?_)
                                  obtain ⟨M_352, eM_352⟩ : ∃ M1 : Hp, M1 = va_up M_93 v251 (.inl (cy 14, 120, .inl (upd f252 ((nI (v248 - 1)) : Int32).toNatClampNeg (nI (c_347 + 1))))) := ⟨_, rfl⟩
                                  have hy45 : gqw90 = f252 := (congrFun hV.2.2.1 45).symm.trans (ax_of hM247 (by decide) hv251 hM252)
                                  have hV : VW K L M M_352 b13 (va_up (fx M b13) 17 ((gnw90 : Nat) : Int)) (va_up (va_up (va_up (ax M b13) 44 gpw90) 45 gqw90) 45 (upd gqw90 ((nI (v248 - 1)) : Int32).toNatClampNeg (nI (c_347 + 1)))) := by rw [eM_352]; exact hV.ast (j := 45) hW hb_15 hM247 (by decide) hv251 hc251 hM252
                                  have hP : va_P D vwCl ([(za, .inr (13, [.int 0, .ref z1, .int (nI z2), .int (nI z3), .int z4, .int z5, .ref z6, .ref z7, .ref z8, .ref z9, .int (nI z10), .ref z11, .ref z12, .ref z13, .ref z14, .ref z15, .int (nI z16), .ref z17, .int z18, .ref z19]))] ++ va_pl L M_352) H_351 := by rw [eM_352]; exact hP
                                  have hD : va_D A ([(za, .inr (13, [.int 0, .ref z1, .int (nI z2), .int (nI z3), .int z4, .int z5, .ref z6, .ref z7, .ref z8, .ref z9, .int (nI z10), .ref z11, .ref z12, .ref z13, .ref z14, .ref z15, .int (nI z16), .ref z17, .int z18, .ref z19]))] ++ va_pl L M_352) := by rw [eM_352]; exact hD
                                  have hW : WOM cy K L M_352 := by rw [eM_352]; exact hW.up_46 hc251 ⟨_, rfl, (updP (P := fun z => ∃ c : Nat, c < 1001 ∧ z = nI c) hf252 ⟨(c_347 + 1), by omega, rfl⟩)⟩
                                  have hF : fr K L [12, 14, 15, 32, 42, 45, 46, 79, 80, 81, 83] M M_352 := by rw [eM_352]; exact hF.up hc251 (by decide)
                                  have hG : fG K L [1, 7, 8, 13, 14, 15, 16, 17, 18] M M_352 := by rw [eM_352]; exact hG.arr hc251 (by decide)
                                  have hM_353 : M_352 v251 = .inl (cy 14, 120, .inl (upd f252 ((nI (v248 - 1)) : Int32).toNatClampNeg (nI (c_347 + 1)))) := by rw [eM_352]; exact va_up_self _ _ _
                                  have hM_354 : M_352 b13 = .inr (12, fs247) := by rw [eM_352, va_up_ne _ _ (hb_15.neT hc251 (by decide))]; exact hM247
                                  have hM_355 : M_352 v249 = .inl (cy 14, 120, .inl (f250)) := by rw [eM_352, va_up_ne _ _ (hc249.neT hc251 (by decide))]; exact hM250
                                  have hf_357 : ∀ j, j < 120 → ∃ c : Nat, c < 1001 ∧ (upd f252 ((nI (v248 - 1)) : Int32).toNatClampNeg (nI (c_347 + 1))) j = nI c := (updP (P := fun z => ∃ c : Nat, c < 1001 ∧ z = nI c) hf252 ⟨(c_347 + 1), by omega, rfl⟩)
                                  obtain ⟨f_356, ef_356⟩ : ∃ f : Nat → Int32, f = upd f252 ((nI (v248 - 1)) : Int32).toNatClampNeg (nI (c_347 + 1)) := ⟨_, rfl⟩
                                  rw [← ef_356] at hM_353 hf_357
                                  refine lv_iinc (v := (nI (v6w90 + 1))) (lv' := [(6, .int (nI (v6w90 + 1))), (5, .int (-1)), (4, .int (nI c_33)), (3, .int 0), (2, .ref b13), (0, .ref za), (1, .int k1)]) hx hb dX13_close_232 hl (k := 0) rfl (nI_1 v6w90) (by decide) rfl (fun ls hl => ?_)
                                  refine lv_goto (tgt := 164) hx hb dX13_close_235 (by decide) ?_
                                  exact ih_88 (v6w90 + 1) gnw90 gpw90 (upd gqw90 ((nI (v248 - 1)) : Int32).toNatClampNeg (nI (c_347 + 1))) M_352 H_351 _ _ (by omega) (by omega) (SD.old hSD (by omega) ((nI_cl (by omega)).trans (by omega)) hec (by omega)) hW hF hG (by have h := hV; simp only [va_up_up] at h; exact h) hP hD hS (lv_sub hl [0, 1, 2, 3, 4, 5, 6] rfl)
                        exact key_87 (1001 - 0 + 1) 0 0 (ax M b13 44) (ax M b13 45) M_82 H_83 _ _ (by omega) (by omega) (SD.rf _ _ _) hW hF hG (by rw [va_up_id, va_up_id]; exact hV) hP hD hS (lv_sub hl [0, 1, 2, 3, 4, 5, 6] rfl)
                      · have hz := rfl (a := 0)
                        have n_358 : ¬ (24 ≤ v6w80) := fun q => c_85 ((iLE (a := 24) (b := v6w80) (by omega) (by omega)).mpr q)
                        refine lv_aload_n hx hb dX13_close_147 rfl (lv_at hl 4 rfl) ?_
                        obtain ⟨v359, hv359, hc359⟩ : ∃ v : Nat, (fs16.set 17 (.int 0))[33]? = some (.ref v : Value) ∧ isk K L v 15 24 := hk_65 33 (by decide)
                        refine pg_getN (D := D) (ci := 12) (v := .ref v359) (C := RX12) (T := TX12) (N := 51) hx hb hg inG12 hown hK hP hb_15.1 hM_84 rfl 33 (by decide) (hN.use (Cond.fieldLinkNest RX13 259 RX12 "dues" "[J" RX13) 42 rfl rfl) (fun _ h9 => h9) hv359 dX13_close_148 ?_
                        refine lv_iload hx hb dX13_close_151 (lv_at hl 0 rfl) ?_
                        refine lv_lconst (v := 0) hx hb dX13_close_153 (by decide) ?_
                        obtain ⟨f360, hM360⟩ := hW.open_15 hc359
                        refine pg_last hx hb hK hP hD hS hc359.1 1 hM360 rfl (inbN v6w80 24 (by omega) (by omega)) dX13_close_154 (fun H_361 locs hP hD hS => ?_)
                        obtain ⟨M_362, eM_362⟩ : ∃ M1 : Hp, M1 = va_up M_82 v359 (.inl (cy 15, 24, .inr (.inl (vp_updL f360 ((nI v6w80) : Int32).toNatClampNeg 0)))) := ⟨_, rfl⟩
                        have hV : VW K L M M_362 b13 (va_up (fx M b13) 17 (0 : Int)) (ax M b13) := by rw [eM_362]; exact hV.oth hW hb_15 hc359 (by decide)
                        have hP : va_P D vwCl ([(za, .inr (13, [.int 0, .ref z1, .int (nI z2), .int (nI z3), .int z4, .int z5, .ref z6, .ref z7, .ref z8, .ref z9, .int (nI z10), .ref z11, .ref z12, .ref z13, .ref z14, .ref z15, .int (nI z16), .ref z17, .int z18, .ref z19]))] ++ va_pl L M_362) H_361 := by rw [eM_362]; exact hP
                        have hD : va_D A ([(za, .inr (13, [.int 0, .ref z1, .int (nI z2), .int (nI z3), .int z4, .int z5, .ref z6, .ref z7, .ref z8, .ref z9, .int (nI z10), .ref z11, .ref z12, .ref z13, .ref z14, .ref z15, .int (nI z16), .ref z17, .int z18, .ref z19]))] ++ va_pl L M_362) := by rw [eM_362]; exact hD
                        have hW : WOM cy K L M_362 := by rw [eM_362]; exact hW.up_15 hc359 ⟨_, rfl⟩
                        have hF : fr K L [12, 14, 15, 32, 42, 45, 46, 79, 80, 81, 83] M M_362 := by rw [eM_362]; exact hF.up hc359 (by decide)
                        have hG : fG K L [1, 7, 8, 13, 14, 15, 16, 17, 18] M M_362 := by rw [eM_362]; exact hG.arr hc359 (by decide)
                        have hM_363 : M_362 v359 = .inl (cy 15, 24, .inr (.inl (vp_updL f360 ((nI v6w80) : Int32).toNatClampNeg 0))) := by rw [eM_362]; exact va_up_self _ _ _
                        have hM_364 : M_362 b13 = .inr (12, fs16.set 17 (.int 0)) := by rw [eM_362, va_up_ne _ _ (hb_15.neT hc359 (by decide))]; exact hM_84
                        obtain ⟨f_365, ef_365⟩ : ∃ f : Nat → Int64, f = vp_updL f360 ((nI v6w80) : Int32).toNatClampNeg 0 := ⟨_, rfl⟩
                        rw [← ef_365] at hM_363
                        refine lv_iinc (v := (nI (v6w80 + 1))) (lv' := [(6, .int (nI (v6w80 + 1))), (5, .int (-1)), (4, .int (nI c_33)), (3, .int 0), (2, .ref b13), (0, .ref za), (1, .int k1)]) hx hb dX13_close_155 hl (k := 0) rfl (nI_1 v6w80) (by decide) rfl (fun ls hl => ?_)
                        refine lv_goto (tgt := 140) hx hb dX13_close_158 (by decide) ?_
                        exact ih_78 (v6w80 + 1) M_362 H_361 _ _ (by omega) hM_364 (by omega) hW hF hG hV hP hD hS (lv_sub hl [0, 1, 2, 3, 4, 5, 6] rfl)
                  exact key_77 (24 - 0 + 1) 0 M_75 H_63 _ _ (by omega) hM_76 (by omega) hW hF hG hV hP hD hS (lv_sub hl [0, 1, 2, 3, 4, 5, 6] rfl)
                · have hz := rfl (a := 0)
                  refine lv_istore (lv' := [(5, .int (nI j_57)), (4, .int (nI c_33)), (3, .int 0), (2, .ref b13), (0, .ref za), (1, .int k1)]) hx hb dX13_close_115 hl (by decide) rfl (fun ls hl => ?_)
                  refine lv_iload hx hb dX13_close_117 (lv_at hl 0 rfl) ?_
                  refine lv_iconst (v := (-1)) hx hb dX13_close_119 (by decide) ?_
                  refine lv_icmp_eq (tgt := 132) hx hb dX13_close_120 (by decide) (fun c_366 => absurd c_366 (nI_ne_m1 (by omega))) (fun _ => ?_)
                  refine lv_aload_n hx hb dX13_close_123 rfl (lv_at hl 4 rfl) ?_
                  refine lv_bipush (v := 7) hx hb dX13_close_124 (by decide) ?_
                  refine lv_iload hx hb dX13_close_126 (lv_at hl 0 rfl) ?_
                  have hPc := hP.sub (ws' := [(za, .inr (13, [.int 0, .ref z1, .int (nI z2), .int (nI z3), .int z4, .int z5, .ref z6, .ref z7, .ref z8, .ref z9, .int (nI z10), .ref z11, .ref z12, .ref z13, .ref z14, .ref z15, .int (nI z16), .ref z17, .int z18, .ref z19]))]) [0] rfl
                  have hDc := hD.sub (ws' := [(za, .inr (13, [.int 0, .ref z1, .int (nI z2), .int (nI z3), .int z4, .int z5, .ref z6, .ref z7, .ref z8, .ref z9, .int (nI z10), .ref z11, .ref z12, .ref z13, .ref z14, .ref z15, .int (nI z16), .ref z17, .int z18, .ref z19]))]) [0] (by decide) rfl
                  have hKc := hK.sub (tys' := []) [] rfl
                  have hFc := va_free (wc := [(za, .inr (13, [.int 0, .ref z1, .int (nI z2), .int (nI z3), .int z4, .int z5, .ref z6, .ref z7, .ref z8, .ref z9, .int (nI z10), .ref z11, .ref z12, .ref z13, .ref z14, .ref z15, .int (nI z16), .ref z17, .int z18, .ref z19]))]) hD hS hA [0] rfl
                  refine va_calli (va_runV (As := [.int 7, .int (nI j_57)]) (rest := []) ⟨hx, hb, hml, hown, hg⟩ (m_refusedAt l D H_52.size za 0 z1 (nI z2) (nI z3) z4 z5 z6 z7 z8 z9 (nI z10) z11 z12 z13 z14 z15 (nI z16) z17 z18 z19 7 (nI j_57)) (cwV 2 hg (gV wd_882 wd_883 wd_884 wd_717 wd_885) rfl rfl rfl (by decide +kernel) ⟨(Nat.le_trans (Nat.le_of_ble_eq_true rfl) hRf), (Nat.le_trans (Nat.le_of_ble_eq_true rfl) hRl)⟩) ⟨Pr.blind, va_recv hK hP (ci := 13) (q0 := 0) rfl rfl, fun U hU hW => ⟨rfl, Pr.at hPc hKc hDc hN hU hW⟩⟩ rfl rfl hl.1 rfl (lv_room (Nat.le_of_ble_eq_true rfl)) dX13_close_128 ⟨(Nat.le_trans (Nat.le_of_ble_eq_true rfl) hRc), (Nat.le_trans (Nat.le_of_ble_eq_true rfl) hRs)⟩) hS (fun q _ h => hFc q h) hFc (fun r_368 M_369 t H_367 locs ht hvm hw hB hz1 hk1 hS => ?_)
                  have hp_370 := hw
                  obtain ⟨hP1, hK1, hD1⟩ := hB
                  rw [ht] at hP1
                  obtain ⟨hP, hD⟩ := va_joinQ (X := [(za, .inr (13, [.int 0, .ref z1, .int (nI z2), .int (nI z3), .int z4, .int z5, .ref z6, .ref z7, .ref z8, .ref z9, .int (nI z10), .ref z11, .ref z12, .ref z13, .ref z14, .ref z15, .int (nI z16), .ref z17, .int z18, .ref z19]))]) (cx := [(za, .inr (13, [.int 0, .ref z1, .int (nI z2), .int (nI z3), .int z4, .int z5, .ref z6, .ref z7, .ref z8, .ref z9, .int (nI z10), .ref z11, .ref z12, .ref z13, .ref z14, .ref z15, .int (nI z16), .ref z17, .int z18, .ref z19]))]) (wr := []) (w1 := [(za, .inr (13, [.int 0, .ref z1, .int (nI z2), .int (nI z3), .int 7, .int (nI j_57), .ref z6, .ref z7, .ref z8, .ref z9, .int (nI z10), .ref z11, .ref z12, .ref z13, .ref z14, .ref z15, .int (nI z16), .ref z17, .int z18, .ref z19]))]) (pl := va_pl L M_42) hP hD [0] [] rfl rfl (by decide) (by decide) hk1 hFc hP1 hD1
                  have hP : va_P D vwCl ([(za, .inr (13, [.int 0, .ref z1, .int (nI z2), .int (nI z3), .int 7, .int (nI j_57), .ref z6, .ref z7, .ref z8, .ref z9, .int (nI z10), .ref z11, .ref z12, .ref z13, .ref z14, .ref z15, .int (nI z16), .ref z17, .int z18, .ref z19]))] ++ va_pl L M_42) H_367 := hP
                  have hD : va_D A ([(za, .inr (13, [.int 0, .ref z1, .int (nI z2), .int (nI z3), .int 7, .int (nI j_57), .ref z6, .ref z7, .ref z8, .ref z9, .int (nI z10), .ref z11, .ref z12, .ref z13, .ref z14, .ref z15, .int (nI z16), .ref z17, .int z18, .ref z19]))] ++ va_pl L M_42) := hD
                  have hq := Eq.symm hp_370
                  subst hq
                  have hlg7 : ¬ ∀ b, b < z2 → ¬ LAG PK PT SX SY (k1 : Int32).toNatClampNeg (enD (SX (k1 : Int32).toNatClampNeg) (SY (k1 : Int32).toNatClampNeg)) b := fun w9 => w9 _ c_59 (by rw [hEd]; have h9 := c_60; rw [nI_toInt (by omega)] at h9; exact h9)
                  have hno : ¬ okCl z2 PK PT SX SY k1 := fun q9 => by unfold okCl okH at q9; first | omega | (obtain ⟨⟨_, _⟩, _, _, _, _⟩ := q9; first | omega | contradiction)
                  have hA9 : HA (ax M b13 2) (ax M b13 3) := hAT.1
                  have hB9 : HB (fx M b13 16) (fx M b13 14) (ax M b13 3) (ax M b13 43) := hAT.2.1
                  have hC9 : HC (fx M b13 10) (ax M b13 22) (ax M b13 23) := hAT.2.2.1
                  have hD9 : HD (fx M b13 0) (fx M b13 11) (fx M b13 15) (ax M b13 34) (ax M b13 41) := hAT.2.2.2.1
                  have hE9 : HE (fx M b13 0) (fx M b13 1) (fx M b13 12) (fx M b13 13) (ax M b13 37) := hAT.2.2.2.2
                  have hH9 : HI (fx M b13) (ax M b13) := ⟨hA9, hB9, hC9, hD9, hE9⟩
                  have hGI9 : GI K L z1 z2 M_42 := GI.fin hW0 i1 b2 hGI hact hV (hF.at i1 (by decide)) hH9
                  rw [hQ]
                  exact W.iret (v := (-1)) hx hb hr (fun t ht hW9 => ⟨⟨(-1), M_42, rfl, ⟨hW, hF, hG, ⟨hGI9, fun _ => 0, fun _ _ => 0, fun w9 => absurd w9 hno, (by unfold sxCl syCl; rw [if_neg hno, if_neg hno]; have hQ9 := ZSx.fin hW0 i1 b2 hZS hGI.1 hkn hb9 hV (hF.at i1 (by decide)) hZk.1 hZk.2; rw [va_upJ, va_upJ] at hQ9; exact hQ9)⟩, (by unfold anCl; rw [if_neg hno])⟩, ⟨7, (nI j_57), z16, (by omega), by rw [ht]; exact hP, hD⟩⟩, hS.F ht⟩) hS.2.2 dX13_close_131
              · have hz := rfl (a := 0)
                have n_371 : ¬ (c_33 < v5w39) := fun q => c_45 ((iLT (a := c_33) (b := v5w39) (by omega) (by omega)).mpr q)
                refine lv_aload_n hx hb dX13_close_85 rfl (lv_at hl 3 rfl) ?_
                refine lv_iload hx hb dX13_close_86 (lv_at hl 0 rfl) ?_
                have hPc : va_P D vwCl ([] ++ va_pl L M_42) H_43 := hP.part (cx := []) [] rfl
                have hDc : va_D A ([] ++ va_pl L M_42) := hD.part (cx := []) [] (by decide) rfl
                have hFc : ∀ q, va_A ([] ++ va_pl L M_42) H_43.size q → A q := pg_free hDc hS hA
                refine va_calli (va_runV (As := [.int (nI v5w39)]) (rest := []) ⟨hx, hb, hml, hown, hg⟩ (f_isOpen l D cy K L M_42 H_43.size b13 v5w39  hW hb_15 (by omega)) (cwV 1 hg (gV wd_752 wd_753 wd_754 wd_737 wd_755) rfl rfl rfl (by decide +kernel) ⟨(Nat.le_trans (Nat.le_of_ble_eq_true rfl) hRf), (Nat.le_trans (Nat.le_of_ble_eq_true rfl) hRl)⟩) ⟨PG.blind, pg_recv hK hP hb_15.1 hM_44 rfl, fun U hU hW => ⟨rfl, PG.at hPc hK hDc hN hU hW⟩⟩ rfl rfl hl.1 rfl (lv_room (Nat.le_of_ble_eq_true rfl)) dX13_close_88 ⟨(Nat.le_trans (Nat.le_of_ble_eq_true rfl) hRc), (Nat.le_trans (Nat.le_of_ble_eq_true rfl) hRs)⟩) hS (fun q _ h => hFc q h) hFc (fun r_373 M_374 t H_372 locs ht hvm hw hB hz1 hk1 hS => ?_)
                have hp_375 := hw
                obtain ⟨hP1, hD1⟩ := hB
                rw [ht] at hP1
                obtain ⟨hP, hD⟩ := va_joinP (X := [(za, .inr (13, [.int 0, .ref z1, .int (nI z2), .int (nI z3), .int z4, .int z5, .ref z6, .ref z7, .ref z8, .ref z9, .int (nI z10), .ref z11, .ref z12, .ref z13, .ref z14, .ref z15, .int (nI z16), .ref z17, .int z18, .ref z19]))]) (cx := []) (wr := [(za, .inr (13, [.int 0, .ref z1, .int (nI z2), .int (nI z3), .int z4, .int z5, .ref z6, .ref z7, .ref z8, .ref z9, .int (nI z10), .ref z11, .ref z12, .ref z13, .ref z14, .ref z15, .int (nI z16), .ref z17, .int z18, .ref z19]))]) (rx := []) (pl := va_pl L M_42) (pl1 := va_pl L M_42) hP hD [] [0] rfl rfl (by decide) (by decide) hk1 hFc hP1 hD1
                have hP : va_P D vwCl ([(za, .inr (13, [.int 0, .ref z1, .int (nI z2), .int (nI z3), .int z4, .int z5, .ref z6, .ref z7, .ref z8, .ref z9, .int (nI z10), .ref z11, .ref z12, .ref z13, .ref z14, .ref z15, .int (nI z16), .ref z17, .int z18, .ref z19]))] ++ va_pl L M_42) H_372 := hP
                have hD : va_D A ([(za, .inr (13, [.int 0, .ref z1, .int (nI z2), .int (nI z3), .int z4, .int z5, .ref z6, .ref z7, .ref z8, .ref z9, .int (nI z10), .ref z11, .ref z12, .ref z13, .ref z14, .ref z15, .int (nI z16), .ref z17, .int z18, .ref z19]))] ++ va_pl L M_42) := hD
                rcases hp_375 with ⟨rfl, c_376⟩ | ⟨rfl, c_377⟩
                · have hz := rfl (a := 0)
                  have hop9 : opD (SY (k1 : Int32).toNatClampNeg) v5w39 := by have h9 := c_376; rw [hV.2.2.1, hZk.2] at h9; exact h9
                  refine lv_if_eq (tgt := 102) hx hb dX13_close_91 (by decide) (fun c_378 => absurd c_378 (by decide)) (fun _ => ?_)
                  refine lv_aload_n hx hb dX13_close_94 rfl (lv_at hl 4 rfl) ?_
                  refine lv_iconst (v := 5) hx hb dX13_close_95 (by decide) ?_
                  refine lv_iload hx hb dX13_close_96 (lv_at hl 0 rfl) ?_
                  have hPc := hP.sub (ws' := [(za, .inr (13, [.int 0, .ref z1, .int (nI z2), .int (nI z3), .int z4, .int z5, .ref z6, .ref z7, .ref z8, .ref z9, .int (nI z10), .ref z11, .ref z12, .ref z13, .ref z14, .ref z15, .int (nI z16), .ref z17, .int z18, .ref z19]))]) [0] rfl
                  have hDc := hD.sub (ws' := [(za, .inr (13, [.int 0, .ref z1, .int (nI z2), .int (nI z3), .int z4, .int z5, .ref z6, .ref z7, .ref z8, .ref z9, .int (nI z10), .ref z11, .ref z12, .ref z13, .ref z14, .ref z15, .int (nI z16), .ref z17, .int z18, .ref z19]))]) [0] (by decide) rfl
                  have hKc := hK.sub (tys' := []) [] rfl
                  have hFc := va_free (wc := [(za, .inr (13, [.int 0, .ref z1, .int (nI z2), .int (nI z3), .int z4, .int z5, .ref z6, .ref z7, .ref z8, .ref z9, .int (nI z10), .ref z11, .ref z12, .ref z13, .ref z14, .ref z15, .int (nI z16), .ref z17, .int z18, .ref z19]))]) hD hS hA [0] rfl
                  refine va_calli (va_runV (As := [.int 5, .int (nI v5w39)]) (rest := []) ⟨hx, hb, hml, hown, hg⟩ (m_refusedAt l D H_372.size za 0 z1 (nI z2) (nI z3) z4 z5 z6 z7 z8 z9 (nI z10) z11 z12 z13 z14 z15 (nI z16) z17 z18 z19 5 (nI v5w39)) (cwV 2 hg (gV wd_882 wd_883 wd_884 wd_717 wd_885) rfl rfl rfl (by decide +kernel) ⟨(Nat.le_trans (Nat.le_of_ble_eq_true rfl) hRf), (Nat.le_trans (Nat.le_of_ble_eq_true rfl) hRl)⟩) ⟨Pr.blind, va_recv hK hP (ci := 13) (q0 := 0) rfl rfl, fun U hU hW => ⟨rfl, Pr.at hPc hKc hDc hN hU hW⟩⟩ rfl rfl hl.1 rfl (lv_room (Nat.le_of_ble_eq_true rfl)) dX13_close_98 ⟨(Nat.le_trans (Nat.le_of_ble_eq_true rfl) hRc), (Nat.le_trans (Nat.le_of_ble_eq_true rfl) hRs)⟩) hS (fun q _ h => hFc q h) hFc (fun r_380 M_381 t H_379 locs ht hvm hw hB hz1 hk1 hS => ?_)
                  have hp_382 := hw
                  obtain ⟨hP1, hK1, hD1⟩ := hB
                  rw [ht] at hP1
                  obtain ⟨hP, hD⟩ := va_joinQ (X := [(za, .inr (13, [.int 0, .ref z1, .int (nI z2), .int (nI z3), .int z4, .int z5, .ref z6, .ref z7, .ref z8, .ref z9, .int (nI z10), .ref z11, .ref z12, .ref z13, .ref z14, .ref z15, .int (nI z16), .ref z17, .int z18, .ref z19]))]) (cx := [(za, .inr (13, [.int 0, .ref z1, .int (nI z2), .int (nI z3), .int z4, .int z5, .ref z6, .ref z7, .ref z8, .ref z9, .int (nI z10), .ref z11, .ref z12, .ref z13, .ref z14, .ref z15, .int (nI z16), .ref z17, .int z18, .ref z19]))]) (wr := []) (w1 := [(za, .inr (13, [.int 0, .ref z1, .int (nI z2), .int (nI z3), .int 5, .int (nI v5w39), .ref z6, .ref z7, .ref z8, .ref z9, .int (nI z10), .ref z11, .ref z12, .ref z13, .ref z14, .ref z15, .int (nI z16), .ref z17, .int z18, .ref z19]))]) (pl := va_pl L M_42) hP hD [0] [] rfl rfl (by decide) (by decide) hk1 hFc hP1 hD1
                  have hP : va_P D vwCl ([(za, .inr (13, [.int 0, .ref z1, .int (nI z2), .int (nI z3), .int 5, .int (nI v5w39), .ref z6, .ref z7, .ref z8, .ref z9, .int (nI z10), .ref z11, .ref z12, .ref z13, .ref z14, .ref z15, .int (nI z16), .ref z17, .int z18, .ref z19]))] ++ va_pl L M_42) H_379 := hP
                  have hD : va_D A ([(za, .inr (13, [.int 0, .ref z1, .int (nI z2), .int (nI z3), .int 5, .int (nI v5w39), .ref z6, .ref z7, .ref z8, .ref z9, .int (nI z10), .ref z11, .ref z12, .ref z13, .ref z14, .ref z15, .int (nI z16), .ref z17, .int z18, .ref z19]))] ++ va_pl L M_42) := hD
                  have hq := Eq.symm hp_382
                  subst hq
                  have hI_383 : (0 : Int) ≤ (k1 : Int32).toInt := inltI rfl rfl c_7
                  have hI_384 : (k1 : Int32).toInt < ((z2 : Nat) : Int) := inleI (nI_toInt (by omega)) rfl c_8
                  have hI_385 : ((v21 : Nat) : Int) ≠ ((v20 : Nat) : Int) := ineI (nI_toInt (by omega)) (nI_toInt (by omega)) c_24
                  have hI_386 : ((v19 : Nat) : Int) ≠ (0 : Int) := ineI (nI_toInt (by omega)) rfl c_26
                  have hI_387 : ((v5w39 : Nat) : Int) ≤ ((c_33 : Nat) : Int) := inltI (nI_toInt (by omega)) (nI_toInt (by omega)) c_45
                  have hop5 : ¬ (∀ d : Nat, SX (k1 : Int32).toNatClampNeg 1 < (d : Int) → (d : Int) ≤ enD (SX (k1 : Int32).toNatClampNeg) (SY (k1 : Int32).toNatClampNeg) → ¬ opD (SY (k1 : Int32).toNatClampNeg) d) := fun w9 => w9 v5w39 (by omega) (by rw [hEd]; omega) hop9
                  have hno : ¬ okCl z2 PK PT SX SY k1 := fun q9 => by unfold okCl okH at q9; first | omega | (obtain ⟨⟨_, _⟩, _, _, _, _⟩ := q9; first | omega | contradiction)
                  have hA9 : HA (ax M b13 2) (ax M b13 3) := hAT.1
                  have hB9 : HB (fx M b13 16) (fx M b13 14) (ax M b13 3) (ax M b13 43) := hAT.2.1
                  have hC9 : HC (fx M b13 10) (ax M b13 22) (ax M b13 23) := hAT.2.2.1
                  have hD9 : HD (fx M b13 0) (fx M b13 11) (fx M b13 15) (ax M b13 34) (ax M b13 41) := hAT.2.2.2.1
                  have hE9 : HE (fx M b13 0) (fx M b13 1) (fx M b13 12) (fx M b13 13) (ax M b13 37) := hAT.2.2.2.2
                  have hH9 : HI (fx M b13) (ax M b13) := ⟨hA9, hB9, hC9, hD9, hE9⟩
                  have hGI9 : GI K L z1 z2 M_42 := GI.fin hW0 i1 b2 hGI hact hV (hF.at i1 (by decide)) hH9
                  rw [hQ]
                  exact W.iret (v := (-1)) hx hb hr (fun t ht hW9 => ⟨⟨(-1), M_42, rfl, ⟨hW, hF, hG, ⟨hGI9, fun _ => 0, fun _ _ => 0, fun w9 => absurd w9 hno, (by unfold sxCl syCl; rw [if_neg hno, if_neg hno]; have hQ9 := ZSx.fin hW0 i1 b2 hZS hGI.1 hkn hb9 hV (hF.at i1 (by decide)) hZk.1 hZk.2; rw [va_upJ, va_upJ] at hQ9; exact hQ9)⟩, (by unfold anCl; rw [if_neg hno])⟩, ⟨5, (nI v5w39), z16, (by omega), by rw [ht]; exact hP, hD⟩⟩, hS.F ht⟩) hS.2.2 dX13_close_101
                · have hz := rfl (a := 0)
                  have hno9 : ¬ opD (SY (k1 : Int32).toNatClampNeg) v5w39 := by have h9 := c_377; rw [hV.2.2.1, hZk.2] at h9; exact h9
                  refine lv_if_eq (tgt := 102) hx hb dX13_close_91 (by decide) (fun _ => ?_) (fun c_388 => absurd c_388 (by decide))
                  refine lv_iinc (v := (nI (v5w39 + 1))) (lv' := [(5, .int (nI (v5w39 + 1))), (4, .int (nI c_33)), (3, .int 0), (2, .ref b13), (0, .ref za), (1, .int k1)]) hx hb dX13_close_102 hl (k := 0) rfl (nI_1 v5w39) (by decide) rfl (fun ls hl => ?_)
                  refine lv_goto (tgt := 78) hx hb dX13_close_105 (by decide) ?_
                  exact ih_37 (v5w39 + 1) M_42 H_372 _ _ (by omega) hM_44 (by omega) (fun d h1 h2 => by by_cases z9 : ¬ d = v5w39; exact hx_41 d h1 (by omega); rw [Classical.not_not.mp z9]; exact hno9) hW hF hG hV hP hD hS (lv_sub hl [0, 1, 2, 3, 4, 5] rfl)
          exact key_36 (1001 - 0 + 1) 0 M H_2 _ _ (by omega) hM16 (by omega) (fun d h1 h2 => by omega) hW hF hG hV hP hD hS (lv_sub hl [0, 1, 2, 3, 4, 5] rfl)
        · have hz := rfl (a := 0)
          refine lv_iconst (v := 1) hx hb dX13_close_61 (by decide) ?_
          refine lv_iadd hx hb dX13_close_62 ?_
          refine lv_topi (fun f_389 ef_389 => ?_)
          obtain rfl : f_389 = (nI (c_28 + 1)) := ef_389.trans (nI_add c_28 1)
          refine lv_istore_n (lv' := [(3, .int (nI (c_28 + 1))), (2, .ref b13), (0, .ref za), (1, .int k1)]) hx hb dX13_close_63 rfl hl (by decide) rfl (fun ls hl => ?_)
          have hlt13 : v21 < v20 := by have h := hAT.2.2.2.2.1; omega
          refine lv_aload_n hx hb dX13_close_64 rfl (lv_at hl 1 rfl) ?_
          refine pg_getN (D := D) (ci := 12) (v := .ref v22) (C := RX12) (T := TX12) (N := 51) hx hb hg inG12 hown hK hP hb_15.1 hM16 rfl 37 (by decide) (hN.use (Cond.fieldLinkNest RX13 236 RX12 "end" "[I" RX13) 46 rfl rfl) (fun _ h9 => h9) hv22 dX13_close_65 ?_
          refine lv_aload_n hx hb dX13_close_68 rfl (lv_at hl 1 rfl) ?_
          refine pg_getN (D := D) (ci := 12) (v := .int (nI v21)) (C := RX12) (T := TX12) (N := 51) hx hb hg inG12 hown hK hP hb_15.1 hM16 rfl 13 (by decide) (hN.use (Cond.fieldLinkNest RX13 244 RX12 "closed" "I" RX13) 22 rfl rfl) (fun _ h9 => h9) hv21 dX13_close_69 ?_
          have hi_390 : vp_in (nI v21) 12 := (inbN v21 12 (by omega) (by omega))
          refine pg_iald hx hb hK hP hc22.1 0 hM23 rfl hi_390 dX13_close_72 ?_
          have hp_391 := hf23 _ (vp_lt hi_390)
          obtain ⟨c_392, hc_393, ec_394⟩ := hp_391
          rw [ec_394]
          refine lv_istore (lv' := [(4, .int (nI c_392)), (3, .int (nI (c_28 + 1))), (2, .ref b13), (0, .ref za), (1, .int k1)]) hx hb dX13_close_73 hl (by decide) rfl (fun ls hl => ?_)
          have hx1b : fx M b13 1 = (((c_28 + 1) : Nat) : Int) - 1 := by rw [hx1]; first | decide | (rw [nI_toInt (by omega)]; omega)
          obtain ⟨hq1, hq2, hq3, hq4⟩ := heC hAT.2.2.2.2 hb13 hb12 (by omega) (by omega) hb37 (nI_cl (by omega)) ec_394 (by omega)
          have h11 : 1 ≤ fx M b13 11 := by omega
          have hT37 : (ax M b13 37 v21).toInt = ((c_392 : Nat) : Int) := by
            have h := ec_394
            rw [nI_cl (by omega)] at h
            rw [hb37, h, nI_toInt (by omega)]
          have hEd : enD (SX (k1 : Int32).toNatClampNeg) (SY (k1 : Int32).toNatClampNeg) = ((c_392 : Nat) : Int) := by unfold enD; rw [← hZk.2, show (SX (k1 : Int32).toNatClampNeg 13).toNat = v21 by omega]; exact hT37
          refine lv_iload_n hx hb dX13_close_75 rfl (lv_at hl 1 rfl) ?_
          refine lv_istore (lv' := [(5, .int (nI (c_28 + 1))), (4, .int (nI c_392)), (3, .int (nI (c_28 + 1))), (2, .ref b13), (0, .ref za), (1, .int k1)]) hx hb dX13_close_76 hl (by decide) rfl (fun ls hl => ?_)
          have key_395 : ∀ (fu_397 : Nat) (v5w398 : Nat) (M_401 : Hp) (H_402 : Heap) (locs : List Loc) (ls : Array Slot), 1001 - v5w398 < fu_397 → M_401 b13 = .inr (12, fs16) → v5w398 ≤ 1000 → (∀ d : Nat, SX (k1 : Int32).toNatClampNeg 1 < (d : Int) → d < v5w398 → ¬ opD (SY (k1 : Int32).toNatClampNeg) d) → WOM cy K L M_401 → fr K L [12, 14, 15, 32, 42, 45, 46, 79, 80, 81, 83] M M_401 → fG K L [1, 7, 8, 13, 14, 15, 16, 17, 18] M M_401 → VW K L M M_401 b13 (fx M b13) (ax M b13) → va_P D vwCl ([(za, .inr (13, [.int 0, .ref z1, .int (nI z2), .int (nI z3), .int z4, .int z5, .ref z6, .ref z7, .ref z8, .ref z9, .int (nI z10), .ref z11, .ref z12, .ref z13, .ref z14, .ref z15, .int (nI z16), .ref z17, .int z18, .ref z19]))] ++ va_pl L M_401) H_402 → va_D A ([(za, .inr (13, [.int 0, .ref z1, .int (nI z2), .int (nI z3), .int z4, .int z5, .ref z6, .ref z7, .ref z8, .ref z9, .int (nI z10), .ref z11, .ref z12, .ref z13, .ref z14, .ref z15, .int (nI z16), .ref z17, .int z18, .ref z19]))] ++ va_pl L M_401) → va_S A s.heap H_402 locs → lv_has ls 8 [(5, .int (nI v5w398)), (4, .int (nI c_392)), (3, .int (nI (c_28 + 1))), (2, .ref b13), (0, .ref za), (1, .int k1)] → W p l e R s m ([.ref za, .int k1] : List Value).toArray below meth c H_402 locs 0 0 Q (F0 m 78 ls []) := by
            intro fu_397
            induction fu_397 with
            | zero => intro v5w398 M_401 H_402 locs ls h; exact absurd h (Nat.not_lt_zero _)
            | succ fu_397 ih_396 =>
              intro v5w398 M_401 H_402 locs ls hfu hM_403 hx_399 hx_400 hW hF hG hV hP hD hS hl
              refine lv_iload hx hb dX13_close_78 (lv_at hl 0 rfl) ?_
              refine lv_iload hx hb dX13_close_80 (lv_at hl 1 rfl) ?_
              refine lv_icmp_gt (tgt := 108) hx hb dX13_close_82 (by decide) (fun c_404 => ?_) (fun c_404 => ?_)
              · have hz := rfl (a := 0)
                have n_405 : c_392 < v5w398 := (iLT (a := c_392) (b := v5w398) (by omega) (by omega)).mp c_404
                have hall := hx_400
                have hv5 : c_392 < v5w398 := by omega
                have hI_406 : (0 : Int) ≤ (k1 : Int32).toInt := inltI rfl rfl c_7
                have hI_407 : (k1 : Int32).toInt < ((z2 : Nat) : Int) := inleI (nI_toInt (by omega)) rfl c_8
                have hI_408 : ((v21 : Nat) : Int) ≠ ((v20 : Nat) : Int) := ineI (nI_toInt (by omega)) (nI_toInt (by omega)) c_24
                have hI_409 : ((v19 : Nat) : Int) ≠ (0 : Int) := ineI (nI_toInt (by omega)) rfl c_26
                have hI_410 : ((c_392 : Nat) : Int) < ((v5w398 : Nat) : Int) := iltI (nI_toInt (by omega)) (nI_toInt (by omega)) c_404
                have hZSw := ZSx.fin hW0 i1 b2 hZS hGI.1 hkn hb9 hV (hF.at i1 (by decide)) hZk.1 hZk.2
                rw [va_upJ, va_upJ] at hZSw
                have hZPw := ZP.mv hZP i6 i7 hF (by decide) (by decide)
                refine lv_aload_n hx hb dX13_close_108 rfl (lv_at hl 4 rfl) ?_
                refine lv_iload_n hx hb dX13_close_109 rfl (lv_at hl 5 rfl) ?_
                refine lv_iload hx hb dX13_close_110 (lv_at hl 1 rfl) ?_
                have hPc : va_P D vwCl ([(za, .inr (13, [.int 0, .ref z1, .int (nI z2), .int (nI z3), .int z4, .int z5, .ref z6, .ref z7, .ref z8, .ref z9, .int (nI z10), .ref z11, .ref z12, .ref z13, .ref z14, .ref z15, .int (nI z16), .ref z17, .int z18, .ref z19]))] ++ va_pl L M_401) H_402 := hP
                have hDc : va_D A ([(za, .inr (13, [.int 0, .ref z1, .int (nI z2), .int (nI z3), .int z4, .int z5, .ref z6, .ref z7, .ref z8, .ref z9, .int (nI z10), .ref z11, .ref z12, .ref z13, .ref z14, .ref z15, .int (nI z16), .ref z17, .int z18, .ref z19]))] ++ va_pl L M_401) := hD
                have hFc : ∀ q, va_A ([(za, .inr (13, [.int 0, .ref z1, .int (nI z2), .int (nI z3), .int z4, .int z5, .ref z6, .ref z7, .ref z8, .ref z9, .int (nI z10), .ref z11, .ref z12, .ref z13, .ref z14, .ref z15, .int (nI z16), .ref z17, .int z18, .ref z19]))] ++ va_pl L M_401) H_402.size q → A q := pg_free hDc hS hA
                refine va_calli (va_runV (As := [.int k1, .int (nI c_392)]) (rest := []) ⟨hx, hb, hml, hown, hg⟩ (z_behind l D cy K L M_401 H_402.size za 0 z1 z2 z3 z4 z5 z6 z7 z8 z9 z10 z11 z12 z13 z14 z15 z16 z17 z18 z19 k1 (nI c_392) SX SY PK PT  hW i1 b2 b3 i6 i7 i8 i9 b10 i11 i12 i13 i14 i15 b16 i17 i19 hZSw hZPw (by omega)) (cwV 2 hg (gV wd_853 wd_854 wd_855 wd_717 wd_856) rfl rfl rfl (by decide +kernel) ⟨(Nat.le_trans (Nat.le_of_ble_eq_true rfl) hRf), (Nat.le_trans (Nat.le_of_ble_eq_true rfl) hRl)⟩) ⟨PG.blind, va_recv hK hP (ci := 13) (q0 := 0) rfl rfl, fun U hU hW => ⟨rfl, PG.at hPc hK hDc hN hU hW⟩⟩ rfl rfl hl.1 rfl (lv_room (Nat.le_of_ble_eq_true rfl)) dX13_close_112 ⟨(Nat.le_trans (Nat.le_of_ble_eq_true rfl) hRc), (Nat.le_trans (Nat.le_of_ble_eq_true rfl) hRs)⟩) hS (fun q _ h => hFc q h) hFc (fun r_412 M_413 t H_411 locs ht hvm hw hB hz1 hk1 hS => ?_)
                have hp_414 := hw
                obtain ⟨hP1, hD1⟩ := hB
                rw [ht] at hP1
                have hP : va_P D vwCl ([(za, .inr (13, [.int 0, .ref z1, .int (nI z2), .int (nI z3), .int z4, .int z5, .ref z6, .ref z7, .ref z8, .ref z9, .int (nI z10), .ref z11, .ref z12, .ref z13, .ref z14, .ref z15, .int (nI z16), .ref z17, .int z18, .ref z19]))] ++ va_pl L M_401) H_411 := hP1
                have hD : va_D A ([(za, .inr (13, [.int 0, .ref z1, .int (nI z2), .int (nI z3), .int z4, .int z5, .ref z6, .ref z7, .ref z8, .ref z9, .int (nI z10), .ref z11, .ref z12, .ref z13, .ref z14, .ref z15, .int (nI z16), .ref z17, .int z18, .ref z19]))] ++ va_pl L M_401) := hD1.mono hFc
                rcases hp_414 with ⟨rfl, c_415⟩ | ⟨j_416, rfl, c_417, c_418, c_419, c_420⟩
                · have hz := rfl (a := 0)
                  refine lv_istore (lv' := [(5, .int (-1)), (4, .int (nI c_392)), (3, .int (nI (c_28 + 1))), (2, .ref b13), (0, .ref za), (1, .int k1)]) hx hb dX13_close_115 hl (by decide) rfl (fun ls hl => ?_)
                  refine lv_iload hx hb dX13_close_117 (lv_at hl 0 rfl) ?_
                  refine lv_iconst (v := (-1)) hx hb dX13_close_119 (by decide) ?_
                  refine lv_icmp_eq (tgt := 132) hx hb dX13_close_120 (by decide) (fun _ => ?_) (fun c_421 => absurd c_421 (by decide))
                  refine lv_aload_n hx hb dX13_close_132 rfl (lv_at hl 3 rfl) ?_
                  refine lv_iconst (v := 0) hx hb dX13_close_133 (by decide) ?_
                  refine pg_putN (D := D) (ci := 12) (v := .int 0) (ty := .int) (C := RX12) (T := TX12) (N := 51) hx hb hg inG12 tyX12 tyX12_ok nmX12 hown hK hP hD hS hb_15.1 hM_403 rfl 17 (by decide) (hN.use (Cond.fieldLinkNest RX13 256 RX12 "stretches" "I" RX13) 26 rfl rfl) (fun _ h9 => h9) rfl (by decide +kernel) rfl rfl (by rw [hn16]; decide) dX13_close_134 (fun H_422 locs hP hD hS => ?_)
                  have hs_425 : (fs16.set 17 (.int 0))[17]? = some (.int (nI 0)) := List.getElem?_set_self (by rw [hn16]; decide)
                  have hk_424 := fld12_set (k := 17) (w := .int 0) hl16 (show fld12 K L 17 (fs16.set 17 (.int 0)) from ⟨0, hs_425, by omega⟩)
                  have hn_426 : (fs16.set 17 (.int 0)).length = 51 := by rw [List.length_set]; exact hn16
                  have hv_427 : (fs16.set 17 (.int 0))[0]? = some (.int (nI v17)) := by rw [List.getElem?_set_ne (by decide)]; exact hv17
                  have hv_428 : (fs16.set 17 (.int 0))[1]? = some (.int (nI c_28)) := by rw [List.getElem?_set_ne (by decide)]; exact hv18
                  have hv_429 : (fs16.set 17 (.int 0))[11]? = some (.int (nI v19)) := by rw [List.getElem?_set_ne (by decide)]; exact hv19
                  have hv_430 : (fs16.set 17 (.int 0))[12]? = some (.int (nI v20)) := by rw [List.getElem?_set_ne (by decide)]; exact hv20
                  have hv_431 : (fs16.set 17 (.int 0))[13]? = some (.int (nI v21)) := by rw [List.getElem?_set_ne (by decide)]; exact hv21
                  have hv_432 : (fs16.set 17 (.int 0))[37]? = some (.ref v22) := by rw [List.getElem?_set_ne (by decide)]; exact hv22
                  have hb_433 : 0 ≤ 120 := by omega
                  obtain ⟨M_434, eM_434⟩ : ∃ M1 : Hp, M1 = va_up M_401 b13 (.inr (12, fs16.set 17 (.int 0))) := ⟨_, rfl⟩
                  have hV : VW K L M M_434 b13 (va_up (fx M b13) 17 (0 : Int)) (ax M b13) := by rw [eM_434]; exact hV.put hW hb_15 hM_403 hn16 rfl (by decide) rfl (by decide)
                  have hP : va_P D vwCl ([(za, .inr (13, [.int 0, .ref z1, .int (nI z2), .int (nI z3), .int z4, .int z5, .ref z6, .ref z7, .ref z8, .ref z9, .int (nI z10), .ref z11, .ref z12, .ref z13, .ref z14, .ref z15, .int (nI z16), .ref z17, .int z18, .ref z19]))] ++ va_pl L M_434) H_422 := by rw [eM_434]; exact hP
                  have hD : va_D A ([(za, .inr (13, [.int 0, .ref z1, .int (nI z2), .int (nI z3), .int z4, .int z5, .ref z6, .ref z7, .ref z8, .ref z9, .int (nI z10), .ref z11, .ref z12, .ref z13, .ref z14, .ref z15, .int (nI z16), .ref z17, .int z18, .ref z19]))] ++ va_pl L M_434) := by rw [eM_434]; exact hD
                  have hW : WOM cy K L M_434 := by rw [eM_434]; exact hW.up_12 hb_15 ⟨_, rfl, hn_426, hk_424⟩
                  have hF : fr K L [12, 14, 15, 32, 42, 45, 46, 79, 80, 81, 83] M M_434 := by rw [eM_434]; exact hF.up hb_15 (by decide)
                  have hG : fG K L [1, 7, 8, 13, 14, 15, 16, 17, 18] M M_434 := by rw [eM_434]; exact hG.up hM_403 (by decide)
                  have hM_435 : M_434 b13 = .inr (12, fs16.set 17 (.int 0)) := by rw [eM_434]; exact va_up_self _ _ _
                  refine lv_iconst (v := 0) hx hb dX13_close_137 (by decide) ?_
                  refine lv_istore (lv' := [(6, .int 0), (5, .int (-1)), (4, .int (nI c_392)), (3, .int (nI (c_28 + 1))), (2, .ref b13), (0, .ref za), (1, .int k1)]) hx hb dX13_close_138 hl (by decide) rfl (fun ls hl => ?_)
                  have key_436 : ∀ (fu_438 : Nat) (v6w439 : Nat) (M_441 : Hp) (H_442 : Heap) (locs : List Loc) (ls : Array Slot), 24 - v6w439 < fu_438 → M_441 b13 = .inr (12, fs16.set 17 (.int 0)) → v6w439 ≤ 24 → WOM cy K L M_441 → fr K L [12, 14, 15, 32, 42, 45, 46, 79, 80, 81, 83] M M_441 → fG K L [1, 7, 8, 13, 14, 15, 16, 17, 18] M M_441 → VW K L M M_441 b13 (va_up (fx M b13) 17 (0 : Int)) (ax M b13) → va_P D vwCl ([(za, .inr (13, [.int 0, .ref z1, .int (nI z2), .int (nI z3), .int z4, .int z5, .ref z6, .ref z7, .ref z8, .ref z9, .int (nI z10), .ref z11, .ref z12, .ref z13, .ref z14, .ref z15, .int (nI z16), .ref z17, .int z18, .ref z19]))] ++ va_pl L M_441) H_442 → va_D A ([(za, .inr (13, [.int 0, .ref z1, .int (nI z2), .int (nI z3), .int z4, .int z5, .ref z6, .ref z7, .ref z8, .ref z9, .int (nI z10), .ref z11, .ref z12, .ref z13, .ref z14, .ref z15, .int (nI z16), .ref z17, .int z18, .ref z19]))] ++ va_pl L M_441) → va_S A s.heap H_442 locs → lv_has ls 8 [(6, .int (nI v6w439)), (5, .int (-1)), (4, .int (nI c_392)), (3, .int (nI (c_28 + 1))), (2, .ref b13), (0, .ref za), (1, .int k1)] → W p l e R s m ([.ref za, .int k1] : List Value).toArray below meth c H_442 locs 0 0 Q (F0 m 140 ls []) := by
                    intro fu_438
                    induction fu_438 with
                    | zero => intro v6w439 M_441 H_442 locs ls h; exact absurd h (Nat.not_lt_zero _)
                    | succ fu_438 ih_437 =>
                      intro v6w439 M_441 H_442 locs ls hfu hM_443 hx_440 hW hF hG hV hP hD hS hl
                      refine lv_iload hx hb dX13_close_140 (lv_at hl 0 rfl) ?_
                      refine lv_bipush (v := 24) hx hb dX13_close_142 (by decide) ?_
                      refine lv_icmp_ge (tgt := 161) hx hb dX13_close_144 (by decide) (fun c_444 => ?_) (fun c_444 => ?_)
                      · have hz := rfl (a := 0)
                        have n_445 : 24 ≤ v6w439 := (iLE (a := 24) (b := v6w439) (by omega) (by omega)).mp c_444
                        refine lv_iload_n hx hb dX13_close_161 rfl (lv_at hl 3 rfl) ?_
                        refine lv_istore (lv' := [(6, .int (nI (c_28 + 1))), (5, .int (-1)), (4, .int (nI c_392)), (3, .int (nI (c_28 + 1))), (2, .ref b13), (0, .ref za), (1, .int k1)]) hx hb dX13_close_162 hl (by decide) rfl (fun ls hl => ?_)
                        have key_446 : ∀ (fu_448 : Nat) (v6w449 : Nat) (gnw449 : Nat) (gpw449 : Nat → Int32) (gqw449 : Nat → Int32) (M_452 : Hp) (H_453 : Heap) (locs : List Loc) (ls : Array Slot), 1001 - v6w449 < fu_448 → v6w449 ≤ c_392 + 1 → SD (c_28 + 1) gnw449 v6w449 gpw449 gqw449 → WOM cy K L M_452 → fr K L [12, 14, 15, 32, 42, 45, 46, 79, 80, 81, 83] M M_452 → fG K L [1, 7, 8, 13, 14, 15, 16, 17, 18] M M_452 → VW K L M M_452 b13 (va_up (fx M b13) 17 ((gnw449 : Nat) : Int)) (va_up (va_up (ax M b13) 44 gpw449) 45 gqw449) → va_P D vwCl ([(za, .inr (13, [.int 0, .ref z1, .int (nI z2), .int (nI z3), .int z4, .int z5, .ref z6, .ref z7, .ref z8, .ref z9, .int (nI z10), .ref z11, .ref z12, .ref z13, .ref z14, .ref z15, .int (nI z16), .ref z17, .int z18, .ref z19]))] ++ va_pl L M_452) H_453 → va_D A ([(za, .inr (13, [.int 0, .ref z1, .int (nI z2), .int (nI z3), .int z4, .int z5, .ref z6, .ref z7, .ref z8, .ref z9, .int (nI z10), .ref z11, .ref z12, .ref z13, .ref z14, .ref z15, .int (nI z16), .ref z17, .int z18, .ref z19]))] ++ va_pl L M_452) → va_S A s.heap H_453 locs → lv_has ls 8 [(6, .int (nI v6w449)), (5, .int (-1)), (4, .int (nI c_392)), (3, .int (nI (c_28 + 1))), (2, .ref b13), (0, .ref za), (1, .int k1)] → W p l e R s m ([.ref za, .int k1] : List Value).toArray below meth c H_453 locs 0 0 Q (F0 m 164 ls []) := by
                          intro fu_448
                          induction fu_448 with
                          | zero => intro v6w449 gnw449 gpw449 gqw449 M_452 H_453 locs ls h; exact absurd h (Nat.not_lt_zero _)
                          | succ fu_448 ih_447 =>
                            intro v6w449 gnw449 gpw449 gqw449 M_452 H_453 locs ls hfu hx_450 hx_451 hW hF hG hV hP hD hS hl
                            refine lv_iload hx hb dX13_close_164 (lv_at hl 0 rfl) ?_
                            refine lv_iload hx hb dX13_close_166 (lv_at hl 2 rfl) ?_
                            refine lv_icmp_gt (tgt := 238) hx hb dX13_close_168 (by decide) (fun c_454 => ?_) (fun c_454 => ?_)
                            · have hz := rfl (a := 0)
                              have n_455 : c_392 < v6w449 := (iLT (a := c_392) (b := v6w449) (by omega) (by omega)).mp c_454
                              obtain ⟨fs456, hM456, hn456, hl456⟩ := hW.open_12 hb_15
                              obtain ⟨v457, hv457, hc457⟩ : ∃ v : Nat, fs456[17]? = some (.int (nI v) : Value) ∧ v ≤ 120 := hl456 17 (by decide)
                              have hx17 : ((gnw449 : Nat) : Int) = ((v457 : Nat) : Int) := (congrFun hV.2.1 17).symm.trans ((fx_of hM456 rfl hv457).trans (nI_toInt (by omega)))
                              have hSD := hx_451
                              obtain ⟨hs1, hs2, hs3, hs4⟩ := hx_451
                              have hNn : 1 ≤ gnw449 ∧ 1 ≤ (gqw449 0).toInt := by rcases hs3 with q | q <;> first | exact q | omega
                              have hN1 := hNn.1
                              have hs45 := hNn.2
                              refine lv_aload_n hx hb dX13_close_238 rfl (lv_at hl 4 rfl) ?_
                              refine pg_getN (D := D) (ci := 12) (v := .int (nI v457)) (C := RX12) (T := TX12) (N := 51) hx hb hg inG12 hown hK hP hb_15.1 hM456 rfl 17 (by decide) (hN.use (Cond.fieldLinkNest RX13 256 RX12 "stretches" "I" RX13) 26 rfl rfl) (fun _ h9 => h9) hv457 dX13_close_239 ?_
                              refine lv_istore (lv' := [(6, .int (nI v457)), (5, .int (-1)), (4, .int (nI c_392)), (3, .int (nI (c_28 + 1))), (2, .ref b13), (0, .ref za), (1, .int k1)]) hx hb dX13_close_242 hl (by decide) rfl (fun ls hl => ?_)
                              refine lv_aload_n hx hb dX13_close_244 rfl (lv_at hl 5 rfl) ?_
                              refine lv_aload_n hx hb dX13_close_245 rfl (lv_at hl 4 rfl) ?_
                              refine lv_iload hx hb dX13_close_246 (lv_at hl 0 rfl) ?_
                              have hPc : va_P D vwCl ([(za, .inr (13, [.int 0, .ref z1, .int (nI z2), .int (nI z3), .int z4, .int z5, .ref z6, .ref z7, .ref z8, .ref z9, .int (nI z10), .ref z11, .ref z12, .ref z13, .ref z14, .ref z15, .int (nI z16), .ref z17, .int z18, .ref z19]))] ++ va_pl L M_452) H_453 := hP
                              have hDc : va_D A ([(za, .inr (13, [.int 0, .ref z1, .int (nI z2), .int (nI z3), .int z4, .int z5, .ref z6, .ref z7, .ref z8, .ref z9, .int (nI z10), .ref z11, .ref z12, .ref z13, .ref z14, .ref z15, .int (nI z16), .ref z17, .int z18, .ref z19]))] ++ va_pl L M_452) := hD
                              have hFc : ∀ q, va_A ([(za, .inr (13, [.int 0, .ref z1, .int (nI z2), .int (nI z3), .int z4, .int z5, .ref z6, .ref z7, .ref z8, .ref z9, .int (nI z10), .ref z11, .ref z12, .ref z13, .ref z14, .ref z15, .int (nI z16), .ref z17, .int z18, .ref z19]))] ++ va_pl L M_452) H_453.size q → A q := pg_free hDc hS hA
                              refine va_callv (va_runV (As := [.ref b13, .int (nI v457)]) (rest := []) ⟨hx, hb, hml, hown, hg⟩ (g_X13_looses l D cy K L M_452 H_453.size za 0 z1 z2 z3 z4 z5 z6 z7 z8 z9 z10 z11 z12 z13 z14 z15 z16 z17 z18 z19 b13 v457  hW i1 b2 b3 i6 i7 i8 i9 b10 i11 i12 i13 i14 i15 b16 i17 i19 hb_15 (by omega) hV.2.2.2 (by omega) (by rw [hV.2.2.1]; exact hs45)) (cwV 2 hg (gV wd_857 wd_858 wd_859 wd_717 wd_860) rfl rfl rfl (by decide +kernel) ⟨(Nat.le_trans (Nat.le_of_ble_eq_true rfl) hRf), (Nat.le_trans (Nat.le_of_ble_eq_true rfl) hRl)⟩) ⟨PG.blind, va_recv hK hP (ci := 13) (q0 := 0) rfl rfl, fun U hU hW => ⟨rfl, PG.at hPc hK hDc hN hU hW⟩⟩ rfl rfl hl.1 rfl (lv_room (Nat.le_of_ble_eq_true rfl)) dX13_close_248 ⟨(Nat.le_trans (Nat.le_of_ble_eq_true rfl) hRc), (Nat.le_trans (Nat.le_of_ble_eq_true rfl) hRs)⟩) hS (fun q _ h => hFc q h) hFc (fun M_460 t H_458 locs ht hvm hw hB hz1 hk1 hS => ?_)
                              have hWb := hW
                              obtain ⟨hW, hF2, hG2, hp_461⟩ := hw
                              obtain ⟨hP1, hD1⟩ := hB
                              rw [ht] at hP1
                              have hP : va_P D vwCl ([(za, .inr (13, [.int 0, .ref z1, .int (nI z2), .int (nI z3), .int z4, .int z5, .ref z6, .ref z7, .ref z8, .ref z9, .int (nI z10), .ref z11, .ref z12, .ref z13, .ref z14, .ref z15, .int (nI z16), .ref z17, .int z18, .ref z19]))] ++ va_pl L M_460) H_458 := hP1
                              have hD : va_D A ([(za, .inr (13, [.int 0, .ref z1, .int (nI z2), .int (nI z3), .int z4, .int z5, .ref z6, .ref z7, .ref z8, .ref z9, .int (nI z10), .ref z11, .ref z12, .ref z13, .ref z14, .ref z15, .int (nI z16), .ref z17, .int z18, .ref z19]))] ++ va_pl L M_460) := hD1.mono hFc
                              have hM_462 : M_460 b13 = .inr (12, fs456) := (hF2.at hb_15 (by decide)).trans hM456
                              have hF : fr K L [12, 14, 15, 32, 42, 45, 46, 79, 80, 81, 83] M M_460 := hF.tr hF2 (by decide)
                              have hG : fG K L [1, 7, 8, 13, 14, 15, 16, 17, 18] M M_460 := hG.tr hWb hG2 (by decide)
                              have hV : VW K L M M_460 b13 (va_up (fx M b13) 17 ((gnw449 : Nat) : Int)) (va_up (va_up (ax M b13) 44 gpw449) 45 gqw449) := hV.cal hWb hW hF2 hG2 (by decide) (by decide) hb_15
                              refine lv_iconst (v := 0) hx hb dX13_close_251 (by decide) ?_
                              refine lv_istore (lv' := [(7, .int 0), (6, .int (nI v457)), (5, .int (-1)), (4, .int (nI c_392)), (3, .int (nI (c_28 + 1))), (2, .ref b13), (0, .ref za), (1, .int k1)]) hx hb dX13_close_252 hl (by decide) rfl (fun ls hl => ?_)
                              have key_463 : ∀ (fu_465 : Nat) (v7w466 : Nat) (zgw466 : Nat) (M_469 : Hp) (H_470 : Heap) (locs : List Loc) (ls : Array Slot), 1001 - v7w466 < fu_465 → v7w466 ≤ v457 → zgw466 ≤ 24 → WOM cy K L M_469 → fr K L [12, 14, 15, 32, 42, 45, 46, 79, 80, 81, 83] M M_469 → fG K L [1, 7, 8, 13, 14, 15, 16, 17, 18] M M_469 → VW K L M M_469 b13 (va_up (fx M b13) 17 ((gnw449 : Nat) : Int)) (va_up (va_up (ax M b13) 44 gpw449) 45 gqw449) → va_P D vwCl ([(za, .inr (13, [.int 0, .ref z1, .int (nI z2), .int (nI z3), .int z4, .int z5, .ref z6, .ref z7, .ref z8, .ref z9, .int (nI z10), .ref z11, .ref z12, .ref z13, .ref z14, .ref z15, .int (nI zgw466), .ref z17, .int z18, .ref z19]))] ++ va_pl L M_469) H_470 → va_D A ([(za, .inr (13, [.int 0, .ref z1, .int (nI z2), .int (nI z3), .int z4, .int z5, .ref z6, .ref z7, .ref z8, .ref z9, .int (nI z10), .ref z11, .ref z12, .ref z13, .ref z14, .ref z15, .int (nI zgw466), .ref z17, .int z18, .ref z19]))] ++ va_pl L M_469) → va_S A s.heap H_470 locs → lv_has ls 8 [(7, .int (nI v7w466)), (6, .int (nI v457)), (5, .int (-1)), (4, .int (nI c_392)), (3, .int (nI (c_28 + 1))), (2, .ref b13), (0, .ref za), (1, .int k1)] → W p l e R s m ([.ref za, .int k1] : List Value).toArray below meth c H_470 locs 0 0 Q (F0 m 254 ls []) := by
                                intro fu_465
                                induction fu_465 with
                                | zero => intro v7w466 zgw466 M_469 H_470 locs ls h; exact absurd h (Nat.not_lt_zero _)
                                | succ fu_465 ih_464 =>
                                  intro v7w466 zgw466 M_469 H_470 locs ls hfu hx_467 hx_468 hW hF hG hV hP hD hS hl
                                  refine lv_iload hx hb dX13_close_254 (lv_at hl 0 rfl) ?_
                                  refine lv_iload hx hb dX13_close_256 (lv_at hl 1 rfl) ?_
                                  refine lv_icmp_ge (tgt := 275) hx hb dX13_close_258 (by decide) (fun c_471 => ?_) (fun c_471 => ?_)
                                  · have hz := rfl (a := 0)
                                    have n_472 : v457 ≤ v7w466 := (iLE (a := v457) (b := v7w466) (by omega) (by omega)).mp c_471
                                    refine lv_iconst (v := 0) hx hb dX13_close_275 (by decide) ?_
                                    refine lv_istore (lv' := [(7, .int 0), (6, .int (nI v457)), (5, .int (-1)), (4, .int (nI c_392)), (3, .int (nI (c_28 + 1))), (2, .ref b13), (0, .ref za), (1, .int k1)]) hx hb dX13_close_276 hl (by decide) rfl (fun ls hl => ?_)
                                    have key_473 : ∀ (fu_475 : Nat) (v7w476 : Nat) (zgw476 : Nat) (gnw476 : Nat) (gpw476 : Nat → Int32) (gqw476 : Nat → Int32) (M_480 : Hp) (H_481 : Heap) (locs : List Loc) (ls : Array Slot), 24 - v7w476 < fu_475 → v7w476 ≤ 20 → zgw476 ≤ 24 → gnw476 ≤ 100 + v7w476 → WOM cy K L M_480 → fr K L [12, 14, 15, 32, 42, 45, 46, 79, 80, 81, 83] M M_480 → fG K L [1, 7, 8, 13, 14, 15, 16, 17, 18] M M_480 → VW K L M M_480 b13 (va_up (fx M b13) 17 ((gnw476 : Nat) : Int)) (va_up (va_up (ax M b13) 44 gpw476) 45 gqw476) → va_P D vwCl ([(za, .inr (13, [.int 0, .ref z1, .int (nI z2), .int (nI z3), .int z4, .int z5, .ref z6, .ref z7, .ref z8, .ref z9, .int (nI z10), .ref z11, .ref z12, .ref z13, .ref z14, .ref z15, .int (nI zgw476), .ref z17, .int z18, .ref z19]))] ++ va_pl L M_480) H_481 → va_D A ([(za, .inr (13, [.int 0, .ref z1, .int (nI z2), .int (nI z3), .int z4, .int z5, .ref z6, .ref z7, .ref z8, .ref z9, .int (nI z10), .ref z11, .ref z12, .ref z13, .ref z14, .ref z15, .int (nI zgw476), .ref z17, .int z18, .ref z19]))] ++ va_pl L M_480) → va_S A s.heap H_481 locs → lv_has ls 8 [(7, .int (nI v7w476)), (6, .int (nI v457)), (5, .int (-1)), (4, .int (nI c_392)), (3, .int (nI (c_28 + 1))), (2, .ref b13), (0, .ref za), (1, .int k1)] → W p l e R s m ([.ref za, .int k1] : List Value).toArray below meth c H_481 locs 0 0 Q (F0 m 278 ls []) := by
                                      intro fu_475
                                      induction fu_475 with
                                      | zero => intro v7w476 zgw476 gnw476 gpw476 gqw476 M_480 H_481 locs ls h; exact absurd h (Nat.not_lt_zero _)
                                      | succ fu_475 ih_474 =>
                                        intro v7w476 zgw476 gnw476 gpw476 gqw476 M_480 H_481 locs ls hfu hx_477 hx_478 hx_479 hW hF hG hV hP hD hS hl
                                        refine lv_iload hx hb dX13_close_278 (lv_at hl 0 rfl) ?_
                                        refine lv_aload_n hx hb dX13_close_280 rfl (lv_at hl 5 rfl) ?_
                                        obtain ⟨fs482, hM482, hn482, hl482⟩ := hW.open_12 hb_15
                                        obtain ⟨v483, hv483, hc483⟩ : ∃ v : Nat, fs482[15]? = some (.int (nI v) : Value) ∧ v ≤ 20 := hl482 15 (by decide)
                                        refine pg_getN (D := D) (ci := 12) (v := .int (nI v483)) (C := RX12) (T := TX12) (N := 51) hx hb hg inG12 hown hK hP hb_15.1 hM482 rfl 15 (by decide) (hN.use (Cond.fieldLinkNest RX13 279 RX12 "mends" "I" RX13) 24 rfl rfl) (fun _ h9 => h9) hv483 dX13_close_281 ?_
                                        refine lv_icmp_ge (tgt := 300) hx hb dX13_close_284 (by decide) (fun c_484 => ?_) (fun c_484 => ?_)
                                        · have hz := rfl (a := 0)
                                          have n_485 : v483 ≤ v7w476 := (iLE (a := v483) (b := v7w476) (by omega) (by omega)).mp c_484
                                          refine lv_aload_n hx hb dX13_close_300 rfl (lv_at hl 5 rfl) ?_
                                          refine lv_iload_n hx hb dX13_close_301 rfl (lv_at hl 4 rfl) ?_
                                          refine lv_iload hx hb dX13_close_302 (lv_at hl 3 rfl) ?_
                                          have hPc : va_P D vwCl ([] ++ va_pl L M_480) H_481 := hP.part (cx := []) [] rfl
                                          have hDc : va_D A ([] ++ va_pl L M_480) := hD.part (cx := []) [] (by decide) rfl
                                          have hFc : ∀ q, va_A ([] ++ va_pl L M_480) H_481.size q → A q := pg_free hDc hS hA
                                          refine va_callv (va_runS (As := [.ref b13, .int (nI (c_28 + 1)), .int (nI c_392)]) (rest := []) ⟨hx, hb, hml, hown, hg⟩ (r_settled2 l D cy K L M_480 H_481.size b13 (nI (c_28 + 1)) (nI c_392)  hW hb_15 hV.2.2.2) (va_cwS 3 hg (gS wd_861 wd_862 wd_717 wd_863) rfl rfl rfl (by decide +kernel) ⟨(Nat.le_trans (Nat.le_of_ble_eq_true rfl) hRf), (Nat.le_trans (Nat.le_of_ble_eq_true rfl) hRl)⟩) ⟨PG.blind, fun U hU hW => ⟨rfl, PG.at hPc hK hDc hN hU hW⟩⟩ rfl rfl hl.1 rfl (lv_room (Nat.le_of_ble_eq_true rfl)) dX13_close_304 ⟨(Nat.le_trans (Nat.le_of_ble_eq_true rfl) hRc), (Nat.le_trans (Nat.le_of_ble_eq_true rfl) hRs)⟩) hS (fun q _ h => hFc q h) hFc (fun M_488 t H_486 locs ht hvm hw hB hz1 hk1 hS => ?_)
                                          have hWb := hW
                                          obtain ⟨hW, hF2, hG2, hVP, hp_489⟩ := hw
                                          obtain ⟨hP1, hD1⟩ := hB
                                          rw [ht] at hP1
                                          obtain ⟨hP, hD⟩ := va_joinP (X := [(za, .inr (13, [.int 0, .ref z1, .int (nI z2), .int (nI z3), .int z4, .int z5, .ref z6, .ref z7, .ref z8, .ref z9, .int (nI z10), .ref z11, .ref z12, .ref z13, .ref z14, .ref z15, .int (nI zgw476), .ref z17, .int z18, .ref z19]))]) (cx := []) (wr := [(za, .inr (13, [.int 0, .ref z1, .int (nI z2), .int (nI z3), .int z4, .int z5, .ref z6, .ref z7, .ref z8, .ref z9, .int (nI z10), .ref z11, .ref z12, .ref z13, .ref z14, .ref z15, .int (nI zgw476), .ref z17, .int z18, .ref z19]))]) (rx := []) (pl := va_pl L M_480) (pl1 := va_pl L M_488) hP hD [] [0] rfl rfl (by decide) (by decide) hk1 hFc hP1 hD1
                                          have hP : va_P D vwCl ([(za, .inr (13, [.int 0, .ref z1, .int (nI z2), .int (nI z3), .int z4, .int z5, .ref z6, .ref z7, .ref z8, .ref z9, .int (nI z10), .ref z11, .ref z12, .ref z13, .ref z14, .ref z15, .int (nI zgw476), .ref z17, .int z18, .ref z19]))] ++ va_pl L M_488) H_486 := hP
                                          have hD : va_D A ([(za, .inr (13, [.int 0, .ref z1, .int (nI z2), .int (nI z3), .int z4, .int z5, .ref z6, .ref z7, .ref z8, .ref z9, .int (nI z10), .ref z11, .ref z12, .ref z13, .ref z14, .ref z15, .int (nI zgw476), .ref z17, .int z18, .ref z19]))] ++ va_pl L M_488) := hD
                                          obtain ⟨fs490, hM490, hn490, hl490⟩ := hW.open_12 hb_15
                                          have hv_491 : fs490[15]? = some (.int (nI v483) : Value) := (hG2 _ hb_15 _ _ hM482 hM490 15 (by decide)).trans hv483
                                          have hF : fr K L [12, 14, 15, 32, 42, 45, 46, 79, 80, 81, 83] M M_488 := hF.tr hF2 (by decide)
                                          have hG : fG K L [1, 7, 8, 13, 14, 15, 16, 17, 18] M M_488 := hG.tr hWb hG2 (by decide)
                                          obtain ⟨n_492, p_493, q_494, r_495, n_496, h8, hle8, htr8, hV2⟩ := hVP
                                          rw [hV.2.1] at h8
                                          rw [hV.2.2.1] at htr8
                                          rw [hV.2.1, hV.2.2.1] at hV2
                                          have hn14 : (0 : Int) ≤ ((n_492 : Nat) : Int) := by omega
                                          have hV : VW K L M M_488 b13 (va_up (va_up (fx M b13) 17 ((gnw476 : Nat) : Int)) 14 ((n_492 : Nat) : Int)) (va_up (va_up (va_up (va_up (va_up (ax M b13) 44 gpw476) 45 gqw476) 38 p_493) 39 q_494) 40 r_495) := hV.tr hV2
                                          have h8s : fx M b13 14 = ((n_496 : Nat) : Int) := h8
                                          refine lv_aload_n hx hb dX13_close_307 rfl (lv_at hl 5 rfl) ?_
                                          refine lv_lconst (v := 0) hx hb dX13_close_308 (by decide) ?_
                                          refine pg_putN (D := D) (ci := 12) (v := .long 0) (ty := .long) (C := RX12) (T := TX12) (N := 51) hx hb hg inG12 tyX12 tyX12_ok nmX12 hown hK hP hD hS hb_15.1 hM490 rfl 7 (by decide) (hN.use (Cond.fieldLinkNest RX13 179 RX12 "loose" "J" RX13) 16 rfl rfl) (fun _ h9 => h9) rfl (by decide +kernel) rfl rfl (by rw [hn490]; decide) dX13_close_309 (fun H_497 locs hP hD hS => ?_)
                                          have hs_500 : (fs490.set 7 (.long 0))[7]? = some (.long 0) := List.getElem?_set_self (by rw [hn490]; decide)
                                          have hk_499 := fld12_set (k := 7) (w := .long 0) hl490 (show fld12 K L 7 (fs490.set 7 (.long 0)) from ⟨0, hs_500⟩)
                                          have hn_501 : (fs490.set 7 (.long 0)).length = 51 := by rw [List.length_set]; exact hn490
                                          have hv_502 : (fs490.set 7 (.long 0))[15]? = some (.int (nI v483)) := by rw [List.getElem?_set_ne (by decide)]; exact hv_491
                                          obtain ⟨M_503, eM_503⟩ : ∃ M1 : Hp, M1 = va_up M_488 b13 (.inr (12, fs490.set 7 (.long 0))) := ⟨_, rfl⟩
                                          have hV : VW K L M M_503 b13 (va_up (va_up (fx M b13) 17 ((gnw476 : Nat) : Int)) 14 ((n_492 : Nat) : Int)) (va_up (va_up (va_up (va_up (va_up (ax M b13) 44 gpw476) 45 gqw476) 38 p_493) 39 q_494) 40 r_495) := by rw [eM_503]; exact hV.put0 hW hb_15 hM490 rfl rfl
                                          have hP : va_P D vwCl ([(za, .inr (13, [.int 0, .ref z1, .int (nI z2), .int (nI z3), .int z4, .int z5, .ref z6, .ref z7, .ref z8, .ref z9, .int (nI z10), .ref z11, .ref z12, .ref z13, .ref z14, .ref z15, .int (nI zgw476), .ref z17, .int z18, .ref z19]))] ++ va_pl L M_503) H_497 := by rw [eM_503]; exact hP
                                          have hD : va_D A ([(za, .inr (13, [.int 0, .ref z1, .int (nI z2), .int (nI z3), .int z4, .int z5, .ref z6, .ref z7, .ref z8, .ref z9, .int (nI z10), .ref z11, .ref z12, .ref z13, .ref z14, .ref z15, .int (nI zgw476), .ref z17, .int z18, .ref z19]))] ++ va_pl L M_503) := by rw [eM_503]; exact hD
                                          have hW : WOM cy K L M_503 := by rw [eM_503]; exact hW.up_12 hb_15 ⟨_, rfl, hn_501, hk_499⟩
                                          have hF : fr K L [12, 14, 15, 32, 42, 45, 46, 79, 80, 81, 83] M M_503 := by rw [eM_503]; exact hF.up hb_15 (by decide)
                                          have hG : fG K L [1, 7, 8, 13, 14, 15, 16, 17, 18] M M_503 := by rw [eM_503]; exact hG.up hM490 (by decide)
                                          have hM_504 : M_503 b13 = .inr (12, fs490.set 7 (.long 0)) := by rw [eM_503]; exact va_up_self _ _ _
                                          refine lv_aload_n hx hb dX13_close_312 rfl (lv_at hl 5 rfl) ?_
                                          refine lv_iconst (v := 0) hx hb dX13_close_313 (by decide) ?_
                                          refine pg_putN (D := D) (ci := 12) (v := .int 0) (ty := .int) (C := RX12) (T := TX12) (N := 51) hx hb hg inG12 tyX12 tyX12_ok nmX12 hown hK hP hD hS hb_15.1 hM_504 rfl 15 (by decide) (hN.use (Cond.fieldLinkNest RX13 279 RX12 "mends" "I" RX13) 24 rfl rfl) (fun _ h9 => h9) rfl (by decide +kernel) rfl rfl (by rw [hn_501]; decide) dX13_close_314 (fun H_505 locs hP hD hS => ?_)
                                          have hs_508 : ((fs490.set 7 (.long 0)).set 15 (.int 0))[15]? = some (.int (nI 0)) := List.getElem?_set_self (by rw [hn_501]; decide)
                                          have hk_507 := fld12_set (k := 15) (w := .int 0) hk_499 (show fld12 K L 15 ((fs490.set 7 (.long 0)).set 15 (.int 0)) from ⟨0, hs_508, by omega⟩)
                                          have hn_509 : ((fs490.set 7 (.long 0)).set 15 (.int 0)).length = 51 := by rw [List.length_set]; exact hn_501
                                          have hv_510 : ((fs490.set 7 (.long 0)).set 15 (.int 0))[7]? = some (.long 0) := by rw [List.getElem?_set_ne (by decide)]; exact hs_500
                                          have hb_511 : 0 ≤ 20 := by omega
                                          obtain ⟨M_512, eM_512⟩ : ∃ M1 : Hp, M1 = va_up M_503 b13 (.inr (12, (fs490.set 7 (.long 0)).set 15 (.int 0))) := ⟨_, rfl⟩
                                          have hx15 : (fx M b13 15) = ((v483 : Nat) : Int) := (congrFun hV.2.1 15).symm.trans ((fx_of hM_504 rfl hv_502).trans (nI_toInt (by omega)))
                                          have hV : VW K L M M_512 b13 (va_up (va_up (va_up (fx M b13) 17 ((gnw476 : Nat) : Int)) 14 ((n_492 : Nat) : Int)) 15 (0 : Int)) (va_up (va_up (va_up (va_up (va_up (ax M b13) 44 gpw476) 45 gqw476) 38 p_493) 39 q_494) 40 r_495) := by rw [eM_512]; exact hV.put hW hb_15 hM_504 hn_501 rfl (by decide) rfl (by decide)
                                          have hP : va_P D vwCl ([(za, .inr (13, [.int 0, .ref z1, .int (nI z2), .int (nI z3), .int z4, .int z5, .ref z6, .ref z7, .ref z8, .ref z9, .int (nI z10), .ref z11, .ref z12, .ref z13, .ref z14, .ref z15, .int (nI zgw476), .ref z17, .int z18, .ref z19]))] ++ va_pl L M_512) H_505 := by rw [eM_512]; exact hP
                                          have hD : va_D A ([(za, .inr (13, [.int 0, .ref z1, .int (nI z2), .int (nI z3), .int z4, .int z5, .ref z6, .ref z7, .ref z8, .ref z9, .int (nI z10), .ref z11, .ref z12, .ref z13, .ref z14, .ref z15, .int (nI zgw476), .ref z17, .int z18, .ref z19]))] ++ va_pl L M_512) := by rw [eM_512]; exact hD
                                          have hW : WOM cy K L M_512 := by rw [eM_512]; exact hW.up_12 hb_15 ⟨_, rfl, hn_509, hk_507⟩
                                          have hF : fr K L [12, 14, 15, 32, 42, 45, 46, 79, 80, 81, 83] M M_512 := by rw [eM_512]; exact hF.up hb_15 (by decide)
                                          have hG : fG K L [1, 7, 8, 13, 14, 15, 16, 17, 18] M M_512 := by rw [eM_512]; exact hG.up hM_504 (by decide)
                                          have hM_513 : M_512 b13 = .inr (12, (fs490.set 7 (.long 0)).set 15 (.int 0)) := by rw [eM_512]; exact va_up_self _ _ _
                                          refine lv_aload_n hx hb dX13_close_317 rfl (lv_at hl 5 rfl) ?_
                                          refine lv_iconst (v := 0) hx hb dX13_close_318 (by decide) ?_
                                          refine pg_putN (D := D) (ci := 12) (v := .int 0) (ty := .int) (C := RX12) (T := TX12) (N := 51) hx hb hg inG12 tyX12 tyX12_ok nmX12 hown hK hP hD hS hb_15.1 hM_513 rfl 16 (by decide) (hN.use (Cond.fieldLinkNest RX13 161 RX12 "undone" "I" RX13) 25 rfl rfl) (fun _ h9 => h9) rfl (by decide +kernel) rfl rfl (by rw [hn_509]; decide) dX13_close_319 (fun H_514 locs hP hD hS => ?_)
                                          have hs_517 : (((fs490.set 7 (.long 0)).set 15 (.int 0)).set 16 (.int 0))[16]? = some (.int (nI 0)) := List.getElem?_set_self (by rw [hn_509]; decide)
                                          have hk_516 := fld12_set (k := 16) (w := .int 0) hk_507 (show fld12 K L 16 (((fs490.set 7 (.long 0)).set 15 (.int 0)).set 16 (.int 0)) from ⟨0, hs_517, by omega⟩)
                                          have hn_518 : (((fs490.set 7 (.long 0)).set 15 (.int 0)).set 16 (.int 0)).length = 51 := by rw [List.length_set]; exact hn_509
                                          have hv_519 : (((fs490.set 7 (.long 0)).set 15 (.int 0)).set 16 (.int 0))[7]? = some (.long 0) := by rw [List.getElem?_set_ne (by decide)]; exact hv_510
                                          have hv_520 : (((fs490.set 7 (.long 0)).set 15 (.int 0)).set 16 (.int 0))[15]? = some (.int (nI 0)) := by rw [List.getElem?_set_ne (by decide)]; exact hs_508
                                          have hb_521 : 0 ≤ 60 := by omega
                                          obtain ⟨M_522, eM_522⟩ : ∃ M1 : Hp, M1 = va_up M_512 b13 (.inr (12, ((fs490.set 7 (.long 0)).set 15 (.int 0)).set 16 (.int 0))) := ⟨_, rfl⟩
                                          have hV : VW K L M M_522 b13 (va_up (va_up (va_up (va_up (fx M b13) 17 ((gnw476 : Nat) : Int)) 14 ((n_492 : Nat) : Int)) 15 (0 : Int)) 16 (0 : Int)) (va_up (va_up (va_up (va_up (va_up (ax M b13) 44 gpw476) 45 gqw476) 38 p_493) 39 q_494) 40 r_495) := by rw [eM_522]; exact hV.put hW hb_15 hM_513 hn_509 rfl (by decide) rfl (by decide)
                                          have hP : va_P D vwCl ([(za, .inr (13, [.int 0, .ref z1, .int (nI z2), .int (nI z3), .int z4, .int z5, .ref z6, .ref z7, .ref z8, .ref z9, .int (nI z10), .ref z11, .ref z12, .ref z13, .ref z14, .ref z15, .int (nI zgw476), .ref z17, .int z18, .ref z19]))] ++ va_pl L M_522) H_514 := by rw [eM_522]; exact hP
                                          have hD : va_D A ([(za, .inr (13, [.int 0, .ref z1, .int (nI z2), .int (nI z3), .int z4, .int z5, .ref z6, .ref z7, .ref z8, .ref z9, .int (nI z10), .ref z11, .ref z12, .ref z13, .ref z14, .ref z15, .int (nI zgw476), .ref z17, .int z18, .ref z19]))] ++ va_pl L M_522) := by rw [eM_522]; exact hD
                                          have hW : WOM cy K L M_522 := by rw [eM_522]; exact hW.up_12 hb_15 ⟨_, rfl, hn_518, hk_516⟩
                                          have hF : fr K L [12, 14, 15, 32, 42, 45, 46, 79, 80, 81, 83] M M_522 := by rw [eM_522]; exact hF.up hb_15 (by decide)
                                          have hG : fG K L [1, 7, 8, 13, 14, 15, 16, 17, 18] M M_522 := by rw [eM_522]; exact hG.up hM_513 (by decide)
                                          have hM_523 : M_522 b13 = .inr (12, ((fs490.set 7 (.long 0)).set 15 (.int 0)).set 16 (.int 0)) := by rw [eM_522]; exact va_up_self _ _ _
                                          refine lv_aload_n hx hb dX13_close_322 rfl (lv_at hl 5 rfl) ?_
                                          refine lv_iload hx hb dX13_close_323 (lv_at hl 3 rfl) ?_
                                          refine pg_putN (D := D) (ci := 12) (v := .int (nI c_392)) (ty := .int) (C := RX12) (T := TX12) (N := 51) hx hb hg inG12 tyX12 tyX12_ok nmX12 hown hK hP hD hS hb_15.1 hM_523 rfl 1 (by decide) (hN.use (Cond.fieldLinkNest RX13 80 RX12 "to" "I" RX13) 10 rfl rfl) (fun _ h9 => h9) rfl (by decide +kernel) rfl rfl (by rw [hn_518]; decide) dX13_close_325 (fun H_524 locs hP hD hS => ?_)
                                          have hs_527 : ((((fs490.set 7 (.long 0)).set 15 (.int 0)).set 16 (.int 0)).set 1 (.int (nI c_392)))[1]? = some (.int (nI c_392)) := List.getElem?_set_self (by rw [hn_518]; decide)
                                          have hk_526 := fld12_set (k := 1) (w := .int (nI c_392)) hk_516 (show fld12 K L 1 ((((fs490.set 7 (.long 0)).set 15 (.int 0)).set 16 (.int 0)).set 1 (.int (nI c_392))) from ⟨(nI c_392), hs_527, Or.inr ⟨c_392, by omega, rfl⟩⟩)
                                          have hn_528 : ((((fs490.set 7 (.long 0)).set 15 (.int 0)).set 16 (.int 0)).set 1 (.int (nI c_392))).length = 51 := by rw [List.length_set]; exact hn_518
                                          have hv_529 : ((((fs490.set 7 (.long 0)).set 15 (.int 0)).set 16 (.int 0)).set 1 (.int (nI c_392)))[7]? = some (.long 0) := by rw [List.getElem?_set_ne (by decide)]; exact hv_519
                                          have hv_530 : ((((fs490.set 7 (.long 0)).set 15 (.int 0)).set 16 (.int 0)).set 1 (.int (nI c_392)))[15]? = some (.int (nI 0)) := by rw [List.getElem?_set_ne (by decide)]; exact hv_520
                                          have hv_531 : ((((fs490.set 7 (.long 0)).set 15 (.int 0)).set 16 (.int 0)).set 1 (.int (nI c_392)))[16]? = some (.int (nI 0)) := by rw [List.getElem?_set_ne (by decide)]; exact hs_517
                                          obtain ⟨M_532, eM_532⟩ : ∃ M1 : Hp, M1 = va_up M_522 b13 (.inr (12, (((fs490.set 7 (.long 0)).set 15 (.int 0)).set 16 (.int 0)).set 1 (.int (nI c_392)))) := ⟨_, rfl⟩
                                          have hV : VW K L M M_532 b13 (va_up (va_up (va_up (va_up (va_up (fx M b13) 17 ((gnw476 : Nat) : Int)) 14 ((n_492 : Nat) : Int)) 15 (0 : Int)) 16 (0 : Int)) 1 ((c_392 : Nat) : Int)) (va_up (va_up (va_up (va_up (va_up (ax M b13) 44 gpw476) 45 gqw476) 38 p_493) 39 q_494) 40 r_495) := by rw [eM_532]; exact hV.put hW hb_15 hM_523 hn_518 rfl (by decide) rfl (nI_toInt (by omega))
                                          have hP : va_P D vwCl ([(za, .inr (13, [.int 0, .ref z1, .int (nI z2), .int (nI z3), .int z4, .int z5, .ref z6, .ref z7, .ref z8, .ref z9, .int (nI z10), .ref z11, .ref z12, .ref z13, .ref z14, .ref z15, .int (nI zgw476), .ref z17, .int z18, .ref z19]))] ++ va_pl L M_532) H_524 := by rw [eM_532]; exact hP
                                          have hD : va_D A ([(za, .inr (13, [.int 0, .ref z1, .int (nI z2), .int (nI z3), .int z4, .int z5, .ref z6, .ref z7, .ref z8, .ref z9, .int (nI z10), .ref z11, .ref z12, .ref z13, .ref z14, .ref z15, .int (nI zgw476), .ref z17, .int z18, .ref z19]))] ++ va_pl L M_532) := by rw [eM_532]; exact hD
                                          have hW : WOM cy K L M_532 := by rw [eM_532]; exact hW.up_12 hb_15 ⟨_, rfl, hn_528, hk_526⟩
                                          have hF : fr K L [12, 14, 15, 32, 42, 45, 46, 79, 80, 81, 83] M M_532 := by rw [eM_532]; exact hF.up hb_15 (by decide)
                                          have hG : fG K L [1, 7, 8, 13, 14, 15, 16, 17, 18] M M_532 := by rw [eM_532]; exact hG.up hM_523 (by decide)
                                          have hM_533 : M_532 b13 = .inr (12, (((fs490.set 7 (.long 0)).set 15 (.int 0)).set 16 (.int 0)).set 1 (.int (nI c_392))) := by rw [eM_532]; exact va_up_self _ _ _
                                          refine lv_aload_n hx hb dX13_close_328 rfl (lv_at hl 5 rfl) ?_
                                          refine lv_dup hx hb dX13_close_329 rfl ?_
                                          obtain ⟨v534, hv534, hc534⟩ : ∃ v : Nat, ((((fs490.set 7 (.long 0)).set 15 (.int 0)).set 16 (.int 0)).set 1 (.int (nI c_392)))[13]? = some (.int (nI v) : Value) ∧ v ≤ 12 := hk_526 13 (by decide)
                                          refine pg_getN (D := D) (ci := 12) (v := .int (nI v534)) (C := RX12) (T := TX12) (N := 51) hx hb hg inG12 hown hK hP hb_15.1 hM_533 rfl 13 (by decide) (hN.use (Cond.fieldLinkNest RX13 244 RX12 "closed" "I" RX13) 22 rfl rfl) (fun _ h9 => h9) hv534 dX13_close_330 ?_
                                          have hx13 : (fx M b13 13) = ((v534 : Nat) : Int) := (congrFun hV.2.1 13).symm.trans ((fx_of hM_533 rfl hv534).trans (nI_toInt (by omega)))
                                          refine lv_iconst (v := 1) hx hb dX13_close_333 (by decide) ?_
                                          refine lv_iadd hx hb dX13_close_334 ?_
                                          refine lv_topi (fun f_535 ef_535 => ?_)
                                          obtain rfl : f_535 = (nI (v534 + 1)) := ef_535.trans (nI_add v534 1)
                                          refine pg_putN (D := D) (ci := 12) (v := .int (nI (v534 + 1))) (ty := .int) (C := RX12) (T := TX12) (N := 51) hx hb hg inG12 tyX12 tyX12_ok nmX12 hown hK hP hD hS hb_15.1 hM_533 rfl 13 (by decide) (hN.use (Cond.fieldLinkNest RX13 244 RX12 "closed" "I" RX13) 22 rfl rfl) (fun _ h9 => h9) rfl (by decide +kernel) rfl rfl (by rw [hn_528]; decide) dX13_close_335 (fun H_536 locs hP hD hS => ?_)
                                          have hs_539 : (((((fs490.set 7 (.long 0)).set 15 (.int 0)).set 16 (.int 0)).set 1 (.int (nI c_392))).set 13 (.int (nI (v534 + 1))))[13]? = some (.int (nI (v534 + 1))) := List.getElem?_set_self (by rw [hn_528]; decide)
                                          have hk_538 := fld12_set (k := 13) (w := .int (nI (v534 + 1))) hk_526 (show fld12 K L 13 (((((fs490.set 7 (.long 0)).set 15 (.int 0)).set 16 (.int 0)).set 1 (.int (nI c_392))).set 13 (.int (nI (v534 + 1)))) from ⟨(v534 + 1), hs_539, by omega⟩)
                                          have hn_540 : (((((fs490.set 7 (.long 0)).set 15 (.int 0)).set 16 (.int 0)).set 1 (.int (nI c_392))).set 13 (.int (nI (v534 + 1)))).length = 51 := by rw [List.length_set]; exact hn_528
                                          have hv_541 : (((((fs490.set 7 (.long 0)).set 15 (.int 0)).set 16 (.int 0)).set 1 (.int (nI c_392))).set 13 (.int (nI (v534 + 1))))[7]? = some (.long 0) := by rw [List.getElem?_set_ne (by decide)]; exact hv_529
                                          have hv_542 : (((((fs490.set 7 (.long 0)).set 15 (.int 0)).set 16 (.int 0)).set 1 (.int (nI c_392))).set 13 (.int (nI (v534 + 1))))[15]? = some (.int (nI 0)) := by rw [List.getElem?_set_ne (by decide)]; exact hv_530
                                          have hv_543 : (((((fs490.set 7 (.long 0)).set 15 (.int 0)).set 16 (.int 0)).set 1 (.int (nI c_392))).set 13 (.int (nI (v534 + 1))))[16]? = some (.int (nI 0)) := by rw [List.getElem?_set_ne (by decide)]; exact hv_531
                                          have hv_544 : (((((fs490.set 7 (.long 0)).set 15 (.int 0)).set 16 (.int 0)).set 1 (.int (nI c_392))).set 13 (.int (nI (v534 + 1))))[1]? = some (.int (nI c_392)) := by rw [List.getElem?_set_ne (by decide)]; exact hs_527
                                          have hb_545 : (v534 + 1) ≤ 12 := by omega
                                          obtain ⟨M_546, eM_546⟩ : ∃ M1 : Hp, M1 = va_up M_532 b13 (.inr (12, ((((fs490.set 7 (.long 0)).set 15 (.int 0)).set 16 (.int 0)).set 1 (.int (nI c_392))).set 13 (.int (nI (v534 + 1))))) := ⟨_, rfl⟩
                                          have hx13 : (fx M b13 13) = ((v534 : Nat) : Int) := (congrFun hV.2.1 13).symm.trans ((fx_of hM_533 rfl hv534).trans (nI_toInt (by omega)))
                                          have hV : VW K L M M_546 b13 (va_up (va_up (va_up (va_up (va_up (va_up (fx M b13) 17 ((gnw476 : Nat) : Int)) 14 ((n_492 : Nat) : Int)) 15 (0 : Int)) 16 (0 : Int)) 1 ((c_392 : Nat) : Int)) 13 (((v534 + 1) : Nat) : Int)) (va_up (va_up (va_up (va_up (va_up (ax M b13) 44 gpw476) 45 gqw476) 38 p_493) 39 q_494) 40 r_495) := by rw [eM_546]; exact hV.put hW hb_15 hM_533 hn_528 rfl (by decide) rfl (nI_toInt (by omega))
                                          have hP : va_P D vwCl ([(za, .inr (13, [.int 0, .ref z1, .int (nI z2), .int (nI z3), .int z4, .int z5, .ref z6, .ref z7, .ref z8, .ref z9, .int (nI z10), .ref z11, .ref z12, .ref z13, .ref z14, .ref z15, .int (nI zgw476), .ref z17, .int z18, .ref z19]))] ++ va_pl L M_546) H_536 := by rw [eM_546]; exact hP
                                          have hD : va_D A ([(za, .inr (13, [.int 0, .ref z1, .int (nI z2), .int (nI z3), .int z4, .int z5, .ref z6, .ref z7, .ref z8, .ref z9, .int (nI z10), .ref z11, .ref z12, .ref z13, .ref z14, .ref z15, .int (nI zgw476), .ref z17, .int z18, .ref z19]))] ++ va_pl L M_546) := by rw [eM_546]; exact hD
                                          have hW : WOM cy K L M_546 := by rw [eM_546]; exact hW.up_12 hb_15 ⟨_, rfl, hn_540, hk_538⟩
                                          have hF : fr K L [12, 14, 15, 32, 42, 45, 46, 79, 80, 81, 83] M M_546 := by rw [eM_546]; exact hF.up hb_15 (by decide)
                                          have hG : fG K L [1, 7, 8, 13, 14, 15, 16, 17, 18] M M_546 := by rw [eM_546]; exact hG.up hM_533 (by decide)
                                          have hM_547 : M_546 b13 = .inr (12, ((((fs490.set 7 (.long 0)).set 15 (.int 0)).set 16 (.int 0)).set 1 (.int (nI c_392))).set 13 (.int (nI (v534 + 1)))) := by rw [eM_546]; exact va_up_self _ _ _
                                          refine lv_aload_n hx hb dX13_close_338 rfl (lv_at hl 5 rfl) ?_
                                          refine lv_iconst (v := 1) hx hb dX13_close_339 (by decide) ?_
                                          refine pg_putN (D := D) (ci := 12) (v := .int 1) (ty := .boolean) (C := RX12) (T := TX12) (N := 51) hx hb hg inG12 tyX12 tyX12_ok nmX12 hown hK hP hD hS hb_15.1 hM_547 rfl 18 (by decide) (hN.use (Cond.fieldLinkNest RX13 288 RX12 "hasClosed" "Z" RX13) 27 rfl rfl) (fun _ h9 => h9) rfl (by decide +kernel) rfl rfl (by rw [hn_540]; decide) dX13_close_340 (fun H_548 locs hP hD hS => ?_)
                                          have hs_551 : ((((((fs490.set 7 (.long 0)).set 15 (.int 0)).set 16 (.int 0)).set 1 (.int (nI c_392))).set 13 (.int (nI (v534 + 1)))).set 18 (.int 1))[18]? = some (.int 1) := List.getElem?_set_self (by rw [hn_540]; decide)
                                          have hk_550 := fld12_set (k := 18) (w := .int 1) hk_538 (show fld12 K L 18 ((((((fs490.set 7 (.long 0)).set 15 (.int 0)).set 16 (.int 0)).set 1 (.int (nI c_392))).set 13 (.int (nI (v534 + 1)))).set 18 (.int 1)) from ⟨1, hs_551, by decide⟩)
                                          have hn_552 : ((((((fs490.set 7 (.long 0)).set 15 (.int 0)).set 16 (.int 0)).set 1 (.int (nI c_392))).set 13 (.int (nI (v534 + 1)))).set 18 (.int 1)).length = 51 := by rw [List.length_set]; exact hn_540
                                          have hv_553 : ((((((fs490.set 7 (.long 0)).set 15 (.int 0)).set 16 (.int 0)).set 1 (.int (nI c_392))).set 13 (.int (nI (v534 + 1)))).set 18 (.int 1))[7]? = some (.long 0) := by rw [List.getElem?_set_ne (by decide)]; exact hv_541
                                          have hv_554 : ((((((fs490.set 7 (.long 0)).set 15 (.int 0)).set 16 (.int 0)).set 1 (.int (nI c_392))).set 13 (.int (nI (v534 + 1)))).set 18 (.int 1))[15]? = some (.int (nI 0)) := by rw [List.getElem?_set_ne (by decide)]; exact hv_542
                                          have hv_555 : ((((((fs490.set 7 (.long 0)).set 15 (.int 0)).set 16 (.int 0)).set 1 (.int (nI c_392))).set 13 (.int (nI (v534 + 1)))).set 18 (.int 1))[16]? = some (.int (nI 0)) := by rw [List.getElem?_set_ne (by decide)]; exact hv_543
                                          have hv_556 : ((((((fs490.set 7 (.long 0)).set 15 (.int 0)).set 16 (.int 0)).set 1 (.int (nI c_392))).set 13 (.int (nI (v534 + 1)))).set 18 (.int 1))[1]? = some (.int (nI c_392)) := by rw [List.getElem?_set_ne (by decide)]; exact hv_544
                                          have hv_557 : ((((((fs490.set 7 (.long 0)).set 15 (.int 0)).set 16 (.int 0)).set 1 (.int (nI c_392))).set 13 (.int (nI (v534 + 1)))).set 18 (.int 1))[13]? = some (.int (nI (v534 + 1))) := by rw [List.getElem?_set_ne (by decide)]; exact hs_539
                                          obtain ⟨M_558, eM_558⟩ : ∃ M1 : Hp, M1 = va_up M_546 b13 (.inr (12, (((((fs490.set 7 (.long 0)).set 15 (.int 0)).set 16 (.int 0)).set 1 (.int (nI c_392))).set 13 (.int (nI (v534 + 1)))).set 18 (.int 1))) := ⟨_, rfl⟩
                                          have hV : VW K L M M_558 b13 (va_up (va_up (va_up (va_up (va_up (va_up (va_up (fx M b13) 17 ((gnw476 : Nat) : Int)) 14 ((n_492 : Nat) : Int)) 15 (0 : Int)) 16 (0 : Int)) 1 ((c_392 : Nat) : Int)) 13 (((v534 + 1) : Nat) : Int)) 18 (1 : Int)) (va_up (va_up (va_up (va_up (va_up (ax M b13) 44 gpw476) 45 gqw476) 38 p_493) 39 q_494) 40 r_495) := by rw [eM_558]; exact hV.put hW hb_15 hM_547 hn_540 rfl (by decide) rfl (by decide)
                                          have hP : va_P D vwCl ([(za, .inr (13, [.int 0, .ref z1, .int (nI z2), .int (nI z3), .int z4, .int z5, .ref z6, .ref z7, .ref z8, .ref z9, .int (nI z10), .ref z11, .ref z12, .ref z13, .ref z14, .ref z15, .int (nI zgw476), .ref z17, .int z18, .ref z19]))] ++ va_pl L M_558) H_548 := by rw [eM_558]; exact hP
                                          have hD : va_D A ([(za, .inr (13, [.int 0, .ref z1, .int (nI z2), .int (nI z3), .int z4, .int z5, .ref z6, .ref z7, .ref z8, .ref z9, .int (nI z10), .ref z11, .ref z12, .ref z13, .ref z14, .ref z15, .int (nI zgw476), .ref z17, .int z18, .ref z19]))] ++ va_pl L M_558) := by rw [eM_558]; exact hD
                                          have hW : WOM cy K L M_558 := by rw [eM_558]; exact hW.up_12 hb_15 ⟨_, rfl, hn_552, hk_550⟩
                                          have hF : fr K L [12, 14, 15, 32, 42, 45, 46, 79, 80, 81, 83] M M_558 := by rw [eM_558]; exact hF.up hb_15 (by decide)
                                          have hG : fG K L [1, 7, 8, 13, 14, 15, 16, 17, 18] M M_558 := by rw [eM_558]; exact hG.up hM_547 (by decide)
                                          have hM_559 : M_558 b13 = .inr (12, (((((fs490.set 7 (.long 0)).set 15 (.int 0)).set 16 (.int 0)).set 1 (.int (nI c_392))).set 13 (.int (nI (v534 + 1)))).set 18 (.int 1)) := by rw [eM_558]; exact va_up_self _ _ _
                                          refine lv_aload_n hx hb dX13_close_343 rfl (lv_at hl 6 rfl) ?_
                                          refine lv_aload_n hx hb dX13_close_344 rfl (lv_at hl 5 rfl) ?_
                                          refine lv_iload hx hb dX13_close_345 (lv_at hl 3 rfl) ?_
                                          have hPc : va_P D vwCl ([(za, .inr (13, [.int 0, .ref z1, .int (nI z2), .int (nI z3), .int z4, .int z5, .ref z6, .ref z7, .ref z8, .ref z9, .int (nI z10), .ref z11, .ref z12, .ref z13, .ref z14, .ref z15, .int (nI zgw476), .ref z17, .int z18, .ref z19]))] ++ va_pl L M_558) H_548 := hP
                                          have hDc : va_D A ([(za, .inr (13, [.int 0, .ref z1, .int (nI z2), .int (nI z3), .int z4, .int z5, .ref z6, .ref z7, .ref z8, .ref z9, .int (nI z10), .ref z11, .ref z12, .ref z13, .ref z14, .ref z15, .int (nI zgw476), .ref z17, .int z18, .ref z19]))] ++ va_pl L M_558) := hD
                                          have hFc : ∀ q, va_A ([(za, .inr (13, [.int 0, .ref z1, .int (nI z2), .int (nI z3), .int z4, .int z5, .ref z6, .ref z7, .ref z8, .ref z9, .int (nI z10), .ref z11, .ref z12, .ref z13, .ref z14, .ref z15, .int (nI zgw476), .ref z17, .int z18, .ref z19]))] ++ va_pl L M_558) H_548.size q → A q := pg_free hDc hS hA
                                          refine va_callv (va_runV (As := [.ref b13, .int (nI c_392)]) (rest := []) ⟨hx, hb, hml, hown, hg⟩ (g_X13_incomes l D cy K L M_558 H_548.size za 0 z1 z2 z3 z4 z5 z6 z7 z8 z9 z10 z11 z12 z13 z14 z15 zgw476 z17 z18 z19 b13 c_392  hW i1 b2 b3 i6 i7 i8 i9 b10 i11 i12 i13 i14 i15 (by omega) i17 i19 hb_15 hc_393 (R5.mv hR5 i6 i7 hF (by decide) (by decide))) (cwV 2 hg (gV wd_864 wd_865 wd_866 wd_717 wd_867) rfl rfl rfl (by decide +kernel) ⟨(Nat.le_trans (Nat.le_of_ble_eq_true rfl) hRf), (Nat.le_trans (Nat.le_of_ble_eq_true rfl) hRl)⟩) ⟨PG.blind, va_recv hK hP (ci := 13) (q0 := 0) rfl rfl, fun U hU hW => ⟨rfl, PG.at hPc hK hDc hN hU hW⟩⟩ rfl rfl hl.1 rfl (lv_room (Nat.le_of_ble_eq_true rfl)) dX13_close_347 ⟨(Nat.le_trans (Nat.le_of_ble_eq_true rfl) hRc), (Nat.le_trans (Nat.le_of_ble_eq_true rfl) hRs)⟩) hS (fun q _ h => hFc q h) hFc (fun M_562 t H_560 locs ht hvm hw hB hz1 hk1 hS => ?_)
                                          have hWb := hW
                                          obtain ⟨hW, hF2, hG2, hp_563⟩ := hw
                                          obtain ⟨hP1, hD1⟩ := hB
                                          rw [ht] at hP1
                                          have hP : va_P D vwCl ([(za, .inr (13, [.int 0, .ref z1, .int (nI z2), .int (nI z3), .int z4, .int z5, .ref z6, .ref z7, .ref z8, .ref z9, .int (nI z10), .ref z11, .ref z12, .ref z13, .ref z14, .ref z15, .int (nI zgw476), .ref z17, .int z18, .ref z19]))] ++ va_pl L M_562) H_560 := hP1
                                          have hD : va_D A ([(za, .inr (13, [.int 0, .ref z1, .int (nI z2), .int (nI z3), .int z4, .int z5, .ref z6, .ref z7, .ref z8, .ref z9, .int (nI z10), .ref z11, .ref z12, .ref z13, .ref z14, .ref z15, .int (nI zgw476), .ref z17, .int z18, .ref z19]))] ++ va_pl L M_562) := hD1.mono hFc
                                          obtain ⟨fs564, hM564, hn564, hl564⟩ := hW.open_12 hb_15
                                          have hv_565 : fs564[15]? = some (.int (nI 0) : Value) := (hG2 _ hb_15 _ _ hM_559 hM564 15 (by decide)).trans hv_554
                                          have hv_566 : fs564[16]? = some (.int (nI 0) : Value) := (hG2 _ hb_15 _ _ hM_559 hM564 16 (by decide)).trans hv_555
                                          have hv_567 : fs564[1]? = some (.int (nI c_392) : Value) := (hG2 _ hb_15 _ _ hM_559 hM564 1 (by decide)).trans hv_556
                                          have hv_568 : fs564[13]? = some (.int (nI (v534 + 1)) : Value) := (hG2 _ hb_15 _ _ hM_559 hM564 13 (by decide)).trans hv_557
                                          have hv_569 : fs564[18]? = some (.int 1 : Value) := (hG2 _ hb_15 _ _ hM_559 hM564 18 (by decide)).trans hs_551
                                          have hF : fr K L [12, 14, 15, 32, 42, 45, 46, 79, 80, 81, 83] M M_562 := hF.tr hF2 (by decide)
                                          have hG : fG K L [1, 7, 8, 13, 14, 15, 16, 17, 18] M M_562 := hG.tr hWb hG2 (by decide)
                                          have hV : VW K L M M_562 b13 (va_up (va_up (va_up (va_up (va_up (va_up (va_up (fx M b13) 17 ((gnw476 : Nat) : Int)) 14 ((n_492 : Nat) : Int)) 15 (0 : Int)) 16 (0 : Int)) 1 ((c_392 : Nat) : Int)) 13 (((v534 + 1) : Nat) : Int)) 18 (1 : Int)) (va_up (va_up (va_up (va_up (va_up (ax M b13) 44 gpw476) 45 gqw476) 38 p_493) 39 q_494) 40 r_495) := hV.cal hWb hW hF2 hG2 (by decide) (by decide) hb_15
                                          refine lv_aload_n hx hb dX13_close_350 rfl (lv_at hl 5 rfl) ?_
                                          refine lv_iload hx hb dX13_close_351 (lv_at hl 3 rfl) ?_
                                          have hPc : va_P D vwCl ([] ++ va_pl L M_562) H_560 := hP.part (cx := []) [] rfl
                                          have hDc : va_D A ([] ++ va_pl L M_562) := hD.part (cx := []) [] (by decide) rfl
                                          have hFc : ∀ q, va_A ([] ++ va_pl L M_562) H_560.size q → A q := pg_free hDc hS hA
                                          refine va_callv (va_runS (As := [.ref b13, .int (nI c_392)]) (rest := []) ⟨hx, hb, hml, hown, hg⟩ (z_ends l D cy K L M_562 H_560.size b13 c_392  hW hb_15 hc_393 hV.2.2.2 (by rw [hV.2.1, hV.2.2.1]; exact hAT.2.2.1)) (va_cwS 2 hg (gS wd_868 wd_869 wd_717 wd_870) rfl rfl rfl (by decide +kernel) ⟨(Nat.le_trans (Nat.le_of_ble_eq_true rfl) hRf), (Nat.le_trans (Nat.le_of_ble_eq_true rfl) hRl)⟩) ⟨PG.blind, fun U hU hW => ⟨rfl, PG.at hPc hK hDc hN hU hW⟩⟩ rfl rfl hl.1 rfl (lv_room (Nat.le_of_ble_eq_true rfl)) dX13_close_353 ⟨(Nat.le_trans (Nat.le_of_ble_eq_true rfl) hRc), (Nat.le_trans (Nat.le_of_ble_eq_true rfl) hRs)⟩) hS (fun q _ h => hFc q h) hFc (fun M_572 t H_570 locs ht hvm hw hB hz1 hk1 hS => ?_)
                                          have hWb := hW
                                          obtain ⟨hW, hF2, hG2, hVP, hp_573⟩ := hw
                                          obtain ⟨hP1, hD1⟩ := hB
                                          rw [ht] at hP1
                                          obtain ⟨hP, hD⟩ := va_joinP (X := [(za, .inr (13, [.int 0, .ref z1, .int (nI z2), .int (nI z3), .int z4, .int z5, .ref z6, .ref z7, .ref z8, .ref z9, .int (nI z10), .ref z11, .ref z12, .ref z13, .ref z14, .ref z15, .int (nI zgw476), .ref z17, .int z18, .ref z19]))]) (cx := []) (wr := [(za, .inr (13, [.int 0, .ref z1, .int (nI z2), .int (nI z3), .int z4, .int z5, .ref z6, .ref z7, .ref z8, .ref z9, .int (nI z10), .ref z11, .ref z12, .ref z13, .ref z14, .ref z15, .int (nI zgw476), .ref z17, .int z18, .ref z19]))]) (rx := []) (pl := va_pl L M_562) (pl1 := va_pl L M_572) hP hD [] [0] rfl rfl (by decide) (by decide) hk1 hFc hP1 hD1
                                          have hP : va_P D vwCl ([(za, .inr (13, [.int 0, .ref z1, .int (nI z2), .int (nI z3), .int z4, .int z5, .ref z6, .ref z7, .ref z8, .ref z9, .int (nI z10), .ref z11, .ref z12, .ref z13, .ref z14, .ref z15, .int (nI zgw476), .ref z17, .int z18, .ref z19]))] ++ va_pl L M_572) H_570 := hP
                                          have hD : va_D A ([(za, .inr (13, [.int 0, .ref z1, .int (nI z2), .int (nI z3), .int z4, .int z5, .ref z6, .ref z7, .ref z8, .ref z9, .int (nI z10), .ref z11, .ref z12, .ref z13, .ref z14, .ref z15, .int (nI zgw476), .ref z17, .int z18, .ref z19]))] ++ va_pl L M_572) := hD
                                          have hM_574 : M_572 b13 = .inr (12, fs564) := (hF2.at hb_15 (by decide)).trans hM564
                                          have hF : fr K L [12, 14, 15, 32, 42, 45, 46, 79, 80, 81, 83] M M_572 := hF.tr hF2 (by decide)
                                          have hG : fG K L [1, 7, 8, 13, 14, 15, 16, 17, 18] M M_572 := hG.tr hWb hG2 (by decide)
                                          obtain ⟨g_575, hg23, hV2⟩ := hVP
                                          rw [hV.2.1, hV.2.2.1] at hg23
                                          rw [hV.2.1, hV.2.2.1] at hV2
                                          have hV : VW K L M M_572 b13 (va_up (va_up (va_up (va_up (va_up (va_up (va_up (fx M b13) 17 ((gnw476 : Nat) : Int)) 14 ((n_492 : Nat) : Int)) 15 (0 : Int)) 16 (0 : Int)) 1 ((c_392 : Nat) : Int)) 13 (((v534 + 1) : Nat) : Int)) 18 (1 : Int)) (va_up (va_up (va_up (va_up (va_up (va_up (ax M b13) 44 gpw476) 45 gqw476) 38 p_493) 39 q_494) 40 r_495) 23 g_575) := hV.tr hV2
                                          refine lv_aload_n hx hb dX13_close_356 rfl (lv_at hl 6 rfl) ?_
                                          refine lv_aload_n hx hb dX13_close_357 rfl (lv_at hl 5 rfl) ?_
                                          refine pg_getN (D := D) (ci := 12) (v := .int (nI (v534 + 1))) (C := RX12) (T := TX12) (N := 51) hx hb hg inG12 hown hK hP hb_15.1 hM_574 rfl 13 (by decide) (hN.use (Cond.fieldLinkNest RX13 244 RX12 "closed" "I" RX13) 22 rfl rfl) (fun _ h9 => h9) hv_568 dX13_close_358 ?_
                                          have hx13 : (((v534 + 1) : Nat) : Int) = (((v534 + 1) : Nat) : Int) := (congrFun hV.2.1 13).symm.trans ((fx_of hM_574 rfl hv_568).trans (nI_toInt (by omega)))
                                          refine lv_iconst (v := 1) hx hb dX13_close_361 (by decide) ?_
                                          refine lv_isub hx hb dX13_close_362 ?_
                                          refine lv_topi (fun f_576 ef_576 => ?_)
                                          obtain rfl : f_576 = (nI ((v534 + 1) - 1)) := ef_576.trans (nI_prd (by omega))
                                          have hPc := hP.sub (ws' := [(za, .inr (13, [.int 0, .ref z1, .int (nI z2), .int (nI z3), .int z4, .int z5, .ref z6, .ref z7, .ref z8, .ref z9, .int (nI z10), .ref z11, .ref z12, .ref z13, .ref z14, .ref z15, .int (nI zgw476), .ref z17, .int z18, .ref z19]))]) [0] rfl
                                          have hDc := hD.sub (ws' := [(za, .inr (13, [.int 0, .ref z1, .int (nI z2), .int (nI z3), .int z4, .int z5, .ref z6, .ref z7, .ref z8, .ref z9, .int (nI z10), .ref z11, .ref z12, .ref z13, .ref z14, .ref z15, .int (nI zgw476), .ref z17, .int z18, .ref z19]))]) [0] (by decide) rfl
                                          have hKc := hK.sub (tys' := []) [] rfl
                                          have hFc := va_free (wc := [(za, .inr (13, [.int 0, .ref z1, .int (nI z2), .int (nI z3), .int z4, .int z5, .ref z6, .ref z7, .ref z8, .ref z9, .int (nI z10), .ref z11, .ref z12, .ref z13, .ref z14, .ref z15, .int (nI zgw476), .ref z17, .int z18, .ref z19]))]) hD hS hA [0] rfl
                                          refine va_calli (va_runV (As := [.int (nI ((v534 + 1) - 1))]) (rest := []) ⟨hx, hb, hml, hown, hg⟩ (m_done l D H_570.size za 0 z1 (nI z2) (nI z3) z4 z5 z6 z7 z8 z9 (nI z10) z11 z12 z13 z14 z15 (nI zgw476) z17 z18 z19 (nI ((v534 + 1) - 1))) (cwV 1 hg (gV wd_730 wd_731 wd_732 wd_717 wd_733) rfl rfl rfl (by decide +kernel) ⟨(Nat.le_trans (Nat.le_of_ble_eq_true rfl) hRf), (Nat.le_trans (Nat.le_of_ble_eq_true rfl) hRl)⟩) ⟨Pr.blind, va_recv hK hP (ci := 13) (q0 := 0) rfl rfl, fun U hU hW => ⟨rfl, Pr.at hPc hKc hDc hN hU hW⟩⟩ rfl rfl hl.1 rfl (lv_room (Nat.le_of_ble_eq_true rfl)) dX13_close_363 ⟨(Nat.le_trans (Nat.le_of_ble_eq_true rfl) hRc), (Nat.le_trans (Nat.le_of_ble_eq_true rfl) hRs)⟩) hS (fun q _ h => hFc q h) hFc (fun r_578 M_579 t H_577 locs ht hvm hw hB hz1 hk1 hS => ?_)
                                          have hp_580 := hw
                                          obtain ⟨hP1, hK1, hD1⟩ := hB
                                          rw [ht] at hP1
                                          obtain ⟨hP, hD⟩ := va_joinQ (X := [(za, .inr (13, [.int 0, .ref z1, .int (nI z2), .int (nI z3), .int z4, .int z5, .ref z6, .ref z7, .ref z8, .ref z9, .int (nI z10), .ref z11, .ref z12, .ref z13, .ref z14, .ref z15, .int (nI zgw476), .ref z17, .int z18, .ref z19]))]) (cx := [(za, .inr (13, [.int 0, .ref z1, .int (nI z2), .int (nI z3), .int z4, .int z5, .ref z6, .ref z7, .ref z8, .ref z9, .int (nI z10), .ref z11, .ref z12, .ref z13, .ref z14, .ref z15, .int (nI zgw476), .ref z17, .int z18, .ref z19]))]) (wr := []) (w1 := [(za, .inr (13, [.int 0, .ref z1, .int (nI z2), .int (nI z3), .int 0, .int (-1), .ref z6, .ref z7, .ref z8, .ref z9, .int (nI z10), .ref z11, .ref z12, .ref z13, .ref z14, .ref z15, .int (nI zgw476), .ref z17, .int z18, .ref z19]))]) (pl := va_pl L M_572) hP hD [0] [] rfl rfl (by decide) (by decide) hk1 hFc hP1 hD1
                                          have hP : va_P D vwCl ([(za, .inr (13, [.int 0, .ref z1, .int (nI z2), .int (nI z3), .int 0, .int (-1), .ref z6, .ref z7, .ref z8, .ref z9, .int (nI z10), .ref z11, .ref z12, .ref z13, .ref z14, .ref z15, .int (nI zgw476), .ref z17, .int z18, .ref z19]))] ++ va_pl L M_572) H_577 := hP
                                          have hD : va_D A ([(za, .inr (13, [.int 0, .ref z1, .int (nI z2), .int (nI z3), .int 0, .int (-1), .ref z6, .ref z7, .ref z8, .ref z9, .int (nI z10), .ref z11, .ref z12, .ref z13, .ref z14, .ref z15, .int (nI zgw476), .ref z17, .int z18, .ref z19]))] ++ va_pl L M_572) := hD
                                          have hq := Eq.symm hp_580
                                          subst hq
                                          have hI_581 : (24 : Int) ≤ ((v6w439 : Nat) : Int) := ileI rfl (nI_toInt (by omega)) c_444
                                          have hI_582 : ((c_392 : Nat) : Int) < ((v6w449 : Nat) : Int) := iltI (nI_toInt (by omega)) (nI_toInt (by omega)) c_454
                                          have hI_583 : ((v457 : Nat) : Int) ≤ ((v7w466 : Nat) : Int) := ileI (nI_toInt (by omega)) (nI_toInt (by omega)) c_471
                                          have hI_584 : ((v483 : Nat) : Int) ≤ ((v7w476 : Nat) : Int) := ileI (nI_toInt (by omega)) (nI_toInt (by omega)) c_484
                                          have hy4 : ∀ d : Nat, SX (k1 : Int32).toNatClampNeg 1 < (d : Int) → (d : Int) ≤ enD (SX (k1 : Int32).toNatClampNeg) (SY (k1 : Int32).toNatClampNeg) → ¬ opD (SY (k1 : Int32).toNatClampNeg) d := fun d h1 h2 => hall d h1 (by rw [hEd] at h2; omega)
                                          have hy5 : ∀ b, b < z2 → ¬ LAG PK PT SX SY (k1 : Int32).toNatClampNeg (enD (SX (k1 : Int32).toNatClampNeg) (SY (k1 : Int32).toNatClampNeg)) b := by rw [hEd]; have h9 := c_415; rw [nI_toInt (by omega)] at h9; exact h9
                                          have hyes : okCl z2 PK PT SX SY k1 := by unfold okCl okH; refine ⟨⟨?_, ?_⟩, ?_, ?_, ?_, ?_⟩ <;> first | omega | assumption
                                          have hA9 : HA (ax M b13 2) (ax M b13 3) := hAT.1
                                          have hB9 : HB (0 : Int) ((n_492 : Nat) : Int) (ax M b13 3) (ax M b13 43) := HB.zero hAT.2.1.nn.1 hn14
                                          have hC9 : HC (fx M b13 10) (ax M b13 22) g_575 := HC.gr hAT.2.2.1 hg9
                                          have hD9 : HD (fx M b13 0) (fx M b13 11) (0 : Int) (ax M b13 34) (ax M b13 41) := HD.clr hAT.2.2.2.1
                                          have hE9 : HE (fx M b13 0) ((c_392 : Nat) : Int) (fx M b13 12) (((v534 + 1) : Nat) : Int) (ax M b13 37) := HE.close hAT.2.2.2.2 hb13 (by omega) (by omega) (by rw [hT37])
                                          have hH9 : HI (va_up (va_up (va_up (va_up (va_up (va_up (va_up (fx M b13) 17 ((gnw476 : Nat) : Int)) 14 ((n_492 : Nat) : Int)) 15 (0 : Int)) 16 (0 : Int)) 1 ((c_392 : Nat) : Int)) 13 (((v534 + 1) : Nat) : Int)) 18 (1 : Int)) (va_up (va_up (va_up (va_up (va_up (va_up (ax M b13) 44 gpw476) 45 gqw476) 38 p_493) 39 q_494) 40 r_495) 23 g_575) := ⟨hA9, hB9, hC9, hD9, hE9⟩
                                          have hGI9 : GI K L z1 z2 M_572 := GI.fin hW0 i1 b2 hGI hact hV (hF.at i1 (by decide)) hH9
                                          have hX1 : (va_up (va_up (va_up (va_up (va_up (va_up (va_up (fx M b13) 17 ((gnw476 : Nat) : Int)) 14 ((n_492 : Nat) : Int)) 15 (0 : Int)) 16 (0 : Int)) 1 ((c_392 : Nat) : Int)) 13 (((v534 + 1) : Nat) : Int)) 18 (1 : Int)) 1 = ((c_392 : Nat) : Int) := rfl
                                          have hX13 : (va_up (va_up (va_up (va_up (va_up (va_up (va_up (fx M b13) 17 ((gnw476 : Nat) : Int)) 14 ((n_492 : Nat) : Int)) 15 (0 : Int)) 16 (0 : Int)) 1 ((c_392 : Nat) : Int)) 13 (((v534 + 1) : Nat) : Int)) 18 (1 : Int)) 13 = SX (k1 : Int32).toNatClampNeg 13 + 1 := by show (((v534 + 1) : Nat) : Int) = _; omega
                                          have hkp : kpF (nI (c_28 + 1)) (nI c_392) = clk (SX (k1 : Int32).toNatClampNeg 1) ((c_392 : Nat) : Int) := by funext z9; unfold kpF clk; rw [show (decide (nI (c_28 + 1) ≤ z9.2.1)) = decide (SX (k1 : Int32).toNatClampNeg 1 + 1 ≤ z9.2.1.toInt) from decide_eq_decide.mpr (by rw [Int32.le_iff_toInt_le, nI_toInt (by omega)]; omega), show (decide (z9.2.1 ≤ nI c_392)) = decide (z9.2.1.toInt ≤ ((c_392 : Nat) : Int)) from decide_eq_decide.mpr (by rw [Int32.le_iff_toInt_le, nI_toInt (by omega)])]
                                          have hCLF : CLF (enD (SX (k1 : Int32).toNatClampNeg) (SY (k1 : Int32).toNatClampNeg)) (SX (k1 : Int32).toNatClampNeg) (SY (k1 : Int32).toNatClampNeg) (va_up (va_up (va_up (va_up (va_up (va_up (va_up (fx M b13) 17 ((gnw476 : Nat) : Int)) 14 ((n_492 : Nat) : Int)) 15 (0 : Int)) 16 (0 : Int)) 1 ((c_392 : Nat) : Int)) 13 (((v534 + 1) : Nat) : Int)) 18 (1 : Int)) (va_up (va_up (va_up (va_up (va_up (va_up (ax M b13) 44 gpw476) 45 gqw476) 38 p_493) 39 q_494) 40 r_495) 23 g_575) := by
                                            rw [hEd]
                                            refine ⟨congrFun hZk.1 0, hX1, congrFun hZk.1 10, congrFun hZk.1 11, congrFun hZk.1 12, hX13, rfl, rfl, ⟨n_492, rfl, ?_⟩, fun j q23 q38 q39 q40 q44 q45 => ?_, fun i hi => ?_⟩
                                            · rw [← hkp, show (SX (k1 : Int32).toNatClampNeg 14).toNat = n_496 by omega]; rw [← hZk.2]; exact htr8
                                            · rw [← hZk.2]; simp only [va_up_ne _ _ q23, va_up_ne _ _ q38, va_up_ne _ _ q39, va_up_ne _ _ q40, va_up_ne _ _ q44, va_up_ne _ _ q45]
                                            · rw [← hZk.2]; exact (hg23 i (by show (i : Int) < fx M b13 10; omega))
                                          rw [hQ]
                                          exact W.iret (v := (nI ((v534 + 1) - 1))) hx hb hr (fun t ht hW9 => ⟨⟨(nI ((v534 + 1) - 1)), M_572, rfl, ⟨hW, hF, hG, ⟨hGI9, (va_up (va_up (va_up (va_up (va_up (va_up (va_up (fx M b13) 17 ((gnw476 : Nat) : Int)) 14 ((n_492 : Nat) : Int)) 15 (0 : Int)) 16 (0 : Int)) 1 ((c_392 : Nat) : Int)) 13 (((v534 + 1) : Nat) : Int)) 18 (1 : Int)), (va_up (va_up (va_up (va_up (va_up (va_up (ax M b13) 44 gpw476) 45 gqw476) 38 p_493) 39 q_494) 40 r_495) 23 g_575), fun _ => hCLF, (by unfold sxCl syCl; rw [if_pos hyes, if_pos hyes]; exact ZSx.fin hW0 i1 b2 hZS hGI.1 hkn hb9 hV (hF.at i1 (by decide)) rfl rfl)⟩, (by unfold anCl; rw [if_pos hyes]; exact congrArg nI (by omega))⟩, ⟨0, (-1), zgw476, (by omega), by rw [ht]; exact hP, hD⟩⟩, hS.F ht⟩) hS.2.2 dX13_close_366
                                        · have hz := rfl (a := 0)
                                          have n_585 : ¬ (v483 ≤ v7w476) := fun q => c_484 ((iLE (a := v483) (b := v7w476) (by omega) (by omega)).mpr q)
                                          obtain ⟨v586, hv586, hc586⟩ : ∃ v : Nat, fs482[17]? = some (.int (nI v) : Value) ∧ v ≤ 120 := hl482 17 (by decide)
                                          have hx17 : ((gnw476 : Nat) : Int) = ((v586 : Nat) : Int) := (congrFun hV.2.1 17).symm.trans ((fx_of hM482 rfl hv586).trans (nI_toInt (by omega)))
                                          have hx15 : (fx M b13 15) = ((v483 : Nat) : Int) := (congrFun hV.2.1 15).symm.trans ((fx_of hM482 rfl hv483).trans (nI_toInt (by omega)))
                                          refine lv_aload_n hx hb dX13_close_287 rfl (lv_at hl 6 rfl) ?_
                                          refine lv_aload_n hx hb dX13_close_288 rfl (lv_at hl 5 rfl) ?_
                                          refine lv_iload hx hb dX13_close_289 (lv_at hl 0 rfl) ?_
                                          have hPc : va_P D vwCl ([(za, .inr (13, [.int 0, .ref z1, .int (nI z2), .int (nI z3), .int z4, .int z5, .ref z6, .ref z7, .ref z8, .ref z9, .int (nI z10), .ref z11, .ref z12, .ref z13, .ref z14, .ref z15, .int (nI zgw476), .ref z17, .int z18, .ref z19]))] ++ va_pl L M_480) H_481 := hP
                                          have hDc : va_D A ([(za, .inr (13, [.int 0, .ref z1, .int (nI z2), .int (nI z3), .int z4, .int z5, .ref z6, .ref z7, .ref z8, .ref z9, .int (nI z10), .ref z11, .ref z12, .ref z13, .ref z14, .ref z15, .int (nI zgw476), .ref z17, .int z18, .ref z19]))] ++ va_pl L M_480) := hD
                                          have hFc : ∀ q, va_A ([(za, .inr (13, [.int 0, .ref z1, .int (nI z2), .int (nI z3), .int z4, .int z5, .ref z6, .ref z7, .ref z8, .ref z9, .int (nI z10), .ref z11, .ref z12, .ref z13, .ref z14, .ref z15, .int (nI zgw476), .ref z17, .int z18, .ref z19]))] ++ va_pl L M_480) H_481.size q → A q := pg_free hDc hS hA
                                          refine va_callv (va_runV (As := [.ref b13, .int (nI v7w476)]) (rest := []) ⟨hx, hb, hml, hown, hg⟩ (g_X13_mended l D cy K L M_480 H_481.size za 0 z1 z2 z3 z4 z5 z6 z7 z8 z9 z10 z11 z12 z13 z14 z15 zgw476 z17 z18 z19 b13 v7w476  hW i1 b2 b3 i6 i7 i8 i9 b10 i11 i12 i13 i14 i15 (by omega) i17 i19 hb_15 (by omega) hV.2.2.2 ⟨_, _, hM482, hv586, by omega⟩ (by rw [hV.2.1]; exact h11) (by rw [hV.2.1, hV.2.2.1]; exact hAT.2.2.2.1) (by rw [hV.2.1]; show ((v7w476 : Nat) : Int) < fx M b13 15; omega)) (cwV 2 hg (gV wd_871 wd_872 wd_873 wd_717 wd_874) rfl rfl rfl (by decide +kernel) ⟨(Nat.le_trans (Nat.le_of_ble_eq_true rfl) hRf), (Nat.le_trans (Nat.le_of_ble_eq_true rfl) hRl)⟩) ⟨PG.blind, va_recv hK hP (ci := 13) (q0 := 0) rfl rfl, fun U hU hW => ⟨rfl, PG.at hPc hK hDc hN hU hW⟩⟩ rfl rfl hl.1 rfl (lv_room (Nat.le_of_ble_eq_true rfl)) dX13_close_291 ⟨(Nat.le_trans (Nat.le_of_ble_eq_true rfl) hRc), (Nat.le_trans (Nat.le_of_ble_eq_true rfl) hRs)⟩) hS (fun q _ h => hFc q h) hFc (fun M_589 t H_587 locs ht hvm hw hB hz1 hk1 hS => ?_)
                                          have hWb := hW
                                          obtain ⟨hW, hF2, hG2, hVP, hp_590⟩ := hw
                                          obtain ⟨w16_591, hg_592, hP1, hD1⟩ := hB
                                          rw [ht] at hP1
                                          have hP : va_P D vwCl ([(za, .inr (13, [.int 0, .ref z1, .int (nI z2), .int (nI z3), .int z4, .int z5, .ref z6, .ref z7, .ref z8, .ref z9, .int (nI z10), .ref z11, .ref z12, .ref z13, .ref z14, .ref z15, .int (nI w16_591), .ref z17, .int z18, .ref z19]))] ++ va_pl L M_589) H_587 := hP1
                                          have hD : va_D A ([(za, .inr (13, [.int 0, .ref z1, .int (nI z2), .int (nI z3), .int z4, .int z5, .ref z6, .ref z7, .ref z8, .ref z9, .int (nI z10), .ref z11, .ref z12, .ref z13, .ref z14, .ref z15, .int (nI w16_591), .ref z17, .int z18, .ref z19]))] ++ va_pl L M_589) := hD1.mono hFc
                                          obtain ⟨fs593, hM593, hn593, hl593⟩ := hW.open_12 hb_15
                                          have hv_594 : fs593[15]? = some (.int (nI v483) : Value) := (hG2 _ hb_15 _ _ hM482 hM593 15 (by decide)).trans hv483
                                          have hF : fr K L [12, 14, 15, 32, 42, 45, 46, 79, 80, 81, 83] M M_589 := hF.tr hF2 (by decide)
                                          have hG : fG K L [1, 7, 8, 13, 14, 15, 16, 17, 18] M M_589 := hG.tr hWb hG2 (by decide)
                                          obtain ⟨n_595, g_596, g_597, hn17, hV2⟩ := hVP
                                          rw [hV.2.1] at hn17
                                          rw [hV.2.1, hV.2.2.1] at hV2
                                          have hn17 : ((gnw476 : Nat) : Int) = (n_595 : Int) := hn17
                                          have hV : VW K L M M_589 b13 (va_up (va_up (fx M b13) 17 ((gnw476 : Nat) : Int)) 17 ((n_595 + 1 : Nat) : Int)) (va_up (va_up (va_up (va_up (ax M b13) 44 gpw476) 45 gqw476) 44 g_596) 45 g_597) := hV.tr hV2
                                          refine lv_iinc (v := (nI (v7w476 + 1))) (lv' := [(7, .int (nI (v7w476 + 1))), (6, .int (nI v457)), (5, .int (-1)), (4, .int (nI c_392)), (3, .int (nI (c_28 + 1))), (2, .ref b13), (0, .ref za), (1, .int k1)]) hx hb dX13_close_294 hl (k := 0) rfl (nI_1 v7w476) (by decide) rfl (fun ls hl => ?_)
                                          refine lv_goto (tgt := 278) hx hb dX13_close_297 (by decide) ?_
                                          exact ih_474 (v7w476 + 1) w16_591 (n_595 + 1) g_596 g_597 M_589 H_587 _ _ (by omega) (by omega) (by omega) (by omega) hW hF hG (by have h := hV; simp only [va_up_up] at h; rw [va_up_4] at h; exact h) hP hD hS (lv_sub hl [0, 1, 2, 3, 4, 5, 6, 7] rfl)
                                    exact key_473 (24 - 0 + 1) 0 zgw466 gnw449 gpw449 gqw449 M_469 H_470 _ _ (by omega) (by omega) (by omega) (by omega) hW hF hG hV hP hD hS (lv_sub hl [0, 1, 2, 3, 4, 5, 6, 7] rfl)
                                  · have hz := rfl (a := 0)
                                    have n_598 : ¬ (v457 ≤ v7w466) := fun q => c_471 ((iLE (a := v457) (b := v7w466) (by omega) (by omega)).mpr q)
                                    refine lv_aload_n hx hb dX13_close_261 rfl (lv_at hl 6 rfl) ?_
                                    refine lv_aload_n hx hb dX13_close_262 rfl (lv_at hl 5 rfl) ?_
                                    refine lv_iload hx hb dX13_close_263 (lv_at hl 0 rfl) ?_
                                    refine lv_iload_n hx hb dX13_close_265 rfl (lv_at hl 4 rfl) ?_
                                    have hPc : va_P D vwCl ([(za, .inr (13, [.int 0, .ref z1, .int (nI z2), .int (nI z3), .int z4, .int z5, .ref z6, .ref z7, .ref z8, .ref z9, .int (nI z10), .ref z11, .ref z12, .ref z13, .ref z14, .ref z15, .int (nI zgw466), .ref z17, .int z18, .ref z19]))] ++ va_pl L M_469) H_470 := hP
                                    have hDc : va_D A ([(za, .inr (13, [.int 0, .ref z1, .int (nI z2), .int (nI z3), .int z4, .int z5, .ref z6, .ref z7, .ref z8, .ref z9, .int (nI z10), .ref z11, .ref z12, .ref z13, .ref z14, .ref z15, .int (nI zgw466), .ref z17, .int z18, .ref z19]))] ++ va_pl L M_469) := hD
                                    have hFc : ∀ q, va_A ([(za, .inr (13, [.int 0, .ref z1, .int (nI z2), .int (nI z3), .int z4, .int z5, .ref z6, .ref z7, .ref z8, .ref z9, .int (nI z10), .ref z11, .ref z12, .ref z13, .ref z14, .ref z15, .int (nI zgw466), .ref z17, .int z18, .ref z19]))] ++ va_pl L M_469) H_470.size q → A q := pg_free hDc hS hA
                                    refine va_callv (va_runV (As := [.ref b13, .int (nI v7w466), .int (nI (c_28 + 1))]) (rest := []) ⟨hx, hb, hml, hown, hg⟩ (g_X13_stretch l D cy K L M_469 H_470.size za 0 z1 z2 z3 z4 z5 z6 z7 z8 z9 z10 z11 z12 z13 z14 z15 zgw466 z17 z18 z19 b13 v7w466 (nI (c_28 + 1))  hW i1 b2 b3 i6 i7 i8 i9 b10 i11 i12 i13 i14 i15 (by omega) i17 i19 hb_15 (by omega) hV.2.2.2 (by rw [hV.2.1]; exact h11) (by rw [hV.2.1, hV.2.2.1]; exact hAT.2.2.2.1.1 h11) (by have hq9 := hs4 v7w466 (by omega); rw [hV.2.1, hV.2.2.1]; show fx M b13 0 ≤ (gpw449 v7w466).toInt; omega) (by have hq9 := hs4 v7w466 (by omega); rw [hV.2.2.1]; show (gpw449 v7w466).toInt + (gqw449 v7w466).toInt ≤ 1000; omega)) (cwV 3 hg (gV wd_875 wd_876 wd_877 wd_717 wd_878) rfl rfl rfl (by decide +kernel) ⟨(Nat.le_trans (Nat.le_of_ble_eq_true rfl) hRf), (Nat.le_trans (Nat.le_of_ble_eq_true rfl) hRl)⟩) ⟨PG.blind, va_recv hK hP (ci := 13) (q0 := 0) rfl rfl, fun U hU hW => ⟨rfl, PG.at hPc hK hDc hN hU hW⟩⟩ rfl rfl hl.1 rfl (lv_room (Nat.le_of_ble_eq_true rfl)) dX13_close_266 ⟨(Nat.le_trans (Nat.le_of_ble_eq_true rfl) hRc), (Nat.le_trans (Nat.le_of_ble_eq_true rfl) hRs)⟩) hS (fun q _ h => hFc q h) hFc (fun M_601 t H_599 locs ht hvm hw hB hz1 hk1 hS => ?_)
                                    have hWb := hW
                                    obtain ⟨hW, hF2, hG2, hp_602⟩ := hw
                                    obtain ⟨w16_603, hg_604, hP1, hD1⟩ := hB
                                    rw [ht] at hP1
                                    have hP : va_P D vwCl ([(za, .inr (13, [.int 0, .ref z1, .int (nI z2), .int (nI z3), .int z4, .int z5, .ref z6, .ref z7, .ref z8, .ref z9, .int (nI z10), .ref z11, .ref z12, .ref z13, .ref z14, .ref z15, .int (nI w16_603), .ref z17, .int z18, .ref z19]))] ++ va_pl L M_601) H_599 := hP1
                                    have hD : va_D A ([(za, .inr (13, [.int 0, .ref z1, .int (nI z2), .int (nI z3), .int z4, .int z5, .ref z6, .ref z7, .ref z8, .ref z9, .int (nI z10), .ref z11, .ref z12, .ref z13, .ref z14, .ref z15, .int (nI w16_603), .ref z17, .int z18, .ref z19]))] ++ va_pl L M_601) := hD1.mono hFc
                                    have hF : fr K L [12, 14, 15, 32, 42, 45, 46, 79, 80, 81, 83] M M_601 := hF.tr hF2 (by decide)
                                    have hG : fG K L [1, 7, 8, 13, 14, 15, 16, 17, 18] M M_601 := hG.tr hWb hG2 (by decide)
                                    have hV : VW K L M M_601 b13 (va_up (fx M b13) 17 ((gnw449 : Nat) : Int)) (va_up (va_up (ax M b13) 44 gpw449) 45 gqw449) := hV.cal hWb hW hF2 hG2 (by decide) (by decide) hb_15
                                    refine lv_iinc (v := (nI (v7w466 + 1))) (lv' := [(7, .int (nI (v7w466 + 1))), (6, .int (nI v457)), (5, .int (-1)), (4, .int (nI c_392)), (3, .int (nI (c_28 + 1))), (2, .ref b13), (0, .ref za), (1, .int k1)]) hx hb dX13_close_269 hl (k := 0) rfl (nI_1 v7w466) (by decide) rfl (fun ls hl => ?_)
                                    refine lv_goto (tgt := 254) hx hb dX13_close_272 (by decide) ?_
                                    exact ih_464 (v7w466 + 1) w16_603 M_601 H_599 _ _ (by omega) (by omega) (by omega) hW hF hG hV hP hD hS (lv_sub hl [0, 1, 2, 3, 4, 5, 6, 7] rfl)
                              exact key_463 (1001 - 0 + 1) 0 z16 M_460 H_458 _ _ (by omega) (by omega) (by omega) hW hF hG hV hP hD hS (lv_sub hl [0, 1, 2, 3, 4, 5, 6, 7] rfl)
                            · have hz := rfl (a := 0)
                              have n_605 : ¬ (c_392 < v6w449) := fun q => c_454 ((iLT (a := c_392) (b := v6w449) (by omega) (by omega)).mpr q)
                              obtain ⟨fs606, hM606, hn606, hl606⟩ := hW.open_12 hb_15
                              obtain ⟨v607, hv607, hc607⟩ : ∃ v : Nat, fs606[17]? = some (.int (nI v) : Value) ∧ v ≤ 120 := hl606 17 (by decide)
                              have hx17 : ((gnw449 : Nat) : Int) = ((v607 : Nat) : Int) := (congrFun hV.2.1 17).symm.trans ((fx_of hM606 rfl hv607).trans (nI_toInt (by omega)))
                              obtain ⟨v608, hv608, hc608⟩ : ∃ v : Nat, fs606[44]? = some (.ref v : Value) ∧ isk K L v 45 120 := hl606 44 (by decide)
                              obtain ⟨f609, hM609, hf609⟩ := hW.open_45 hc608
                              have hy44 : gpw449 = f609 := (congrFun hV.2.2.1 44).symm.trans (ax_of hM606 (by decide) hv608 hM609)
                              obtain ⟨v610, hv610, hc610⟩ : ∃ v : Nat, fs606[45]? = some (.ref v : Value) ∧ isk K L v 46 120 := hl606 45 (by decide)
                              obtain ⟨f611, hM611, hf611⟩ := hW.open_46 hc610
                              have hy45 : gqw449 = f611 := (congrFun hV.2.2.1 45).symm.trans (ax_of hM606 (by decide) hv610 hM611)
                              have hSD := hx_451
                              obtain ⟨hs1, hs2, hs3, hs4⟩ := hx_451
                              have hgn : v607 = gnw449 := by omega
                              refine lv_iload hx hb dX13_close_171 (lv_at hl 0 rfl) ?_
                              refine lv_iload_n hx hb dX13_close_173 rfl (lv_at hl 3 rfl) ?_
                              refine lv_icmp_eq (tgt := 186) hx hb dX13_close_174 (by decide) (fun c_612 => ?_) (fun c_612 => ?_)
                              · have hz := rfl (a := 0)
                                have n_613 : v6w449 = (c_28 + 1) := (iEQ (a := v6w449) (b := (c_28 + 1)) (by omega) (by omega)).mp c_612
                                refine lv_aload_n hx hb dX13_close_186 rfl (lv_at hl 4 rfl) ?_
                                refine pg_getN (D := D) (ci := 12) (v := .ref v608) (C := RX12) (T := TX12) (N := 51) hx hb hg inG12 hown hK hP hb_15.1 hM606 rfl 44 (by decide) (hN.use (Cond.fieldLinkNest RX13 265 RX12 "stretchDay" "[I" RX13) 53 rfl rfl) (fun _ h9 => h9) hv608 dX13_close_187 ?_
                                refine lv_aload_n hx hb dX13_close_190 rfl (lv_at hl 4 rfl) ?_
                                refine pg_getN (D := D) (ci := 12) (v := .int (nI v607)) (C := RX12) (T := TX12) (N := 51) hx hb hg inG12 hown hK hP hb_15.1 hM606 rfl 17 (by decide) (hN.use (Cond.fieldLinkNest RX13 256 RX12 "stretches" "I" RX13) 26 rfl rfl) (fun _ h9 => h9) hv607 dX13_close_191 ?_
                                refine lv_iload hx hb dX13_close_194 (lv_at hl 0 rfl) ?_
                                refine pg_iast hx hb hK hP hD hS hc608.1 0 hM609 rfl (inbN v607 120 (by omega) (by omega)) dX13_close_196 (fun H_614 locs hP hD hS => ?_)
                                obtain ⟨M_615, eM_615⟩ : ∃ M1 : Hp, M1 = va_up M_452 v608 (.inl (cy 14, 120, .inl (upd f609 ((nI v607) : Int32).toNatClampNeg (nI v6w449)))) := ⟨_, rfl⟩
                                have hy44 : gpw449 = f609 := (congrFun hV.2.2.1 44).symm.trans (ax_of hM606 (by decide) hv608 hM609)
                                have hV : VW K L M M_615 b13 (va_up (fx M b13) 17 ((gnw449 : Nat) : Int)) (va_up (va_up (va_up (ax M b13) 44 gpw449) 45 gqw449) 44 (upd gpw449 ((nI v607) : Int32).toNatClampNeg (nI v6w449))) := by rw [eM_615]; exact hV.ast (j := 44) hW hb_15 hM606 (by decide) hv608 hc608 hM609
                                have hP : va_P D vwCl ([(za, .inr (13, [.int 0, .ref z1, .int (nI z2), .int (nI z3), .int z4, .int z5, .ref z6, .ref z7, .ref z8, .ref z9, .int (nI z10), .ref z11, .ref z12, .ref z13, .ref z14, .ref z15, .int (nI z16), .ref z17, .int z18, .ref z19]))] ++ va_pl L M_615) H_614 := by rw [eM_615]; exact hP
                                have hD : va_D A ([(za, .inr (13, [.int 0, .ref z1, .int (nI z2), .int (nI z3), .int z4, .int z5, .ref z6, .ref z7, .ref z8, .ref z9, .int (nI z10), .ref z11, .ref z12, .ref z13, .ref z14, .ref z15, .int (nI z16), .ref z17, .int z18, .ref z19]))] ++ va_pl L M_615) := by rw [eM_615]; exact hD
                                have hW : WOM cy K L M_615 := by rw [eM_615]; exact hW.up_45 hc608 ⟨_, rfl, (updP (P := fun z => ∃ c : Nat, c < 1000 ∧ z = nI c) hf609 ⟨v6w449, by omega, rfl⟩)⟩
                                have hF : fr K L [12, 14, 15, 32, 42, 45, 46, 79, 80, 81, 83] M M_615 := by rw [eM_615]; exact hF.up hc608 (by decide)
                                have hG : fG K L [1, 7, 8, 13, 14, 15, 16, 17, 18] M M_615 := by rw [eM_615]; exact hG.arr hc608 (by decide)
                                have hM_616 : M_615 v608 = .inl (cy 14, 120, .inl (upd f609 ((nI v607) : Int32).toNatClampNeg (nI v6w449))) := by rw [eM_615]; exact va_up_self _ _ _
                                have hM_617 : M_615 b13 = .inr (12, fs606) := by rw [eM_615, va_up_ne _ _ (hb_15.neT hc608 (by decide))]; exact hM606
                                have hM_618 : M_615 v610 = .inl (cy 14, 120, .inl (f611)) := by rw [eM_615, va_up_ne _ _ (hc610.neT hc608 (by decide))]; exact hM611
                                have hf_620 : ∀ j, j < 120 → ∃ c : Nat, c < 1000 ∧ (upd f609 ((nI v607) : Int32).toNatClampNeg (nI v6w449)) j = nI c := (updP (P := fun z => ∃ c : Nat, c < 1000 ∧ z = nI c) hf609 ⟨v6w449, by omega, rfl⟩)
                                obtain ⟨f_619, ef_619⟩ : ∃ f : Nat → Int32, f = upd f609 ((nI v607) : Int32).toNatClampNeg (nI v6w449) := ⟨_, rfl⟩
                                rw [← ef_619] at hM_616 hf_620
                                refine lv_aload_n hx hb dX13_close_197 rfl (lv_at hl 4 rfl) ?_
                                refine pg_getN (D := D) (ci := 12) (v := .ref v610) (C := RX12) (T := TX12) (N := 51) hx hb hg inG12 hown hK hP hb_15.1 hM_617 rfl 45 (by decide) (hN.use (Cond.fieldLinkNest RX13 268 RX12 "stretchDays" "[I" RX13) 54 rfl rfl) (fun _ h9 => h9) hv610 dX13_close_198 ?_
                                refine lv_aload_n hx hb dX13_close_201 rfl (lv_at hl 4 rfl) ?_
                                refine pg_getN (D := D) (ci := 12) (v := .int (nI v607)) (C := RX12) (T := TX12) (N := 51) hx hb hg inG12 hown hK hP hb_15.1 hM_617 rfl 17 (by decide) (hN.use (Cond.fieldLinkNest RX13 256 RX12 "stretches" "I" RX13) 26 rfl rfl) (fun _ h9 => h9) hv607 dX13_close_202 ?_
                                refine lv_iconst (v := 0) hx hb dX13_close_205 (by decide) ?_
                                refine pg_iast hx hb hK hP hD hS hc610.1 0 hM_618 rfl (inbN v607 120 (by omega) (by omega)) dX13_close_206 (fun H_621 locs hP hD hS => ?_)
                                obtain ⟨M_622, eM_622⟩ : ∃ M1 : Hp, M1 = va_up M_615 v610 (.inl (cy 14, 120, .inl (upd f611 ((nI v607) : Int32).toNatClampNeg 0))) := ⟨_, rfl⟩
                                have hy45 : gqw449 = f611 := (congrFun hV.2.2.1 45).symm.trans (ax_of hM_617 (by decide) hv610 hM_618)
                                have hV : VW K L M M_622 b13 (va_up (fx M b13) 17 ((gnw449 : Nat) : Int)) (va_up (va_up (va_up (va_up (ax M b13) 44 gpw449) 45 gqw449) 44 (upd gpw449 ((nI v607) : Int32).toNatClampNeg (nI v6w449))) 45 (upd gqw449 ((nI v607) : Int32).toNatClampNeg 0)) := by rw [eM_622]; exact hV.ast (j := 45) hW hb_15 hM_617 (by decide) hv610 hc610 hM_618
                                have hP : va_P D vwCl ([(za, .inr (13, [.int 0, .ref z1, .int (nI z2), .int (nI z3), .int z4, .int z5, .ref z6, .ref z7, .ref z8, .ref z9, .int (nI z10), .ref z11, .ref z12, .ref z13, .ref z14, .ref z15, .int (nI z16), .ref z17, .int z18, .ref z19]))] ++ va_pl L M_622) H_621 := by rw [eM_622]; exact hP
                                have hD : va_D A ([(za, .inr (13, [.int 0, .ref z1, .int (nI z2), .int (nI z3), .int z4, .int z5, .ref z6, .ref z7, .ref z8, .ref z9, .int (nI z10), .ref z11, .ref z12, .ref z13, .ref z14, .ref z15, .int (nI z16), .ref z17, .int z18, .ref z19]))] ++ va_pl L M_622) := by rw [eM_622]; exact hD
                                have hW : WOM cy K L M_622 := by rw [eM_622]; exact hW.up_46 hc610 ⟨_, rfl, (updP (P := fun z => ∃ c : Nat, c < 1001 ∧ z = nI c) hf611 ⟨0, by omega, rfl⟩)⟩
                                have hF : fr K L [12, 14, 15, 32, 42, 45, 46, 79, 80, 81, 83] M M_622 := by rw [eM_622]; exact hF.up hc610 (by decide)
                                have hG : fG K L [1, 7, 8, 13, 14, 15, 16, 17, 18] M M_622 := by rw [eM_622]; exact hG.arr hc610 (by decide)
                                have hM_623 : M_622 v610 = .inl (cy 14, 120, .inl (upd f611 ((nI v607) : Int32).toNatClampNeg 0)) := by rw [eM_622]; exact va_up_self _ _ _
                                have hM_624 : M_622 v608 = .inl (cy 14, 120, .inl (f_619)) := by rw [eM_622, va_up_ne _ _ (hc608.neT hc610 (by decide))]; exact hM_616
                                have hM_625 : M_622 b13 = .inr (12, fs606) := by rw [eM_622, va_up_ne _ _ (hb_15.neT hc610 (by decide))]; exact hM_617
                                have hf_627 : ∀ j, j < 120 → ∃ c : Nat, c < 1001 ∧ (upd f611 ((nI v607) : Int32).toNatClampNeg 0) j = nI c := (updP (P := fun z => ∃ c : Nat, c < 1001 ∧ z = nI c) hf611 ⟨0, by omega, rfl⟩)
                                obtain ⟨f_626, ef_626⟩ : ∃ f : Nat → Int32, f = upd f611 ((nI v607) : Int32).toNatClampNeg 0 := ⟨_, rfl⟩
                                rw [← ef_626] at hM_623 hf_627
                                refine lv_aload_n hx hb dX13_close_207 rfl (lv_at hl 4 rfl) ?_
                                refine lv_dup hx hb dX13_close_208 rfl ?_
                                refine pg_getN (D := D) (ci := 12) (v := .int (nI v607)) (C := RX12) (T := TX12) (N := 51) hx hb hg inG12 hown hK hP hb_15.1 hM_625 rfl 17 (by decide) (hN.use (Cond.fieldLinkNest RX13 256 RX12 "stretches" "I" RX13) 26 rfl rfl) (fun _ h9 => h9) hv607 dX13_close_209 ?_
                                refine lv_iconst (v := 1) hx hb dX13_close_212 (by decide) ?_
                                refine lv_iadd hx hb dX13_close_213 ?_
                                refine lv_topi (fun f_628 ef_628 => ?_)
                                obtain rfl : f_628 = (nI (v607 + 1)) := ef_628.trans (nI_add v607 1)
                                refine pg_putN (D := D) (ci := 12) (v := .int (nI (v607 + 1))) (ty := .int) (C := RX12) (T := TX12) (N := 51) hx hb hg inG12 tyX12 tyX12_ok nmX12 hown hK hP hD hS hb_15.1 hM_625 rfl 17 (by decide) (hN.use (Cond.fieldLinkNest RX13 256 RX12 "stretches" "I" RX13) 26 rfl rfl) (fun _ h9 => h9) rfl (by decide +kernel) rfl rfl (by rw [hn606]; decide) dX13_close_214 (fun H_629 locs hP hD hS => ?_)
                                have hs_632 : (fs606.set 17 (.int (nI (v607 + 1))))[17]? = some (.int (nI (v607 + 1))) := List.getElem?_set_self (by rw [hn606]; decide)
                                have hk_631 := fld12_set (k := 17) (w := .int (nI (v607 + 1))) hl606 (show fld12 K L 17 (fs606.set 17 (.int (nI (v607 + 1)))) from ⟨(v607 + 1), hs_632, by omega⟩)
                                have hn_633 : (fs606.set 17 (.int (nI (v607 + 1)))).length = 51 := by rw [List.length_set]; exact hn606
                                have hv_634 : (fs606.set 17 (.int (nI (v607 + 1))))[44]? = some (.ref v608) := by rw [List.getElem?_set_ne (by decide)]; exact hv608
                                have hv_635 : (fs606.set 17 (.int (nI (v607 + 1))))[45]? = some (.ref v610) := by rw [List.getElem?_set_ne (by decide)]; exact hv610
                                have hb_636 : (v607 + 1) ≤ 120 := by omega
                                obtain ⟨M_637, eM_637⟩ : ∃ M1 : Hp, M1 = va_up M_622 b13 (.inr (12, fs606.set 17 (.int (nI (v607 + 1))))) := ⟨_, rfl⟩
                                have hx17 : ((gnw449 : Nat) : Int) = ((v607 : Nat) : Int) := (congrFun hV.2.1 17).symm.trans ((fx_of hM_625 rfl hv607).trans (nI_toInt (by omega)))
                                have hV : VW K L M M_637 b13 (va_up (va_up (fx M b13) 17 ((gnw449 : Nat) : Int)) 17 (((v607 + 1) : Nat) : Int)) (va_up (va_up (va_up (va_up (ax M b13) 44 gpw449) 45 gqw449) 44 (upd gpw449 ((nI v607) : Int32).toNatClampNeg (nI v6w449))) 45 (upd gqw449 ((nI v607) : Int32).toNatClampNeg 0)) := by rw [eM_637]; exact hV.put hW hb_15 hM_625 hn606 rfl (by decide) rfl (nI_toInt (by omega))
                                have hP : va_P D vwCl ([(za, .inr (13, [.int 0, .ref z1, .int (nI z2), .int (nI z3), .int z4, .int z5, .ref z6, .ref z7, .ref z8, .ref z9, .int (nI z10), .ref z11, .ref z12, .ref z13, .ref z14, .ref z15, .int (nI z16), .ref z17, .int z18, .ref z19]))] ++ va_pl L M_637) H_629 := by rw [eM_637]; exact hP
                                have hD : va_D A ([(za, .inr (13, [.int 0, .ref z1, .int (nI z2), .int (nI z3), .int z4, .int z5, .ref z6, .ref z7, .ref z8, .ref z9, .int (nI z10), .ref z11, .ref z12, .ref z13, .ref z14, .ref z15, .int (nI z16), .ref z17, .int z18, .ref z19]))] ++ va_pl L M_637) := by rw [eM_637]; exact hD
                                have hW : WOM cy K L M_637 := by rw [eM_637]; exact hW.up_12 hb_15 ⟨_, rfl, hn_633, hk_631⟩
                                have hF : fr K L [12, 14, 15, 32, 42, 45, 46, 79, 80, 81, 83] M M_637 := by rw [eM_637]; exact hF.up hb_15 (by decide)
                                have hG : fG K L [1, 7, 8, 13, 14, 15, 16, 17, 18] M M_637 := by rw [eM_637]; exact hG.up hM_625 (by decide)
                                have hM_638 : M_637 b13 = .inr (12, fs606.set 17 (.int (nI (v607 + 1)))) := by rw [eM_637]; exact va_up_self _ _ _
                                have hM_639 : M_637 v610 = .inl (cy 14, 120, .inl (f_626)) := by rw [eM_637, va_up_ne _ _ (hc610.neT hb_15 (by decide))]; exact hM_623
                                have hM_640 : M_637 v608 = .inl (cy 14, 120, .inl (f_619)) := by rw [eM_637, va_up_ne _ _ (hc608.neT hb_15 (by decide))]; exact hM_624
                                refine lv_aload_n hx hb dX13_close_217 rfl (lv_at hl 4 rfl) ?_
                                refine pg_getN (D := D) (ci := 12) (v := .ref v610) (C := RX12) (T := TX12) (N := 51) hx hb hg inG12 hown hK hP hb_15.1 hM_638 rfl 45 (by decide) (hN.use (Cond.fieldLinkNest RX13 268 RX12 "stretchDays" "[I" RX13) 54 rfl rfl) (fun _ h9 => h9) hv_635 dX13_close_218 ?_
                                refine lv_aload_n hx hb dX13_close_221 rfl (lv_at hl 4 rfl) ?_
                                refine pg_getN (D := D) (ci := 12) (v := .int (nI (v607 + 1))) (C := RX12) (T := TX12) (N := 51) hx hb hg inG12 hown hK hP hb_15.1 hM_638 rfl 17 (by decide) (hN.use (Cond.fieldLinkNest RX13 256 RX12 "stretches" "I" RX13) 26 rfl rfl) (fun _ h9 => h9) hs_632 dX13_close_222 ?_
                                refine lv_iconst (v := 1) hx hb dX13_close_225 (by decide) ?_
                                refine lv_isub hx hb dX13_close_226 ?_
                                refine lv_topi (fun f_641 ef_641 => ?_)
                                obtain rfl : f_641 = (nI ((v607 + 1) - 1)) := ef_641.trans (nI_prd (by omega))
                                refine lv_dup2_11 hx hb dX13_close_227 rfl rfl ?_
                                have hi_642 : vp_in (nI ((v607 + 1) - 1)) 120 := (inbN ((v607 + 1) - 1) 120 (by omega) (by omega))
                                refine pg_iald hx hb hK hP hc610.1 0 hM_639 rfl hi_642 dX13_close_228 ?_
                                have hp_643 := hf_627 _ (vp_lt hi_642)
                                obtain ⟨c_644, hc_645, ec_646⟩ := hp_643
                                rw [ec_646]
                                have hy45 : (upd gqw449 ((nI v607) : Int32).toNatClampNeg 0) = f_626 := (congrFun hV.2.2.1 45).symm.trans (ax_of hM_638 (by decide) hv_635 hM_639)
                                have hec : (upd gqw449 ((nI v607) : Int32).toNatClampNeg 0) ((nI ((v607 + 1) - 1)) : Int32).toNatClampNeg = nI c_644 := by rw [hy45]; exact ec_646
                                have hcc : c_644 = 0 := updz (n := v607) (nI_cl (by omega)) ((nI_cl (by omega)).trans (by omega)) hec (by omega)
                                refine lv_iconst (v := 1) hx hb dX13_close_229 (by decide) ?_
                                refine lv_iadd hx hb dX13_close_230 ?_
                                refine lv_topi (fun f_647 ef_647 => ?_)
                                obtain rfl : f_647 = (nI (c_644 + 1)) := ef_647.trans (nI_add c_644 1)
                                refine pg_iast hx hb hK hP hD hS hc610.1 0 hM_639 rfl (inbN ((v607 + 1) - 1) 120 (by omega) (by omega)) dX13_close_231 (fun H_648 locs hP hD hS => ?_)
                                obtain ⟨M_649, eM_649⟩ : ∃ M1 : Hp, M1 = va_up M_637 v610 (.inl (cy 14, 120, .inl (upd f_626 ((nI ((v607 + 1) - 1)) : Int32).toNatClampNeg (nI (c_644 + 1))))) := ⟨_, rfl⟩
                                have hy45 : (upd gqw449 ((nI v607) : Int32).toNatClampNeg 0) = f_626 := (congrFun hV.2.2.1 45).symm.trans (ax_of hM_638 (by decide) hv_635 hM_639)
                                have hV : VW K L M M_649 b13 (va_up (va_up (fx M b13) 17 ((gnw449 : Nat) : Int)) 17 (((v607 + 1) : Nat) : Int)) (va_up (va_up (va_up (va_up (va_up (ax M b13) 44 gpw449) 45 gqw449) 44 (upd gpw449 ((nI v607) : Int32).toNatClampNeg (nI v6w449))) 45 (upd gqw449 ((nI v607) : Int32).toNatClampNeg 0)) 45 (upd (upd gqw449 ((nI v607) : Int32).toNatClampNeg 0) ((nI ((v607 + 1) - 1)) : Int32).toNatClampNeg (nI (c_644 + 1)))) := by rw [eM_649]; exact hV.ast (j := 45) hW hb_15 hM_638 (by decide) hv_635 hc610 hM_639
                                have hP : va_P D vwCl ([(za, .inr (13, [.int 0, .ref z1, .int (nI z2), .int (nI z3), .int z4, .int z5, .ref z6, .ref z7, .ref z8, .ref z9, .int (nI z10), .ref z11, .ref z12, .ref z13, .ref z14, .ref z15, .int (nI z16), .ref z17, .int z18, .ref z19]))] ++ va_pl L M_649) H_648 := by rw [eM_649]; exact hP
                                have hD : va_D A ([(za, .inr (13, [.int 0, .ref z1, .int (nI z2), .int (nI z3), .int z4, .int z5, .ref z6, .ref z7, .ref z8, .ref z9, .int (nI z10), .ref z11, .ref z12, .ref z13, .ref z14, .ref z15, .int (nI z16), .ref z17, .int z18, .ref z19]))] ++ va_pl L M_649) := by rw [eM_649]; exact hD
                                have hW : WOM cy K L M_649 := by rw [eM_649]; exact hW.up_46 hc610 ⟨_, rfl, (updP (P := fun z => ∃ c : Nat, c < 1001 ∧ z = nI c) hf_627 ⟨(c_644 + 1), by omega, rfl⟩)⟩
                                have hF : fr K L [12, 14, 15, 32, 42, 45, 46, 79, 80, 81, 83] M M_649 := by rw [eM_649]; exact hF.up hc610 (by decide)
                                have hG : fG K L [1, 7, 8, 13, 14, 15, 16, 17, 18] M M_649 := by rw [eM_649]; exact hG.arr hc610 (by decide)
                                have hM_650 : M_649 v610 = .inl (cy 14, 120, .inl (upd f_626 ((nI ((v607 + 1) - 1)) : Int32).toNatClampNeg (nI (c_644 + 1)))) := by rw [eM_649]; exact va_up_self _ _ _
                                have hM_651 : M_649 b13 = .inr (12, fs606.set 17 (.int (nI (v607 + 1)))) := by rw [eM_649, va_up_ne _ _ (hb_15.neT hc610 (by decide))]; exact hM_638
                                have hM_652 : M_649 v608 = .inl (cy 14, 120, .inl (f_619)) := by rw [eM_649, va_up_ne _ _ (hc608.neT hc610 (by decide))]; exact hM_640
                                have hf_654 : ∀ j, j < 120 → ∃ c : Nat, c < 1001 ∧ (upd f_626 ((nI ((v607 + 1) - 1)) : Int32).toNatClampNeg (nI (c_644 + 1))) j = nI c := (updP (P := fun z => ∃ c : Nat, c < 1001 ∧ z = nI c) hf_627 ⟨(c_644 + 1), by omega, rfl⟩)
                                obtain ⟨f_653, ef_653⟩ : ∃ f : Nat → Int32, f = upd f_626 ((nI ((v607 + 1) - 1)) : Int32).toNatClampNeg (nI (c_644 + 1)) := ⟨_, rfl⟩
                                rw [← ef_653] at hM_650 hf_654
                                refine lv_iinc (v := (nI (v6w449 + 1))) (lv' := [(6, .int (nI (v6w449 + 1))), (5, .int (-1)), (4, .int (nI c_392)), (3, .int (nI (c_28 + 1))), (2, .ref b13), (0, .ref za), (1, .int k1)]) hx hb dX13_close_232 hl (k := 0) rfl (nI_1 v6w449) (by decide) rfl (fun ls hl => ?_)
                                refine lv_goto (tgt := 164) hx hb dX13_close_235 (by decide) ?_
                                exact ih_447 (v6w449 + 1) (v607 + 1) (upd gpw449 ((nI v607) : Int32).toNatClampNeg (nI v6w449)) (upd (upd gqw449 ((nI v607) : Int32).toNatClampNeg 0) ((nI ((v607 + 1) - 1)) : Int32).toNatClampNeg (nI (c_644 + 1))) M_649 H_648 _ _ (by omega) (by omega) (by have h := SD.new hSD (by omega) (show (nI v607).toNatClampNeg = gnw449 from (nI_cl (by omega)).trans (by omega)) (show (nI ((v607 + 1) - 1)).toNatClampNeg = gnw449 from (nI_cl (by omega)).trans (by omega)) hcc; rw [← hgn] at h; exact h) hW hF hG (by have h := hV; simp only [va_up_up] at h; rw [va_up_4] at h; exact h) hP hD hS (lv_sub hl [0, 1, 2, 3, 4, 5, 6] rfl)
                              · have hz := rfl (a := 0)
                                have n_655 : ¬ (v6w449 = (c_28 + 1)) := fun q => c_612 ((iEQ (a := v6w449) (b := (c_28 + 1)) (by omega) (by omega)).mpr q)
                                refine lv_aload_n hx hb dX13_close_177 rfl (lv_at hl 4 rfl) ?_
                                refine lv_iload hx hb dX13_close_178 (lv_at hl 0 rfl) ?_
                                have hPc : va_P D vwCl ([] ++ va_pl L M_452) H_453 := hP.part (cx := []) [] rfl
                                have hDc : va_D A ([] ++ va_pl L M_452) := hD.part (cx := []) [] (by decide) rfl
                                have hFc : ∀ q, va_A ([] ++ va_pl L M_452) H_453.size q → A q := pg_free hDc hS hA
                                refine va_calli (va_runS (As := [.ref b13, .int (nI v6w449)]) (rest := []) ⟨hx, hb, hml, hown, hg⟩ (r_X13_isParted l D cy K L M_452 H_453.size b13 (nI v6w449)  hW hb_15) (va_cwS 2 hg (gS wd_879 wd_880 wd_717 wd_881) rfl rfl rfl (by decide +kernel) ⟨(Nat.le_trans (Nat.le_of_ble_eq_true rfl) hRf), (Nat.le_trans (Nat.le_of_ble_eq_true rfl) hRl)⟩) ⟨PG.blind, fun U hU hW => ⟨rfl, PG.at hPc hK hDc hN hU hW⟩⟩ rfl rfl hl.1 rfl (lv_room (Nat.le_of_ble_eq_true rfl)) dX13_close_180 ⟨(Nat.le_trans (Nat.le_of_ble_eq_true rfl) hRc), (Nat.le_trans (Nat.le_of_ble_eq_true rfl) hRs)⟩) hS (fun q _ h => hFc q h) hFc (fun r_657 M_658 t H_656 locs ht hvm hw hB hz1 hk1 hS => ?_)
                                have hp_659 := hw
                                obtain ⟨hP1, hD1⟩ := hB
                                rw [ht] at hP1
                                obtain ⟨hP, hD⟩ := va_joinP (X := [(za, .inr (13, [.int 0, .ref z1, .int (nI z2), .int (nI z3), .int z4, .int z5, .ref z6, .ref z7, .ref z8, .ref z9, .int (nI z10), .ref z11, .ref z12, .ref z13, .ref z14, .ref z15, .int (nI z16), .ref z17, .int z18, .ref z19]))]) (cx := []) (wr := [(za, .inr (13, [.int 0, .ref z1, .int (nI z2), .int (nI z3), .int z4, .int z5, .ref z6, .ref z7, .ref z8, .ref z9, .int (nI z10), .ref z11, .ref z12, .ref z13, .ref z14, .ref z15, .int (nI z16), .ref z17, .int z18, .ref z19]))]) (rx := []) (pl := va_pl L M_452) (pl1 := va_pl L M_452) hP hD [] [0] rfl rfl (by decide) (by decide) hk1 hFc hP1 hD1
                                have hP : va_P D vwCl ([(za, .inr (13, [.int 0, .ref z1, .int (nI z2), .int (nI z3), .int z4, .int z5, .ref z6, .ref z7, .ref z8, .ref z9, .int (nI z10), .ref z11, .ref z12, .ref z13, .ref z14, .ref z15, .int (nI z16), .ref z17, .int z18, .ref z19]))] ++ va_pl L M_452) H_656 := hP
                                have hD : va_D A ([(za, .inr (13, [.int 0, .ref z1, .int (nI z2), .int (nI z3), .int z4, .int z5, .ref z6, .ref z7, .ref z8, .ref z9, .int (nI z10), .ref z11, .ref z12, .ref z13, .ref z14, .ref z15, .int (nI z16), .ref z17, .int z18, .ref z19]))] ++ va_pl L M_452) := hD
                                rcases hp_659 with rfl | rfl
                                · have hz := rfl (a := 0)
                                  refine lv_if_eq (tgt := 217) hx hb dX13_close_183 (by decide) (fun c_660 => absurd c_660 (by decide)) (fun _ => ?_)
                                  refine lv_aload_n hx hb dX13_close_186 rfl (lv_at hl 4 rfl) ?_
                                  refine pg_getN (D := D) (ci := 12) (v := .ref v608) (C := RX12) (T := TX12) (N := 51) hx hb hg inG12 hown hK hP hb_15.1 hM606 rfl 44 (by decide) (hN.use (Cond.fieldLinkNest RX13 265 RX12 "stretchDay" "[I" RX13) 53 rfl rfl) (fun _ h9 => h9) hv608 dX13_close_187 ?_
                                  refine lv_aload_n hx hb dX13_close_190 rfl (lv_at hl 4 rfl) ?_
                                  refine pg_getN (D := D) (ci := 12) (v := .int (nI v607)) (C := RX12) (T := TX12) (N := 51) hx hb hg inG12 hown hK hP hb_15.1 hM606 rfl 17 (by decide) (hN.use (Cond.fieldLinkNest RX13 256 RX12 "stretches" "I" RX13) 26 rfl rfl) (fun _ h9 => h9) hv607 dX13_close_191 ?_
                                  refine lv_iload hx hb dX13_close_194 (lv_at hl 0 rfl) ?_
                                  refine pg_iast hx hb hK hP hD hS hc608.1 0 hM609 rfl (inbN v607 120 (by omega) (by omega)) dX13_close_196 (fun H_661 locs hP hD hS => ?_)
                                  obtain ⟨M_662, eM_662⟩ : ∃ M1 : Hp, M1 = va_up M_452 v608 (.inl (cy 14, 120, .inl (upd f609 ((nI v607) : Int32).toNatClampNeg (nI v6w449)))) := ⟨_, rfl⟩
                                  have hy44 : gpw449 = f609 := (congrFun hV.2.2.1 44).symm.trans (ax_of hM606 (by decide) hv608 hM609)
                                  have hV : VW K L M M_662 b13 (va_up (fx M b13) 17 ((gnw449 : Nat) : Int)) (va_up (va_up (va_up (ax M b13) 44 gpw449) 45 gqw449) 44 (upd gpw449 ((nI v607) : Int32).toNatClampNeg (nI v6w449))) := by rw [eM_662]; exact hV.ast (j := 44) hW hb_15 hM606 (by decide) hv608 hc608 hM609
                                  have hP : va_P D vwCl ([(za, .inr (13, [.int 0, .ref z1, .int (nI z2), .int (nI z3), .int z4, .int z5, .ref z6, .ref z7, .ref z8, .ref z9, .int (nI z10), .ref z11, .ref z12, .ref z13, .ref z14, .ref z15, .int (nI z16), .ref z17, .int z18, .ref z19]))] ++ va_pl L M_662) H_661 := by rw [eM_662]; exact hP
                                  have hD : va_D A ([(za, .inr (13, [.int 0, .ref z1, .int (nI z2), .int (nI z3), .int z4, .int z5, .ref z6, .ref z7, .ref z8, .ref z9, .int (nI z10), .ref z11, .ref z12, .ref z13, .ref z14, .ref z15, .int (nI z16), .ref z17, .int z18, .ref z19]))] ++ va_pl L M_662) := by rw [eM_662]; exact hD
                                  have hW : WOM cy K L M_662 := by rw [eM_662]; exact hW.up_45 hc608 ⟨_, rfl, (updP (P := fun z => ∃ c : Nat, c < 1000 ∧ z = nI c) hf609 ⟨v6w449, by omega, rfl⟩)⟩
                                  have hF : fr K L [12, 14, 15, 32, 42, 45, 46, 79, 80, 81, 83] M M_662 := by rw [eM_662]; exact hF.up hc608 (by decide)
                                  have hG : fG K L [1, 7, 8, 13, 14, 15, 16, 17, 18] M M_662 := by rw [eM_662]; exact hG.arr hc608 (by decide)
                                  have hM_663 : M_662 v608 = .inl (cy 14, 120, .inl (upd f609 ((nI v607) : Int32).toNatClampNeg (nI v6w449))) := by rw [eM_662]; exact va_up_self _ _ _
                                  have hM_664 : M_662 b13 = .inr (12, fs606) := by rw [eM_662, va_up_ne _ _ (hb_15.neT hc608 (by decide))]; exact hM606
                                  have hM_665 : M_662 v610 = .inl (cy 14, 120, .inl (f611)) := by rw [eM_662, va_up_ne _ _ (hc610.neT hc608 (by decide))]; exact hM611
                                  have hf_667 : ∀ j, j < 120 → ∃ c : Nat, c < 1000 ∧ (upd f609 ((nI v607) : Int32).toNatClampNeg (nI v6w449)) j = nI c := (updP (P := fun z => ∃ c : Nat, c < 1000 ∧ z = nI c) hf609 ⟨v6w449, by omega, rfl⟩)
                                  obtain ⟨f_666, ef_666⟩ : ∃ f : Nat → Int32, f = upd f609 ((nI v607) : Int32).toNatClampNeg (nI v6w449) := ⟨_, rfl⟩
                                  rw [← ef_666] at hM_663 hf_667
                                  refine lv_aload_n hx hb dX13_close_197 rfl (lv_at hl 4 rfl) ?_
                                  refine pg_getN (D := D) (ci := 12) (v := .ref v610) (C := RX12) (T := TX12) (N := 51) hx hb hg inG12 hown hK hP hb_15.1 hM_664 rfl 45 (by decide) (hN.use (Cond.fieldLinkNest RX13 268 RX12 "stretchDays" "[I" RX13) 54 rfl rfl) (fun _ h9 => h9) hv610 dX13_close_198 ?_
                                  refine lv_aload_n hx hb dX13_close_201 rfl (lv_at hl 4 rfl) ?_
                                  refine pg_getN (D := D) (ci := 12) (v := .int (nI v607)) (C := RX12) (T := TX12) (N := 51) hx hb hg inG12 hown hK hP hb_15.1 hM_664 rfl 17 (by decide) (hN.use (Cond.fieldLinkNest RX13 256 RX12 "stretches" "I" RX13) 26 rfl rfl) (fun _ h9 => h9) hv607 dX13_close_202 ?_
                                  refine lv_iconst (v := 0) hx hb dX13_close_205 (by decide) ?_
                                  refine pg_iast hx hb hK hP hD hS hc610.1 0 hM_665 rfl (inbN v607 120 (by omega) (by omega)) dX13_close_206 (fun H_668 locs hP hD hS => ?_)
                                  obtain ⟨M_669, eM_669⟩ : ∃ M1 : Hp, M1 = va_up M_662 v610 (.inl (cy 14, 120, .inl (upd f611 ((nI v607) : Int32).toNatClampNeg 0))) := ⟨_, rfl⟩
                                  have hy45 : gqw449 = f611 := (congrFun hV.2.2.1 45).symm.trans (ax_of hM_664 (by decide) hv610 hM_665)
                                  have hV : VW K L M M_669 b13 (va_up (fx M b13) 17 ((gnw449 : Nat) : Int)) (va_up (va_up (va_up (va_up (ax M b13) 44 gpw449) 45 gqw449) 44 (upd gpw449 ((nI v607) : Int32).toNatClampNeg (nI v6w449))) 45 (upd gqw449 ((nI v607) : Int32).toNatClampNeg 0)) := by rw [eM_669]; exact hV.ast (j := 45) hW hb_15 hM_664 (by decide) hv610 hc610 hM_665
                                  have hP : va_P D vwCl ([(za, .inr (13, [.int 0, .ref z1, .int (nI z2), .int (nI z3), .int z4, .int z5, .ref z6, .ref z7, .ref z8, .ref z9, .int (nI z10), .ref z11, .ref z12, .ref z13, .ref z14, .ref z15, .int (nI z16), .ref z17, .int z18, .ref z19]))] ++ va_pl L M_669) H_668 := by rw [eM_669]; exact hP
                                  have hD : va_D A ([(za, .inr (13, [.int 0, .ref z1, .int (nI z2), .int (nI z3), .int z4, .int z5, .ref z6, .ref z7, .ref z8, .ref z9, .int (nI z10), .ref z11, .ref z12, .ref z13, .ref z14, .ref z15, .int (nI z16), .ref z17, .int z18, .ref z19]))] ++ va_pl L M_669) := by rw [eM_669]; exact hD
                                  have hW : WOM cy K L M_669 := by rw [eM_669]; exact hW.up_46 hc610 ⟨_, rfl, (updP (P := fun z => ∃ c : Nat, c < 1001 ∧ z = nI c) hf611 ⟨0, by omega, rfl⟩)⟩
                                  have hF : fr K L [12, 14, 15, 32, 42, 45, 46, 79, 80, 81, 83] M M_669 := by rw [eM_669]; exact hF.up hc610 (by decide)
                                  have hG : fG K L [1, 7, 8, 13, 14, 15, 16, 17, 18] M M_669 := by rw [eM_669]; exact hG.arr hc610 (by decide)
                                  have hM_670 : M_669 v610 = .inl (cy 14, 120, .inl (upd f611 ((nI v607) : Int32).toNatClampNeg 0)) := by rw [eM_669]; exact va_up_self _ _ _
                                  have hM_671 : M_669 v608 = .inl (cy 14, 120, .inl (f_666)) := by rw [eM_669, va_up_ne _ _ (hc608.neT hc610 (by decide))]; exact hM_663
                                  have hM_672 : M_669 b13 = .inr (12, fs606) := by rw [eM_669, va_up_ne _ _ (hb_15.neT hc610 (by decide))]; exact hM_664
                                  have hf_674 : ∀ j, j < 120 → ∃ c : Nat, c < 1001 ∧ (upd f611 ((nI v607) : Int32).toNatClampNeg 0) j = nI c := (updP (P := fun z => ∃ c : Nat, c < 1001 ∧ z = nI c) hf611 ⟨0, by omega, rfl⟩)
                                  obtain ⟨f_673, ef_673⟩ : ∃ f : Nat → Int32, f = upd f611 ((nI v607) : Int32).toNatClampNeg 0 := ⟨_, rfl⟩
                                  rw [← ef_673] at hM_670 hf_674
                                  refine lv_aload_n hx hb dX13_close_207 rfl (lv_at hl 4 rfl) ?_
                                  refine lv_dup hx hb dX13_close_208 rfl ?_
                                  refine pg_getN (D := D) (ci := 12) (v := .int (nI v607)) (C := RX12) (T := TX12) (N := 51) hx hb hg inG12 hown hK hP hb_15.1 hM_672 rfl 17 (by decide) (hN.use (Cond.fieldLinkNest RX13 256 RX12 "stretches" "I" RX13) 26 rfl rfl) (fun _ h9 => h9) hv607 dX13_close_209 ?_
                                  refine lv_iconst (v := 1) hx hb dX13_close_212 (by decide) ?_
                                  refine lv_iadd hx hb dX13_close_213 ?_
                                  refine lv_topi (fun f_675 ef_675 => ?_)
                                  obtain rfl : f_675 = (nI (v607 + 1)) := ef_675.trans (nI_add v607 1)
                                  refine pg_putN (D := D) (ci := 12) (v := .int (nI (v607 + 1))) (ty := .int) (C := RX12) (T := TX12) (N := 51) hx hb hg inG12 tyX12 tyX12_ok nmX12 hown hK hP hD hS hb_15.1 hM_672 rfl 17 (by decide) (hN.use (Cond.fieldLinkNest RX13 256 RX12 "stretches" "I" RX13) 26 rfl rfl) (fun _ h9 => h9) rfl (by decide +kernel) rfl rfl (by rw [hn606]; decide) dX13_close_214 (fun H_676 locs hP hD hS => ?_)
                                  have hs_679 : (fs606.set 17 (.int (nI (v607 + 1))))[17]? = some (.int (nI (v607 + 1))) := List.getElem?_set_self (by rw [hn606]; decide)
                                  have hk_678 := fld12_set (k := 17) (w := .int (nI (v607 + 1))) hl606 (show fld12 K L 17 (fs606.set 17 (.int (nI (v607 + 1)))) from ⟨(v607 + 1), hs_679, by omega⟩)
                                  have hn_680 : (fs606.set 17 (.int (nI (v607 + 1)))).length = 51 := by rw [List.length_set]; exact hn606
                                  have hv_681 : (fs606.set 17 (.int (nI (v607 + 1))))[44]? = some (.ref v608) := by rw [List.getElem?_set_ne (by decide)]; exact hv608
                                  have hv_682 : (fs606.set 17 (.int (nI (v607 + 1))))[45]? = some (.ref v610) := by rw [List.getElem?_set_ne (by decide)]; exact hv610
                                  have hb_683 : (v607 + 1) ≤ 120 := by omega
                                  obtain ⟨M_684, eM_684⟩ : ∃ M1 : Hp, M1 = va_up M_669 b13 (.inr (12, fs606.set 17 (.int (nI (v607 + 1))))) := ⟨_, rfl⟩
                                  have hx17 : ((gnw449 : Nat) : Int) = ((v607 : Nat) : Int) := (congrFun hV.2.1 17).symm.trans ((fx_of hM_672 rfl hv607).trans (nI_toInt (by omega)))
                                  have hV : VW K L M M_684 b13 (va_up (va_up (fx M b13) 17 ((gnw449 : Nat) : Int)) 17 (((v607 + 1) : Nat) : Int)) (va_up (va_up (va_up (va_up (ax M b13) 44 gpw449) 45 gqw449) 44 (upd gpw449 ((nI v607) : Int32).toNatClampNeg (nI v6w449))) 45 (upd gqw449 ((nI v607) : Int32).toNatClampNeg 0)) := by rw [eM_684]; exact hV.put hW hb_15 hM_672 hn606 rfl (by decide) rfl (nI_toInt (by omega))
                                  have hP : va_P D vwCl ([(za, .inr (13, [.int 0, .ref z1, .int (nI z2), .int (nI z3), .int z4, .int z5, .ref z6, .ref z7, .ref z8, .ref z9, .int (nI z10), .ref z11, .ref z12, .ref z13, .ref z14, .ref z15, .int (nI z16), .ref z17, .int z18, .ref z19]))] ++ va_pl L M_684) H_676 := by rw [eM_684]; exact hP
                                  have hD : va_D A ([(za, .inr (13, [.int 0, .ref z1, .int (nI z2), .int (nI z3), .int z4, .int z5, .ref z6, .ref z7, .ref z8, .ref z9, .int (nI z10), .ref z11, .ref z12, .ref z13, .ref z14, .ref z15, .int (nI z16), .ref z17, .int z18, .ref z19]))] ++ va_pl L M_684) := by rw [eM_684]; exact hD
                                  have hW : WOM cy K L M_684 := by rw [eM_684]; exact hW.up_12 hb_15 ⟨_, rfl, hn_680, hk_678⟩
                                  have hF : fr K L [12, 14, 15, 32, 42, 45, 46, 79, 80, 81, 83] M M_684 := by rw [eM_684]; exact hF.up hb_15 (by decide)
                                  have hG : fG K L [1, 7, 8, 13, 14, 15, 16, 17, 18] M M_684 := by rw [eM_684]; exact hG.up hM_672 (by decide)
                                  have hM_685 : M_684 b13 = .inr (12, fs606.set 17 (.int (nI (v607 + 1)))) := by rw [eM_684]; exact va_up_self _ _ _
                                  have hM_686 : M_684 v610 = .inl (cy 14, 120, .inl (f_673)) := by rw [eM_684, va_up_ne _ _ (hc610.neT hb_15 (by decide))]; exact hM_670
                                  have hM_687 : M_684 v608 = .inl (cy 14, 120, .inl (f_666)) := by rw [eM_684, va_up_ne _ _ (hc608.neT hb_15 (by decide))]; exact hM_671
                                  refine lv_aload_n hx hb dX13_close_217 rfl (lv_at hl 4 rfl) ?_
                                  refine pg_getN (D := D) (ci := 12) (v := .ref v610) (C := RX12) (T := TX12) (N := 51) hx hb hg inG12 hown hK hP hb_15.1 hM_685 rfl 45 (by decide) (hN.use (Cond.fieldLinkNest RX13 268 RX12 "stretchDays" "[I" RX13) 54 rfl rfl) (fun _ h9 => h9) hv_682 dX13_close_218 ?_
                                  refine lv_aload_n hx hb dX13_close_221 rfl (lv_at hl 4 rfl) ?_
                                  refine pg_getN (D := D) (ci := 12) (v := .int (nI (v607 + 1))) (C := RX12) (T := TX12) (N := 51) hx hb hg inG12 hown hK hP hb_15.1 hM_685 rfl 17 (by decide) (hN.use (Cond.fieldLinkNest RX13 256 RX12 "stretches" "I" RX13) 26 rfl rfl) (fun _ h9 => h9) hs_679 dX13_close_222 ?_
                                  refine lv_iconst (v := 1) hx hb dX13_close_225 (by decide) ?_
                                  refine lv_isub hx hb dX13_close_226 ?_
                                  refine lv_topi (fun f_688 ef_688 => ?_)
                                  obtain rfl : f_688 = (nI ((v607 + 1) - 1)) := ef_688.trans (nI_prd (by omega))
                                  refine lv_dup2_11 hx hb dX13_close_227 rfl rfl ?_
                                  have hi_689 : vp_in (nI ((v607 + 1) - 1)) 120 := (inbN ((v607 + 1) - 1) 120 (by omega) (by omega))
                                  refine pg_iald hx hb hK hP hc610.1 0 hM_686 rfl hi_689 dX13_close_228 ?_
                                  have hp_690 := hf_674 _ (vp_lt hi_689)
                                  obtain ⟨c_691, hc_692, ec_693⟩ := hp_690
                                  rw [ec_693]
                                  have hy45 : (upd gqw449 ((nI v607) : Int32).toNatClampNeg 0) = f_673 := (congrFun hV.2.2.1 45).symm.trans (ax_of hM_685 (by decide) hv_682 hM_686)
                                  have hec : (upd gqw449 ((nI v607) : Int32).toNatClampNeg 0) ((nI ((v607 + 1) - 1)) : Int32).toNatClampNeg = nI c_691 := by rw [hy45]; exact ec_693
                                  have hcc : c_691 = 0 := updz (n := v607) (nI_cl (by omega)) ((nI_cl (by omega)).trans (by omega)) hec (by omega)
                                  refine lv_iconst (v := 1) hx hb dX13_close_229 (by decide) ?_
                                  refine lv_iadd hx hb dX13_close_230 ?_
                                  refine lv_topi (fun f_694 ef_694 => ?_)
                                  obtain rfl : f_694 = (nI (c_691 + 1)) := ef_694.trans (nI_add c_691 1)
                                  refine pg_iast hx hb hK hP hD hS hc610.1 0 hM_686 rfl (inbN ((v607 + 1) - 1) 120 (by omega) (by omega)) dX13_close_231 (fun H_695 locs hP hD hS => ?_)
                                  obtain ⟨M_696, eM_696⟩ : ∃ M1 : Hp, M1 = va_up M_684 v610 (.inl (cy 14, 120, .inl (upd f_673 ((nI ((v607 + 1) - 1)) : Int32).toNatClampNeg (nI (c_691 + 1))))) := ⟨_, rfl⟩
                                  have hy45 : (upd gqw449 ((nI v607) : Int32).toNatClampNeg 0) = f_673 := (congrFun hV.2.2.1 45).symm.trans (ax_of hM_685 (by decide) hv_682 hM_686)
                                  have hV : VW K L M M_696 b13 (va_up (va_up (fx M b13) 17 ((gnw449 : Nat) : Int)) 17 (((v607 + 1) : Nat) : Int)) (va_up (va_up (va_up (va_up (va_up (ax M b13) 44 gpw449) 45 gqw449) 44 (upd gpw449 ((nI v607) : Int32).toNatClampNeg (nI v6w449))) 45 (upd gqw449 ((nI v607) : Int32).toNatClampNeg 0)) 45 (upd (upd gqw449 ((nI v607) : Int32).toNatClampNeg 0) ((nI ((v607 + 1) - 1)) : Int32).toNatClampNeg (nI (c_691 + 1)))) := by rw [eM_696]; exact hV.ast (j := 45) hW hb_15 hM_685 (by decide) hv_682 hc610 hM_686
                                  have hP : va_P D vwCl ([(za, .inr (13, [.int 0, .ref z1, .int (nI z2), .int (nI z3), .int z4, .int z5, .ref z6, .ref z7, .ref z8, .ref z9, .int (nI z10), .ref z11, .ref z12, .ref z13, .ref z14, .ref z15, .int (nI z16), .ref z17, .int z18, .ref z19]))] ++ va_pl L M_696) H_695 := by rw [eM_696]; exact hP
                                  have hD : va_D A ([(za, .inr (13, [.int 0, .ref z1, .int (nI z2), .int (nI z3), .int z4, .int z5, .ref z6, .ref z7, .ref z8, .ref z9, .int (nI z10), .ref z11, .ref z12, .ref z13, .ref z14, .ref z15, .int (nI z16), .ref z17, .int z18, .ref z19]))] ++ va_pl L M_696) := by rw [eM_696]; exact hD
                                  have hW : WOM cy K L M_696 := by rw [eM_696]; exact hW.up_46 hc610 ⟨_, rfl, (updP (P := fun z => ∃ c : Nat, c < 1001 ∧ z = nI c) hf_674 ⟨(c_691 + 1), by omega, rfl⟩)⟩
                                  have hF : fr K L [12, 14, 15, 32, 42, 45, 46, 79, 80, 81, 83] M M_696 := by rw [eM_696]; exact hF.up hc610 (by decide)
                                  have hG : fG K L [1, 7, 8, 13, 14, 15, 16, 17, 18] M M_696 := by rw [eM_696]; exact hG.arr hc610 (by decide)
                                  have hM_697 : M_696 v610 = .inl (cy 14, 120, .inl (upd f_673 ((nI ((v607 + 1) - 1)) : Int32).toNatClampNeg (nI (c_691 + 1)))) := by rw [eM_696]; exact va_up_self _ _ _
                                  have hM_698 : M_696 b13 = .inr (12, fs606.set 17 (.int (nI (v607 + 1)))) := by rw [eM_696, va_up_ne _ _ (hb_15.neT hc610 (by decide))]; exact hM_685
                                  have hM_699 : M_696 v608 = .inl (cy 14, 120, .inl (f_666)) := by rw [eM_696, va_up_ne _ _ (hc608.neT hc610 (by decide))]; exact hM_687
                                  have hf_701 : ∀ j, j < 120 → ∃ c : Nat, c < 1001 ∧ (upd f_673 ((nI ((v607 + 1) - 1)) : Int32).toNatClampNeg (nI (c_691 + 1))) j = nI c := (updP (P := fun z => ∃ c : Nat, c < 1001 ∧ z = nI c) hf_674 ⟨(c_691 + 1), by omega, rfl⟩)
                                  obtain ⟨f_700, ef_700⟩ : ∃ f : Nat → Int32, f = upd f_673 ((nI ((v607 + 1) - 1)) : Int32).toNatClampNeg (nI (c_691 + 1)) := ⟨_, rfl⟩
                                  rw [← ef_700] at hM_697 hf_701
                                  refine lv_iinc (v := (nI (v6w449 + 1))) (lv' := [(6, .int (nI (v6w449 + 1))), (5, .int (-1)), (4, .int (nI c_392)), (3, .int (nI (c_28 + 1))), (2, .ref b13), (0, .ref za), (1, .int k1)]) hx hb dX13_close_232 hl (k := 0) rfl (nI_1 v6w449) (by decide) rfl (fun ls hl => ?_)
                                  refine lv_goto (tgt := 164) hx hb dX13_close_235 (by decide) ?_
                                  exact ih_447 (v6w449 + 1) (v607 + 1) (upd gpw449 ((nI v607) : Int32).toNatClampNeg (nI v6w449)) (upd (upd gqw449 ((nI v607) : Int32).toNatClampNeg 0) ((nI ((v607 + 1) - 1)) : Int32).toNatClampNeg (nI (c_691 + 1))) M_696 H_695 _ _ (by omega) (by omega) (by have h := SD.new hSD (by omega) (show (nI v607).toNatClampNeg = gnw449 from (nI_cl (by omega)).trans (by omega)) (show (nI ((v607 + 1) - 1)).toNatClampNeg = gnw449 from (nI_cl (by omega)).trans (by omega)) hcc; rw [← hgn] at h; exact h) hW hF hG (by have h := hV; simp only [va_up_up] at h; rw [va_up_4] at h; exact h) hP hD hS (lv_sub hl [0, 1, 2, 3, 4, 5, 6] rfl)
                                · have hz := rfl (a := 0)
                                  refine lv_if_eq (tgt := 217) hx hb dX13_close_183 (by decide) (fun _ => ?_) (fun c_702 => absurd c_702 (by decide))
                                  refine lv_aload_n hx hb dX13_close_217 rfl (lv_at hl 4 rfl) ?_
                                  refine pg_getN (D := D) (ci := 12) (v := .ref v610) (C := RX12) (T := TX12) (N := 51) hx hb hg inG12 hown hK hP hb_15.1 hM606 rfl 45 (by decide) (hN.use (Cond.fieldLinkNest RX13 268 RX12 "stretchDays" "[I" RX13) 54 rfl rfl) (fun _ h9 => h9) hv610 dX13_close_218 ?_
                                  refine lv_aload_n hx hb dX13_close_221 rfl (lv_at hl 4 rfl) ?_
                                  refine pg_getN (D := D) (ci := 12) (v := .int (nI v607)) (C := RX12) (T := TX12) (N := 51) hx hb hg inG12 hown hK hP hb_15.1 hM606 rfl 17 (by decide) (hN.use (Cond.fieldLinkNest RX13 256 RX12 "stretches" "I" RX13) 26 rfl rfl) (fun _ h9 => h9) hv607 dX13_close_222 ?_
                                  refine lv_iconst (v := 1) hx hb dX13_close_225 (by decide) ?_
                                  refine lv_isub hx hb dX13_close_226 ?_
                                  refine lv_topi (fun f_703 ef_703 => ?_)
                                  obtain rfl : f_703 = (nI (v607 - 1)) := ef_703.trans (nI_prd (by omega))
                                  refine lv_dup2_11 hx hb dX13_close_227 rfl rfl ?_
                                  have hi_704 : vp_in (nI (v607 - 1)) 120 := (inbN (v607 - 1) 120 (by omega) (by omega))
                                  refine pg_iald hx hb hK hP hc610.1 0 hM611 rfl hi_704 dX13_close_228 ?_
                                  have hp_705 := hf611 _ (vp_lt hi_704)
                                  obtain ⟨c_706, hc_707, ec_708⟩ := hp_705
                                  rw [ec_708]
                                  have hy45 : gqw449 = f611 := (congrFun hV.2.2.1 45).symm.trans (ax_of hM606 (by decide) hv610 hM611)
                                  have hec : gqw449 ((nI (v607 - 1)) : Int32).toNatClampNeg = nI c_706 := by rw [hy45]; exact ec_708
                                  have hcc : c_706 ≤ v6w449 := SD.c hSD (by omega) ((nI_cl (by omega)).trans (by omega)) hec (by omega)
                                  refine lv_iconst (v := 1) hx hb dX13_close_229 (by decide) ?_
                                  refine lv_iadd hx hb dX13_close_230 ?_
                                  refine lv_topi (fun f_709 ef_709 => ?_)
                                  obtain rfl : f_709 = (nI (c_706 + 1)) := ef_709.trans (nI_add c_706 1)
                                  refine pg_iast hx hb hK hP hD hS hc610.1 0 hM611 rfl (inbN (v607 - 1) 120 (by omega) (by omega)) dX13_close_231 (fun H_710 locs hP hD hS => ?_)
                                  obtain ⟨M_711, eM_711⟩ : ∃ M1 : Hp, M1 = va_up M_452 v610 (.inl (cy 14, 120, .inl (upd f611 ((nI (v607 - 1)) : Int32).toNatClampNeg (nI (c_706 + 1))))) := ⟨_, rfl⟩
                                  have hy45 : gqw449 = f611 := (congrFun hV.2.2.1 45).symm.trans (ax_of hM606 (by decide) hv610 hM611)
                                  have hV : VW K L M M_711 b13 (va_up (fx M b13) 17 ((gnw449 : Nat) : Int)) (va_up (va_up (va_up (ax M b13) 44 gpw449) 45 gqw449) 45 (upd gqw449 ((nI (v607 - 1)) : Int32).toNatClampNeg (nI (c_706 + 1)))) := by rw [eM_711]; exact hV.ast (j := 45) hW hb_15 hM606 (by decide) hv610 hc610 hM611
                                  have hP : va_P D vwCl ([(za, .inr (13, [.int 0, .ref z1, .int (nI z2), .int (nI z3), .int z4, .int z5, .ref z6, .ref z7, .ref z8, .ref z9, .int (nI z10), .ref z11, .ref z12, .ref z13, .ref z14, .ref z15, .int (nI z16), .ref z17, .int z18, .ref z19]))] ++ va_pl L M_711) H_710 := by rw [eM_711]; exact hP
                                  have hD : va_D A ([(za, .inr (13, [.int 0, .ref z1, .int (nI z2), .int (nI z3), .int z4, .int z5, .ref z6, .ref z7, .ref z8, .ref z9, .int (nI z10), .ref z11, .ref z12, .ref z13, .ref z14, .ref z15, .int (nI z16), .ref z17, .int z18, .ref z19]))] ++ va_pl L M_711) := by rw [eM_711]; exact hD
                                  have hW : WOM cy K L M_711 := by rw [eM_711]; exact hW.up_46 hc610 ⟨_, rfl, (updP (P := fun z => ∃ c : Nat, c < 1001 ∧ z = nI c) hf611 ⟨(c_706 + 1), by omega, rfl⟩)⟩
                                  have hF : fr K L [12, 14, 15, 32, 42, 45, 46, 79, 80, 81, 83] M M_711 := by rw [eM_711]; exact hF.up hc610 (by decide)
                                  have hG : fG K L [1, 7, 8, 13, 14, 15, 16, 17, 18] M M_711 := by rw [eM_711]; exact hG.arr hc610 (by decide)
                                  have hM_712 : M_711 v610 = .inl (cy 14, 120, .inl (upd f611 ((nI (v607 - 1)) : Int32).toNatClampNeg (nI (c_706 + 1)))) := by rw [eM_711]; exact va_up_self _ _ _
                                  have hM_713 : M_711 b13 = .inr (12, fs606) := by rw [eM_711, va_up_ne _ _ (hb_15.neT hc610 (by decide))]; exact hM606
                                  have hM_714 : M_711 v608 = .inl (cy 14, 120, .inl (f609)) := by rw [eM_711, va_up_ne _ _ (hc608.neT hc610 (by decide))]; exact hM609
                                  have hf_716 : ∀ j, j < 120 → ∃ c : Nat, c < 1001 ∧ (upd f611 ((nI (v607 - 1)) : Int32).toNatClampNeg (nI (c_706 + 1))) j = nI c := (updP (P := fun z => ∃ c : Nat, c < 1001 ∧ z = nI c) hf611 ⟨(c_706 + 1), by omega, rfl⟩)
                                  obtain ⟨f_715, ef_715⟩ : ∃ f : Nat → Int32, f = upd f611 ((nI (v607 - 1)) : Int32).toNatClampNeg (nI (c_706 + 1)) := ⟨_, rfl⟩
                                  rw [← ef_715] at hM_712 hf_716
                                  refine lv_iinc (v := (nI (v6w449 + 1))) (lv' := [(6, .int (nI (v6w449 + 1))), (5, .int (-1)), (4, .int (nI c_392)), (3, .int (nI (c_28 + 1))), (2, .ref b13), (0, .ref za), (1, .int k1)]) hx hb dX13_close_232 hl (k := 0) rfl (nI_1 v6w449) (by decide) rfl (fun ls hl => ?_)
                                  refine lv_goto (tgt := 164) hx hb dX13_close_235 (by decide) ?_
                                  exact ih_447 (v6w449 + 1) gnw449 gpw449 (upd gqw449 ((nI (v607 - 1)) : Int32).toNatClampNeg (nI (c_706 + 1))) M_711 H_710 _ _ (by omega) (by omega) (SD.old hSD (by omega) ((nI_cl (by omega)).trans (by omega)) hec (by omega)) hW hF hG (by have h := hV; simp only [va_up_up] at h; exact h) hP hD hS (lv_sub hl [0, 1, 2, 3, 4, 5, 6] rfl)
                        exact key_446 (1001 - (c_28 + 1) + 1) (c_28 + 1) 0 (ax M b13 44) (ax M b13 45) M_441 H_442 _ _ (by omega) (by omega) (SD.rf _ _ _) hW hF hG (by rw [va_up_id, va_up_id]; exact hV) hP hD hS (lv_sub hl [0, 1, 2, 3, 4, 5, 6] rfl)
                      · have hz := rfl (a := 0)
                        have n_717 : ¬ (24 ≤ v6w439) := fun q => c_444 ((iLE (a := 24) (b := v6w439) (by omega) (by omega)).mpr q)
                        refine lv_aload_n hx hb dX13_close_147 rfl (lv_at hl 4 rfl) ?_
                        obtain ⟨v718, hv718, hc718⟩ : ∃ v : Nat, (fs16.set 17 (.int 0))[33]? = some (.ref v : Value) ∧ isk K L v 15 24 := hk_424 33 (by decide)
                        refine pg_getN (D := D) (ci := 12) (v := .ref v718) (C := RX12) (T := TX12) (N := 51) hx hb hg inG12 hown hK hP hb_15.1 hM_443 rfl 33 (by decide) (hN.use (Cond.fieldLinkNest RX13 259 RX12 "dues" "[J" RX13) 42 rfl rfl) (fun _ h9 => h9) hv718 dX13_close_148 ?_
                        refine lv_iload hx hb dX13_close_151 (lv_at hl 0 rfl) ?_
                        refine lv_lconst (v := 0) hx hb dX13_close_153 (by decide) ?_
                        obtain ⟨f719, hM719⟩ := hW.open_15 hc718
                        refine pg_last hx hb hK hP hD hS hc718.1 1 hM719 rfl (inbN v6w439 24 (by omega) (by omega)) dX13_close_154 (fun H_720 locs hP hD hS => ?_)
                        obtain ⟨M_721, eM_721⟩ : ∃ M1 : Hp, M1 = va_up M_441 v718 (.inl (cy 15, 24, .inr (.inl (vp_updL f719 ((nI v6w439) : Int32).toNatClampNeg 0)))) := ⟨_, rfl⟩
                        have hV : VW K L M M_721 b13 (va_up (fx M b13) 17 (0 : Int)) (ax M b13) := by rw [eM_721]; exact hV.oth hW hb_15 hc718 (by decide)
                        have hP : va_P D vwCl ([(za, .inr (13, [.int 0, .ref z1, .int (nI z2), .int (nI z3), .int z4, .int z5, .ref z6, .ref z7, .ref z8, .ref z9, .int (nI z10), .ref z11, .ref z12, .ref z13, .ref z14, .ref z15, .int (nI z16), .ref z17, .int z18, .ref z19]))] ++ va_pl L M_721) H_720 := by rw [eM_721]; exact hP
                        have hD : va_D A ([(za, .inr (13, [.int 0, .ref z1, .int (nI z2), .int (nI z3), .int z4, .int z5, .ref z6, .ref z7, .ref z8, .ref z9, .int (nI z10), .ref z11, .ref z12, .ref z13, .ref z14, .ref z15, .int (nI z16), .ref z17, .int z18, .ref z19]))] ++ va_pl L M_721) := by rw [eM_721]; exact hD
                        have hW : WOM cy K L M_721 := by rw [eM_721]; exact hW.up_15 hc718 ⟨_, rfl⟩
                        have hF : fr K L [12, 14, 15, 32, 42, 45, 46, 79, 80, 81, 83] M M_721 := by rw [eM_721]; exact hF.up hc718 (by decide)
                        have hG : fG K L [1, 7, 8, 13, 14, 15, 16, 17, 18] M M_721 := by rw [eM_721]; exact hG.arr hc718 (by decide)
                        have hM_722 : M_721 v718 = .inl (cy 15, 24, .inr (.inl (vp_updL f719 ((nI v6w439) : Int32).toNatClampNeg 0))) := by rw [eM_721]; exact va_up_self _ _ _
                        have hM_723 : M_721 b13 = .inr (12, fs16.set 17 (.int 0)) := by rw [eM_721, va_up_ne _ _ (hb_15.neT hc718 (by decide))]; exact hM_443
                        obtain ⟨f_724, ef_724⟩ : ∃ f : Nat → Int64, f = vp_updL f719 ((nI v6w439) : Int32).toNatClampNeg 0 := ⟨_, rfl⟩
                        rw [← ef_724] at hM_722
                        refine lv_iinc (v := (nI (v6w439 + 1))) (lv' := [(6, .int (nI (v6w439 + 1))), (5, .int (-1)), (4, .int (nI c_392)), (3, .int (nI (c_28 + 1))), (2, .ref b13), (0, .ref za), (1, .int k1)]) hx hb dX13_close_155 hl (k := 0) rfl (nI_1 v6w439) (by decide) rfl (fun ls hl => ?_)
                        refine lv_goto (tgt := 140) hx hb dX13_close_158 (by decide) ?_
                        exact ih_437 (v6w439 + 1) M_721 H_720 _ _ (by omega) hM_723 (by omega) hW hF hG hV hP hD hS (lv_sub hl [0, 1, 2, 3, 4, 5, 6] rfl)
                  exact key_436 (24 - 0 + 1) 0 M_434 H_422 _ _ (by omega) hM_435 (by omega) hW hF hG hV hP hD hS (lv_sub hl [0, 1, 2, 3, 4, 5, 6] rfl)
                · have hz := rfl (a := 0)
                  refine lv_istore (lv' := [(5, .int (nI j_416)), (4, .int (nI c_392)), (3, .int (nI (c_28 + 1))), (2, .ref b13), (0, .ref za), (1, .int k1)]) hx hb dX13_close_115 hl (by decide) rfl (fun ls hl => ?_)
                  refine lv_iload hx hb dX13_close_117 (lv_at hl 0 rfl) ?_
                  refine lv_iconst (v := (-1)) hx hb dX13_close_119 (by decide) ?_
                  refine lv_icmp_eq (tgt := 132) hx hb dX13_close_120 (by decide) (fun c_725 => absurd c_725 (nI_ne_m1 (by omega))) (fun _ => ?_)
                  refine lv_aload_n hx hb dX13_close_123 rfl (lv_at hl 4 rfl) ?_
                  refine lv_bipush (v := 7) hx hb dX13_close_124 (by decide) ?_
                  refine lv_iload hx hb dX13_close_126 (lv_at hl 0 rfl) ?_
                  have hPc := hP.sub (ws' := [(za, .inr (13, [.int 0, .ref z1, .int (nI z2), .int (nI z3), .int z4, .int z5, .ref z6, .ref z7, .ref z8, .ref z9, .int (nI z10), .ref z11, .ref z12, .ref z13, .ref z14, .ref z15, .int (nI z16), .ref z17, .int z18, .ref z19]))]) [0] rfl
                  have hDc := hD.sub (ws' := [(za, .inr (13, [.int 0, .ref z1, .int (nI z2), .int (nI z3), .int z4, .int z5, .ref z6, .ref z7, .ref z8, .ref z9, .int (nI z10), .ref z11, .ref z12, .ref z13, .ref z14, .ref z15, .int (nI z16), .ref z17, .int z18, .ref z19]))]) [0] (by decide) rfl
                  have hKc := hK.sub (tys' := []) [] rfl
                  have hFc := va_free (wc := [(za, .inr (13, [.int 0, .ref z1, .int (nI z2), .int (nI z3), .int z4, .int z5, .ref z6, .ref z7, .ref z8, .ref z9, .int (nI z10), .ref z11, .ref z12, .ref z13, .ref z14, .ref z15, .int (nI z16), .ref z17, .int z18, .ref z19]))]) hD hS hA [0] rfl
                  refine va_calli (va_runV (As := [.int 7, .int (nI j_416)]) (rest := []) ⟨hx, hb, hml, hown, hg⟩ (m_refusedAt l D H_411.size za 0 z1 (nI z2) (nI z3) z4 z5 z6 z7 z8 z9 (nI z10) z11 z12 z13 z14 z15 (nI z16) z17 z18 z19 7 (nI j_416)) (cwV 2 hg (gV wd_882 wd_883 wd_884 wd_717 wd_885) rfl rfl rfl (by decide +kernel) ⟨(Nat.le_trans (Nat.le_of_ble_eq_true rfl) hRf), (Nat.le_trans (Nat.le_of_ble_eq_true rfl) hRl)⟩) ⟨Pr.blind, va_recv hK hP (ci := 13) (q0 := 0) rfl rfl, fun U hU hW => ⟨rfl, Pr.at hPc hKc hDc hN hU hW⟩⟩ rfl rfl hl.1 rfl (lv_room (Nat.le_of_ble_eq_true rfl)) dX13_close_128 ⟨(Nat.le_trans (Nat.le_of_ble_eq_true rfl) hRc), (Nat.le_trans (Nat.le_of_ble_eq_true rfl) hRs)⟩) hS (fun q _ h => hFc q h) hFc (fun r_727 M_728 t H_726 locs ht hvm hw hB hz1 hk1 hS => ?_)
                  have hp_729 := hw
                  obtain ⟨hP1, hK1, hD1⟩ := hB
                  rw [ht] at hP1
                  obtain ⟨hP, hD⟩ := va_joinQ (X := [(za, .inr (13, [.int 0, .ref z1, .int (nI z2), .int (nI z3), .int z4, .int z5, .ref z6, .ref z7, .ref z8, .ref z9, .int (nI z10), .ref z11, .ref z12, .ref z13, .ref z14, .ref z15, .int (nI z16), .ref z17, .int z18, .ref z19]))]) (cx := [(za, .inr (13, [.int 0, .ref z1, .int (nI z2), .int (nI z3), .int z4, .int z5, .ref z6, .ref z7, .ref z8, .ref z9, .int (nI z10), .ref z11, .ref z12, .ref z13, .ref z14, .ref z15, .int (nI z16), .ref z17, .int z18, .ref z19]))]) (wr := []) (w1 := [(za, .inr (13, [.int 0, .ref z1, .int (nI z2), .int (nI z3), .int 7, .int (nI j_416), .ref z6, .ref z7, .ref z8, .ref z9, .int (nI z10), .ref z11, .ref z12, .ref z13, .ref z14, .ref z15, .int (nI z16), .ref z17, .int z18, .ref z19]))]) (pl := va_pl L M_401) hP hD [0] [] rfl rfl (by decide) (by decide) hk1 hFc hP1 hD1
                  have hP : va_P D vwCl ([(za, .inr (13, [.int 0, .ref z1, .int (nI z2), .int (nI z3), .int 7, .int (nI j_416), .ref z6, .ref z7, .ref z8, .ref z9, .int (nI z10), .ref z11, .ref z12, .ref z13, .ref z14, .ref z15, .int (nI z16), .ref z17, .int z18, .ref z19]))] ++ va_pl L M_401) H_726 := hP
                  have hD : va_D A ([(za, .inr (13, [.int 0, .ref z1, .int (nI z2), .int (nI z3), .int 7, .int (nI j_416), .ref z6, .ref z7, .ref z8, .ref z9, .int (nI z10), .ref z11, .ref z12, .ref z13, .ref z14, .ref z15, .int (nI z16), .ref z17, .int z18, .ref z19]))] ++ va_pl L M_401) := hD
                  have hq := Eq.symm hp_729
                  subst hq
                  have hlg7 : ¬ ∀ b, b < z2 → ¬ LAG PK PT SX SY (k1 : Int32).toNatClampNeg (enD (SX (k1 : Int32).toNatClampNeg) (SY (k1 : Int32).toNatClampNeg)) b := fun w9 => w9 _ c_418 (by rw [hEd]; have h9 := c_419; rw [nI_toInt (by omega)] at h9; exact h9)
                  have hno : ¬ okCl z2 PK PT SX SY k1 := fun q9 => by unfold okCl okH at q9; first | omega | (obtain ⟨⟨_, _⟩, _, _, _, _⟩ := q9; first | omega | contradiction)
                  have hA9 : HA (ax M b13 2) (ax M b13 3) := hAT.1
                  have hB9 : HB (fx M b13 16) (fx M b13 14) (ax M b13 3) (ax M b13 43) := hAT.2.1
                  have hC9 : HC (fx M b13 10) (ax M b13 22) (ax M b13 23) := hAT.2.2.1
                  have hD9 : HD (fx M b13 0) (fx M b13 11) (fx M b13 15) (ax M b13 34) (ax M b13 41) := hAT.2.2.2.1
                  have hE9 : HE (fx M b13 0) (fx M b13 1) (fx M b13 12) (fx M b13 13) (ax M b13 37) := hAT.2.2.2.2
                  have hH9 : HI (fx M b13) (ax M b13) := ⟨hA9, hB9, hC9, hD9, hE9⟩
                  have hGI9 : GI K L z1 z2 M_401 := GI.fin hW0 i1 b2 hGI hact hV (hF.at i1 (by decide)) hH9
                  rw [hQ]
                  exact W.iret (v := (-1)) hx hb hr (fun t ht hW9 => ⟨⟨(-1), M_401, rfl, ⟨hW, hF, hG, ⟨hGI9, fun _ => 0, fun _ _ => 0, fun w9 => absurd w9 hno, (by unfold sxCl syCl; rw [if_neg hno, if_neg hno]; have hQ9 := ZSx.fin hW0 i1 b2 hZS hGI.1 hkn hb9 hV (hF.at i1 (by decide)) hZk.1 hZk.2; rw [va_upJ, va_upJ] at hQ9; exact hQ9)⟩, (by unfold anCl; rw [if_neg hno])⟩, ⟨7, (nI j_416), z16, (by omega), by rw [ht]; exact hP, hD⟩⟩, hS.F ht⟩) hS.2.2 dX13_close_131
              · have hz := rfl (a := 0)
                have n_730 : ¬ (c_392 < v5w398) := fun q => c_404 ((iLT (a := c_392) (b := v5w398) (by omega) (by omega)).mpr q)
                refine lv_aload_n hx hb dX13_close_85 rfl (lv_at hl 3 rfl) ?_
                refine lv_iload hx hb dX13_close_86 (lv_at hl 0 rfl) ?_
                have hPc : va_P D vwCl ([] ++ va_pl L M_401) H_402 := hP.part (cx := []) [] rfl
                have hDc : va_D A ([] ++ va_pl L M_401) := hD.part (cx := []) [] (by decide) rfl
                have hFc : ∀ q, va_A ([] ++ va_pl L M_401) H_402.size q → A q := pg_free hDc hS hA
                refine va_calli (va_runV (As := [.int (nI v5w398)]) (rest := []) ⟨hx, hb, hml, hown, hg⟩ (f_isOpen l D cy K L M_401 H_402.size b13 v5w398  hW hb_15 (by omega)) (cwV 1 hg (gV wd_752 wd_753 wd_754 wd_737 wd_755) rfl rfl rfl (by decide +kernel) ⟨(Nat.le_trans (Nat.le_of_ble_eq_true rfl) hRf), (Nat.le_trans (Nat.le_of_ble_eq_true rfl) hRl)⟩) ⟨PG.blind, pg_recv hK hP hb_15.1 hM_403 rfl, fun U hU hW => ⟨rfl, PG.at hPc hK hDc hN hU hW⟩⟩ rfl rfl hl.1 rfl (lv_room (Nat.le_of_ble_eq_true rfl)) dX13_close_88 ⟨(Nat.le_trans (Nat.le_of_ble_eq_true rfl) hRc), (Nat.le_trans (Nat.le_of_ble_eq_true rfl) hRs)⟩) hS (fun q _ h => hFc q h) hFc (fun r_732 M_733 t H_731 locs ht hvm hw hB hz1 hk1 hS => ?_)
                have hp_734 := hw
                obtain ⟨hP1, hD1⟩ := hB
                rw [ht] at hP1
                obtain ⟨hP, hD⟩ := va_joinP (X := [(za, .inr (13, [.int 0, .ref z1, .int (nI z2), .int (nI z3), .int z4, .int z5, .ref z6, .ref z7, .ref z8, .ref z9, .int (nI z10), .ref z11, .ref z12, .ref z13, .ref z14, .ref z15, .int (nI z16), .ref z17, .int z18, .ref z19]))]) (cx := []) (wr := [(za, .inr (13, [.int 0, .ref z1, .int (nI z2), .int (nI z3), .int z4, .int z5, .ref z6, .ref z7, .ref z8, .ref z9, .int (nI z10), .ref z11, .ref z12, .ref z13, .ref z14, .ref z15, .int (nI z16), .ref z17, .int z18, .ref z19]))]) (rx := []) (pl := va_pl L M_401) (pl1 := va_pl L M_401) hP hD [] [0] rfl rfl (by decide) (by decide) hk1 hFc hP1 hD1
                have hP : va_P D vwCl ([(za, .inr (13, [.int 0, .ref z1, .int (nI z2), .int (nI z3), .int z4, .int z5, .ref z6, .ref z7, .ref z8, .ref z9, .int (nI z10), .ref z11, .ref z12, .ref z13, .ref z14, .ref z15, .int (nI z16), .ref z17, .int z18, .ref z19]))] ++ va_pl L M_401) H_731 := hP
                have hD : va_D A ([(za, .inr (13, [.int 0, .ref z1, .int (nI z2), .int (nI z3), .int z4, .int z5, .ref z6, .ref z7, .ref z8, .ref z9, .int (nI z10), .ref z11, .ref z12, .ref z13, .ref z14, .ref z15, .int (nI z16), .ref z17, .int z18, .ref z19]))] ++ va_pl L M_401) := hD
                rcases hp_734 with ⟨rfl, c_735⟩ | ⟨rfl, c_736⟩
                · have hz := rfl (a := 0)
                  have hop9 : opD (SY (k1 : Int32).toNatClampNeg) v5w398 := by have h9 := c_735; rw [hV.2.2.1, hZk.2] at h9; exact h9
                  refine lv_if_eq (tgt := 102) hx hb dX13_close_91 (by decide) (fun c_737 => absurd c_737 (by decide)) (fun _ => ?_)
                  refine lv_aload_n hx hb dX13_close_94 rfl (lv_at hl 4 rfl) ?_
                  refine lv_iconst (v := 5) hx hb dX13_close_95 (by decide) ?_
                  refine lv_iload hx hb dX13_close_96 (lv_at hl 0 rfl) ?_
                  have hPc := hP.sub (ws' := [(za, .inr (13, [.int 0, .ref z1, .int (nI z2), .int (nI z3), .int z4, .int z5, .ref z6, .ref z7, .ref z8, .ref z9, .int (nI z10), .ref z11, .ref z12, .ref z13, .ref z14, .ref z15, .int (nI z16), .ref z17, .int z18, .ref z19]))]) [0] rfl
                  have hDc := hD.sub (ws' := [(za, .inr (13, [.int 0, .ref z1, .int (nI z2), .int (nI z3), .int z4, .int z5, .ref z6, .ref z7, .ref z8, .ref z9, .int (nI z10), .ref z11, .ref z12, .ref z13, .ref z14, .ref z15, .int (nI z16), .ref z17, .int z18, .ref z19]))]) [0] (by decide) rfl
                  have hKc := hK.sub (tys' := []) [] rfl
                  have hFc := va_free (wc := [(za, .inr (13, [.int 0, .ref z1, .int (nI z2), .int (nI z3), .int z4, .int z5, .ref z6, .ref z7, .ref z8, .ref z9, .int (nI z10), .ref z11, .ref z12, .ref z13, .ref z14, .ref z15, .int (nI z16), .ref z17, .int z18, .ref z19]))]) hD hS hA [0] rfl
                  refine va_calli (va_runV (As := [.int 5, .int (nI v5w398)]) (rest := []) ⟨hx, hb, hml, hown, hg⟩ (m_refusedAt l D H_731.size za 0 z1 (nI z2) (nI z3) z4 z5 z6 z7 z8 z9 (nI z10) z11 z12 z13 z14 z15 (nI z16) z17 z18 z19 5 (nI v5w398)) (cwV 2 hg (gV wd_882 wd_883 wd_884 wd_717 wd_885) rfl rfl rfl (by decide +kernel) ⟨(Nat.le_trans (Nat.le_of_ble_eq_true rfl) hRf), (Nat.le_trans (Nat.le_of_ble_eq_true rfl) hRl)⟩) ⟨Pr.blind, va_recv hK hP (ci := 13) (q0 := 0) rfl rfl, fun U hU hW => ⟨rfl, Pr.at hPc hKc hDc hN hU hW⟩⟩ rfl rfl hl.1 rfl (lv_room (Nat.le_of_ble_eq_true rfl)) dX13_close_98 ⟨(Nat.le_trans (Nat.le_of_ble_eq_true rfl) hRc), (Nat.le_trans (Nat.le_of_ble_eq_true rfl) hRs)⟩) hS (fun q _ h => hFc q h) hFc (fun r_739 M_740 t H_738 locs ht hvm hw hB hz1 hk1 hS => ?_)
                  have hp_741 := hw
                  obtain ⟨hP1, hK1, hD1⟩ := hB
                  rw [ht] at hP1
                  obtain ⟨hP, hD⟩ := va_joinQ (X := [(za, .inr (13, [.int 0, .ref z1, .int (nI z2), .int (nI z3), .int z4, .int z5, .ref z6, .ref z7, .ref z8, .ref z9, .int (nI z10), .ref z11, .ref z12, .ref z13, .ref z14, .ref z15, .int (nI z16), .ref z17, .int z18, .ref z19]))]) (cx := [(za, .inr (13, [.int 0, .ref z1, .int (nI z2), .int (nI z3), .int z4, .int z5, .ref z6, .ref z7, .ref z8, .ref z9, .int (nI z10), .ref z11, .ref z12, .ref z13, .ref z14, .ref z15, .int (nI z16), .ref z17, .int z18, .ref z19]))]) (wr := []) (w1 := [(za, .inr (13, [.int 0, .ref z1, .int (nI z2), .int (nI z3), .int 5, .int (nI v5w398), .ref z6, .ref z7, .ref z8, .ref z9, .int (nI z10), .ref z11, .ref z12, .ref z13, .ref z14, .ref z15, .int (nI z16), .ref z17, .int z18, .ref z19]))]) (pl := va_pl L M_401) hP hD [0] [] rfl rfl (by decide) (by decide) hk1 hFc hP1 hD1
                  have hP : va_P D vwCl ([(za, .inr (13, [.int 0, .ref z1, .int (nI z2), .int (nI z3), .int 5, .int (nI v5w398), .ref z6, .ref z7, .ref z8, .ref z9, .int (nI z10), .ref z11, .ref z12, .ref z13, .ref z14, .ref z15, .int (nI z16), .ref z17, .int z18, .ref z19]))] ++ va_pl L M_401) H_738 := hP
                  have hD : va_D A ([(za, .inr (13, [.int 0, .ref z1, .int (nI z2), .int (nI z3), .int 5, .int (nI v5w398), .ref z6, .ref z7, .ref z8, .ref z9, .int (nI z10), .ref z11, .ref z12, .ref z13, .ref z14, .ref z15, .int (nI z16), .ref z17, .int z18, .ref z19]))] ++ va_pl L M_401) := hD
                  have hq := Eq.symm hp_741
                  subst hq
                  have hI_742 : (0 : Int) ≤ (k1 : Int32).toInt := inltI rfl rfl c_7
                  have hI_743 : (k1 : Int32).toInt < ((z2 : Nat) : Int) := inleI (nI_toInt (by omega)) rfl c_8
                  have hI_744 : ((v21 : Nat) : Int) ≠ ((v20 : Nat) : Int) := ineI (nI_toInt (by omega)) (nI_toInt (by omega)) c_24
                  have hI_745 : ((v19 : Nat) : Int) ≠ (0 : Int) := ineI (nI_toInt (by omega)) rfl c_26
                  have hI_746 : ((v5w398 : Nat) : Int) ≤ ((c_392 : Nat) : Int) := inltI (nI_toInt (by omega)) (nI_toInt (by omega)) c_404
                  have hop5 : ¬ (∀ d : Nat, SX (k1 : Int32).toNatClampNeg 1 < (d : Int) → (d : Int) ≤ enD (SX (k1 : Int32).toNatClampNeg) (SY (k1 : Int32).toNatClampNeg) → ¬ opD (SY (k1 : Int32).toNatClampNeg) d) := fun w9 => w9 v5w398 (by omega) (by rw [hEd]; omega) hop9
                  have hno : ¬ okCl z2 PK PT SX SY k1 := fun q9 => by unfold okCl okH at q9; first | omega | (obtain ⟨⟨_, _⟩, _, _, _, _⟩ := q9; first | omega | contradiction)
                  have hA9 : HA (ax M b13 2) (ax M b13 3) := hAT.1
                  have hB9 : HB (fx M b13 16) (fx M b13 14) (ax M b13 3) (ax M b13 43) := hAT.2.1
                  have hC9 : HC (fx M b13 10) (ax M b13 22) (ax M b13 23) := hAT.2.2.1
                  have hD9 : HD (fx M b13 0) (fx M b13 11) (fx M b13 15) (ax M b13 34) (ax M b13 41) := hAT.2.2.2.1
                  have hE9 : HE (fx M b13 0) (fx M b13 1) (fx M b13 12) (fx M b13 13) (ax M b13 37) := hAT.2.2.2.2
                  have hH9 : HI (fx M b13) (ax M b13) := ⟨hA9, hB9, hC9, hD9, hE9⟩
                  have hGI9 : GI K L z1 z2 M_401 := GI.fin hW0 i1 b2 hGI hact hV (hF.at i1 (by decide)) hH9
                  rw [hQ]
                  exact W.iret (v := (-1)) hx hb hr (fun t ht hW9 => ⟨⟨(-1), M_401, rfl, ⟨hW, hF, hG, ⟨hGI9, fun _ => 0, fun _ _ => 0, fun w9 => absurd w9 hno, (by unfold sxCl syCl; rw [if_neg hno, if_neg hno]; have hQ9 := ZSx.fin hW0 i1 b2 hZS hGI.1 hkn hb9 hV (hF.at i1 (by decide)) hZk.1 hZk.2; rw [va_upJ, va_upJ] at hQ9; exact hQ9)⟩, (by unfold anCl; rw [if_neg hno])⟩, ⟨5, (nI v5w398), z16, (by omega), by rw [ht]; exact hP, hD⟩⟩, hS.F ht⟩) hS.2.2 dX13_close_101
                · have hz := rfl (a := 0)
                  have hno9 : ¬ opD (SY (k1 : Int32).toNatClampNeg) v5w398 := by have h9 := c_736; rw [hV.2.2.1, hZk.2] at h9; exact h9
                  refine lv_if_eq (tgt := 102) hx hb dX13_close_91 (by decide) (fun _ => ?_) (fun c_747 => absurd c_747 (by decide))
                  refine lv_iinc (v := (nI (v5w398 + 1))) (lv' := [(5, .int (nI (v5w398 + 1))), (4, .int (nI c_392)), (3, .int (nI (c_28 + 1))), (2, .ref b13), (0, .ref za), (1, .int k1)]) hx hb dX13_close_102 hl (k := 0) rfl (nI_1 v5w398) (by decide) rfl (fun ls hl => ?_)
                  refine lv_goto (tgt := 78) hx hb dX13_close_105 (by decide) ?_
                  exact ih_396 (v5w398 + 1) M_401 H_731 _ _ (by omega) hM_403 (by omega) (fun d h1 h2 => by by_cases z9 : ¬ d = v5w398; exact hx_400 d h1 (by omega); rw [Classical.not_not.mp z9]; exact hno9) hW hF hG hV hP hD hS (lv_sub hl [0, 1, 2, 3, 4, 5] rfl)
          exact key_395 (1001 - (c_28 + 1) + 1) (c_28 + 1) M H_2 _ _ (by omega) hM16 (by omega) (fun d h1 h2 => by omega) hW hF hG hV hP hD hS (lv_sub hl [0, 1, 2, 3, 4, 5] rfl)
      · have hz := rfl (a := 0)
        have n_748 : v19 = 0 := (iEQ (a := v19) (b := 0) (by omega) (by omega)).mp c_26
        refine lv_aload_n hx hb dX13_close_51 rfl (lv_at hl 1 rfl) ?_
        refine lv_iconst (v := 1) hx hb dX13_close_52 (by decide) ?_
        have hPc := hP.sub (ws' := [(za, .inr (13, [.int 0, .ref z1, .int (nI z2), .int (nI z3), .int z4, .int z5, .ref z6, .ref z7, .ref z8, .ref z9, .int (nI z10), .ref z11, .ref z12, .ref z13, .ref z14, .ref z15, .int (nI z16), .ref z17, .int z18, .ref z19]))]) [0] rfl
        have hDc := hD.sub (ws' := [(za, .inr (13, [.int 0, .ref z1, .int (nI z2), .int (nI z3), .int z4, .int z5, .ref z6, .ref z7, .ref z8, .ref z9, .int (nI z10), .ref z11, .ref z12, .ref z13, .ref z14, .ref z15, .int (nI z16), .ref z17, .int z18, .ref z19]))]) [0] (by decide) rfl
        have hKc := hK.sub (tys' := []) [] rfl
        have hFc := va_free (wc := [(za, .inr (13, [.int 0, .ref z1, .int (nI z2), .int (nI z3), .int z4, .int z5, .ref z6, .ref z7, .ref z8, .ref z9, .int (nI z10), .ref z11, .ref z12, .ref z13, .ref z14, .ref z15, .int (nI z16), .ref z17, .int z18, .ref z19]))]) hD hS hA [0] rfl
        refine va_calli (va_runV (As := [.int 1]) (rest := []) ⟨hx, hb, hml, hown, hg⟩ (m_refused l D H_2.size za 0 z1 (nI z2) (nI z3) z4 z5 z6 z7 z8 z9 (nI z10) z11 z12 z13 z14 z15 (nI z16) z17 z18 z19 1) (cwV 1 hg (gV wd_725 wd_726 wd_727 wd_717 wd_728) rfl rfl rfl (by decide +kernel) ⟨(Nat.le_trans (Nat.le_of_ble_eq_true rfl) hRf), (Nat.le_trans (Nat.le_of_ble_eq_true rfl) hRl)⟩) ⟨Pr.blind, va_recv hK hP (ci := 13) (q0 := 0) rfl rfl, fun U hU hW => ⟨rfl, Pr.at hPc hKc hDc hN hU hW⟩⟩ rfl rfl hl.1 rfl (lv_room (Nat.le_of_ble_eq_true rfl)) dX13_close_53 ⟨(Nat.le_trans (Nat.le_of_ble_eq_true rfl) hRc), (Nat.le_trans (Nat.le_of_ble_eq_true rfl) hRs)⟩) hS (fun q _ h => hFc q h) hFc (fun r_750 M_751 t H_749 locs ht hvm hw hB hz1 hk1 hS => ?_)
        have hp_752 := hw
        obtain ⟨hP1, hK1, hD1⟩ := hB
        rw [ht] at hP1
        obtain ⟨hP, hD⟩ := va_joinQ (X := [(za, .inr (13, [.int 0, .ref z1, .int (nI z2), .int (nI z3), .int z4, .int z5, .ref z6, .ref z7, .ref z8, .ref z9, .int (nI z10), .ref z11, .ref z12, .ref z13, .ref z14, .ref z15, .int (nI z16), .ref z17, .int z18, .ref z19]))]) (cx := [(za, .inr (13, [.int 0, .ref z1, .int (nI z2), .int (nI z3), .int z4, .int z5, .ref z6, .ref z7, .ref z8, .ref z9, .int (nI z10), .ref z11, .ref z12, .ref z13, .ref z14, .ref z15, .int (nI z16), .ref z17, .int z18, .ref z19]))]) (wr := []) (w1 := [(za, .inr (13, [.int 0, .ref z1, .int (nI z2), .int (nI z3), .int 1, .int (-1), .ref z6, .ref z7, .ref z8, .ref z9, .int (nI z10), .ref z11, .ref z12, .ref z13, .ref z14, .ref z15, .int (nI z16), .ref z17, .int z18, .ref z19]))]) (pl := va_pl L M) hP hD [0] [] rfl rfl (by decide) (by decide) hk1 hFc hP1 hD1
        have hP : va_P D vwCl ([(za, .inr (13, [.int 0, .ref z1, .int (nI z2), .int (nI z3), .int 1, .int (-1), .ref z6, .ref z7, .ref z8, .ref z9, .int (nI z10), .ref z11, .ref z12, .ref z13, .ref z14, .ref z15, .int (nI z16), .ref z17, .int z18, .ref z19]))] ++ va_pl L M) H_749 := hP
        have hD : va_D A ([(za, .inr (13, [.int 0, .ref z1, .int (nI z2), .int (nI z3), .int 1, .int (-1), .ref z6, .ref z7, .ref z8, .ref z9, .int (nI z10), .ref z11, .ref z12, .ref z13, .ref z14, .ref z15, .int (nI z16), .ref z17, .int z18, .ref z19]))] ++ va_pl L M) := hD
        have hq := Eq.symm hp_752
        subst hq
        have hI_753 : (0 : Int) ≤ (k1 : Int32).toInt := inltI rfl rfl c_7
        have hI_754 : (k1 : Int32).toInt < ((z2 : Nat) : Int) := inleI (nI_toInt (by omega)) rfl c_8
        have hI_755 : ((v21 : Nat) : Int) ≠ ((v20 : Nat) : Int) := ineI (nI_toInt (by omega)) (nI_toInt (by omega)) c_24
        have hI_756 : ((v19 : Nat) : Int) = (0 : Int) := ieqI (nI_toInt (by omega)) rfl c_26
        have hno : ¬ okCl z2 PK PT SX SY k1 := fun q9 => by unfold okCl okH at q9; first | omega | (obtain ⟨⟨_, _⟩, _, _, _, _⟩ := q9; first | omega | contradiction)
        rw [hQ]
        exact W.iret (v := (-1)) hx hb hr (fun t ht hW9 => ⟨⟨(-1), M, rfl, ⟨hW, hF, hG, ⟨hGI, fun _ => 0, fun _ _ => 0, fun w9 => absurd w9 hno, (by unfold sxCl syCl; rw [if_neg hno, if_neg hno]; exact hZS)⟩, (by unfold anCl; rw [if_neg hno])⟩, ⟨1, (-1), z16, (by omega), by rw [ht]; exact hP, hD⟩⟩, hS.F ht⟩) hS.2.2 dX13_close_56
    · have hz := rfl (a := 0)
      have n_757 : v21 = v20 := (iEQ (a := v21) (b := v20) (by omega) (by omega)).mp c_24
      refine lv_aload_n hx hb dX13_close_37 rfl (lv_at hl 1 rfl) ?_
      refine lv_bipush (v := 6) hx hb dX13_close_38 (by decide) ?_
      have hPc := hP.sub (ws' := [(za, .inr (13, [.int 0, .ref z1, .int (nI z2), .int (nI z3), .int z4, .int z5, .ref z6, .ref z7, .ref z8, .ref z9, .int (nI z10), .ref z11, .ref z12, .ref z13, .ref z14, .ref z15, .int (nI z16), .ref z17, .int z18, .ref z19]))]) [0] rfl
      have hDc := hD.sub (ws' := [(za, .inr (13, [.int 0, .ref z1, .int (nI z2), .int (nI z3), .int z4, .int z5, .ref z6, .ref z7, .ref z8, .ref z9, .int (nI z10), .ref z11, .ref z12, .ref z13, .ref z14, .ref z15, .int (nI z16), .ref z17, .int z18, .ref z19]))]) [0] (by decide) rfl
      have hKc := hK.sub (tys' := []) [] rfl
      have hFc := va_free (wc := [(za, .inr (13, [.int 0, .ref z1, .int (nI z2), .int (nI z3), .int z4, .int z5, .ref z6, .ref z7, .ref z8, .ref z9, .int (nI z10), .ref z11, .ref z12, .ref z13, .ref z14, .ref z15, .int (nI z16), .ref z17, .int z18, .ref z19]))]) hD hS hA [0] rfl
      refine va_calli (va_runV (As := [.int 6]) (rest := []) ⟨hx, hb, hml, hown, hg⟩ (m_refused l D H_2.size za 0 z1 (nI z2) (nI z3) z4 z5 z6 z7 z8 z9 (nI z10) z11 z12 z13 z14 z15 (nI z16) z17 z18 z19 6) (cwV 1 hg (gV wd_725 wd_726 wd_727 wd_717 wd_728) rfl rfl rfl (by decide +kernel) ⟨(Nat.le_trans (Nat.le_of_ble_eq_true rfl) hRf), (Nat.le_trans (Nat.le_of_ble_eq_true rfl) hRl)⟩) ⟨Pr.blind, va_recv hK hP (ci := 13) (q0 := 0) rfl rfl, fun U hU hW => ⟨rfl, Pr.at hPc hKc hDc hN hU hW⟩⟩ rfl rfl hl.1 rfl (lv_room (Nat.le_of_ble_eq_true rfl)) dX13_close_40 ⟨(Nat.le_trans (Nat.le_of_ble_eq_true rfl) hRc), (Nat.le_trans (Nat.le_of_ble_eq_true rfl) hRs)⟩) hS (fun q _ h => hFc q h) hFc (fun r_759 M_760 t H_758 locs ht hvm hw hB hz1 hk1 hS => ?_)
      have hp_761 := hw
      obtain ⟨hP1, hK1, hD1⟩ := hB
      rw [ht] at hP1
      obtain ⟨hP, hD⟩ := va_joinQ (X := [(za, .inr (13, [.int 0, .ref z1, .int (nI z2), .int (nI z3), .int z4, .int z5, .ref z6, .ref z7, .ref z8, .ref z9, .int (nI z10), .ref z11, .ref z12, .ref z13, .ref z14, .ref z15, .int (nI z16), .ref z17, .int z18, .ref z19]))]) (cx := [(za, .inr (13, [.int 0, .ref z1, .int (nI z2), .int (nI z3), .int z4, .int z5, .ref z6, .ref z7, .ref z8, .ref z9, .int (nI z10), .ref z11, .ref z12, .ref z13, .ref z14, .ref z15, .int (nI z16), .ref z17, .int z18, .ref z19]))]) (wr := []) (w1 := [(za, .inr (13, [.int 0, .ref z1, .int (nI z2), .int (nI z3), .int 6, .int (-1), .ref z6, .ref z7, .ref z8, .ref z9, .int (nI z10), .ref z11, .ref z12, .ref z13, .ref z14, .ref z15, .int (nI z16), .ref z17, .int z18, .ref z19]))]) (pl := va_pl L M) hP hD [0] [] rfl rfl (by decide) (by decide) hk1 hFc hP1 hD1
      have hP : va_P D vwCl ([(za, .inr (13, [.int 0, .ref z1, .int (nI z2), .int (nI z3), .int 6, .int (-1), .ref z6, .ref z7, .ref z8, .ref z9, .int (nI z10), .ref z11, .ref z12, .ref z13, .ref z14, .ref z15, .int (nI z16), .ref z17, .int z18, .ref z19]))] ++ va_pl L M) H_758 := hP
      have hD : va_D A ([(za, .inr (13, [.int 0, .ref z1, .int (nI z2), .int (nI z3), .int 6, .int (-1), .ref z6, .ref z7, .ref z8, .ref z9, .int (nI z10), .ref z11, .ref z12, .ref z13, .ref z14, .ref z15, .int (nI z16), .ref z17, .int z18, .ref z19]))] ++ va_pl L M) := hD
      have hq := Eq.symm hp_761
      subst hq
      have hI_762 : (0 : Int) ≤ (k1 : Int32).toInt := inltI rfl rfl c_7
      have hI_763 : (k1 : Int32).toInt < ((z2 : Nat) : Int) := inleI (nI_toInt (by omega)) rfl c_8
      have hI_764 : ((v21 : Nat) : Int) = ((v20 : Nat) : Int) := ieqI (nI_toInt (by omega)) (nI_toInt (by omega)) c_24
      have hno : ¬ okCl z2 PK PT SX SY k1 := fun q9 => by unfold okCl okH at q9; first | omega | (obtain ⟨⟨_, _⟩, _, _, _, _⟩ := q9; first | omega | contradiction)
      rw [hQ]
      exact W.iret (v := (-1)) hx hb hr (fun t ht hW9 => ⟨⟨(-1), M, rfl, ⟨hW, hF, hG, ⟨hGI, fun _ => 0, fun _ _ => 0, fun w9 => absurd w9 hno, (by unfold sxCl syCl; rw [if_neg hno, if_neg hno]; exact hZS)⟩, (by unfold anCl; rw [if_neg hno])⟩, ⟨6, (-1), z16, (by omega), by rw [ht]; exact hP, hD⟩⟩, hS.F ht⟩) hS.2.2 dX13_close_43
  · have hz := rfl (a := 0)
    refine lv_if_ne (tgt := 19) hx hb dX13_close_10 (by decide) (fun c_765 => absurd c_765 (by decide)) (fun _ => ?_)
    refine lv_aload_n hx hb dX13_close_13 rfl (lv_at hl 0 rfl) ?_
    refine lv_iconst (v := 1) hx hb dX13_close_14 (by decide) ?_
    have hPc := hP.sub (ws' := [(za, .inr (13, [.int 0, .ref z1, .int (nI z2), .int (nI z3), .int z4, .int z5, .ref z6, .ref z7, .ref z8, .ref z9, .int (nI z10), .ref z11, .ref z12, .ref z13, .ref z14, .ref z15, .int (nI z16), .ref z17, .int z18, .ref z19]))]) [0] rfl
    have hDc := hD.sub (ws' := [(za, .inr (13, [.int 0, .ref z1, .int (nI z2), .int (nI z3), .int z4, .int z5, .ref z6, .ref z7, .ref z8, .ref z9, .int (nI z10), .ref z11, .ref z12, .ref z13, .ref z14, .ref z15, .int (nI z16), .ref z17, .int z18, .ref z19]))]) [0] (by decide) rfl
    have hKc := hK.sub (tys' := []) [] rfl
    have hFc := va_free (wc := [(za, .inr (13, [.int 0, .ref z1, .int (nI z2), .int (nI z3), .int z4, .int z5, .ref z6, .ref z7, .ref z8, .ref z9, .int (nI z10), .ref z11, .ref z12, .ref z13, .ref z14, .ref z15, .int (nI z16), .ref z17, .int z18, .ref z19]))]) hD hS hA [0] rfl
    refine va_calli (va_runV (As := [.int 1]) (rest := []) ⟨hx, hb, hml, hown, hg⟩ (m_refused l D H_2.size za 0 z1 (nI z2) (nI z3) z4 z5 z6 z7 z8 z9 (nI z10) z11 z12 z13 z14 z15 (nI z16) z17 z18 z19 1) (cwV 1 hg (gV wd_725 wd_726 wd_727 wd_717 wd_728) rfl rfl rfl (by decide +kernel) ⟨(Nat.le_trans (Nat.le_of_ble_eq_true rfl) hRf), (Nat.le_trans (Nat.le_of_ble_eq_true rfl) hRl)⟩) ⟨Pr.blind, va_recv hK hP (ci := 13) (q0 := 0) rfl rfl, fun U hU hW => ⟨rfl, Pr.at hPc hKc hDc hN hU hW⟩⟩ rfl rfl hl.1 rfl (lv_room (Nat.le_of_ble_eq_true rfl)) dX13_close_15 ⟨(Nat.le_trans (Nat.le_of_ble_eq_true rfl) hRc), (Nat.le_trans (Nat.le_of_ble_eq_true rfl) hRs)⟩) hS (fun q _ h => hFc q h) hFc (fun r_767 M_768 t H_766 locs ht hvm hw hB hz1 hk1 hS => ?_)
    have hp_769 := hw
    obtain ⟨hP1, hK1, hD1⟩ := hB
    rw [ht] at hP1
    obtain ⟨hP, hD⟩ := va_joinQ (X := [(za, .inr (13, [.int 0, .ref z1, .int (nI z2), .int (nI z3), .int z4, .int z5, .ref z6, .ref z7, .ref z8, .ref z9, .int (nI z10), .ref z11, .ref z12, .ref z13, .ref z14, .ref z15, .int (nI z16), .ref z17, .int z18, .ref z19]))]) (cx := [(za, .inr (13, [.int 0, .ref z1, .int (nI z2), .int (nI z3), .int z4, .int z5, .ref z6, .ref z7, .ref z8, .ref z9, .int (nI z10), .ref z11, .ref z12, .ref z13, .ref z14, .ref z15, .int (nI z16), .ref z17, .int z18, .ref z19]))]) (wr := []) (w1 := [(za, .inr (13, [.int 0, .ref z1, .int (nI z2), .int (nI z3), .int 1, .int (-1), .ref z6, .ref z7, .ref z8, .ref z9, .int (nI z10), .ref z11, .ref z12, .ref z13, .ref z14, .ref z15, .int (nI z16), .ref z17, .int z18, .ref z19]))]) (pl := va_pl L M) hP hD [0] [] rfl rfl (by decide) (by decide) hk1 hFc hP1 hD1
    have hP : va_P D vwCl ([(za, .inr (13, [.int 0, .ref z1, .int (nI z2), .int (nI z3), .int 1, .int (-1), .ref z6, .ref z7, .ref z8, .ref z9, .int (nI z10), .ref z11, .ref z12, .ref z13, .ref z14, .ref z15, .int (nI z16), .ref z17, .int z18, .ref z19]))] ++ va_pl L M) H_766 := hP
    have hD : va_D A ([(za, .inr (13, [.int 0, .ref z1, .int (nI z2), .int (nI z3), .int 1, .int (-1), .ref z6, .ref z7, .ref z8, .ref z9, .int (nI z10), .ref z11, .ref z12, .ref z13, .ref z14, .ref z15, .int (nI z16), .ref z17, .int z18, .ref z19]))] ++ va_pl L M) := hD
    have hq := Eq.symm hp_769
    subst hq
    have hno : ¬ okCl z2 PK PT SX SY k1 := fun q9 => by unfold okCl okH at q9; first | omega | (obtain ⟨⟨_, _⟩, _, _, _, _⟩ := q9; first | omega | contradiction)
    rw [hQ]
    exact W.iret (v := (-1)) hx hb hr (fun t ht hW9 => ⟨⟨(-1), M, rfl, ⟨hW, hF, hG, ⟨hGI, fun _ => 0, fun _ _ => 0, fun w9 => absurd w9 hno, (by unfold sxCl syCl; rw [if_neg hno, if_neg hno]; exact hZS)⟩, (by unfold anCl; rw [if_neg hno])⟩, ⟨1, (-1), z16, (by omega), by rw [ht]; exact hP, hD⟩⟩, hS.F ht⟩) hS.2.2 dX13_close_18
