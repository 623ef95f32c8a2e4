theorem va_up3 {α : Type} (y : Nat → α) (a b g : α) : va_up (va_up (va_up y 36 g) 35 a) 34 b = va_up (va_up (va_up y 34 b) 35 a) 36 g := by
  funext j
  by_cases h4 : j = 34
  · subst h4
    rfl
  · by_cases h5 : j = 35
    · subst h5
      rfl
    · by_cases h6 : j = 36
      · subst h6
        rfl
      · rw [va_up_ne _ _ h4, va_up_ne _ _ h5, va_up_ne _ _ h6, va_up_ne _ _ h6, va_up_ne _ _ h5, va_up_ne _ _ h4]
set_option maxHeartbeats 4000000 in
set_option maxRecDepth 100000 in
theorem z_rule (l : Launch) (D : va_G) (cy : Nat → ClassId) (K : Kp) (L : List Nat) (M : Hp) (sz : Nat) (za : Nat) (z0 : Int32) (z1 : Nat) (z2 : Nat) (z3 : Nat) (z4 : Int32) (z5 : Int32) (z6 : Nat) (z7 : Nat) (z8 : Nat) (z9 : Nat) (z10 : Nat) (z11 : Nat) (z12 : Nat) (z13 : Nat) (z14 : Nat) (z15 : Nat) (z16 : Nat) (z17 : Nat) (z18 : Int32) (z19 : Nat) (k1 : Int32) (k2 : Int32) (SX : Nat → Nat → Int) (SY : Nat → Nat → Nat → Int32) (hW : WOM cy K L M) (i1 : isk K L z1 23 8) (b2 : z2 ≤ 8) (b3 : z3 ≤ 40) (i6 : isk K L z6 47 40) (i7 : isk K L z7 48 40) (i8 : isk K L z8 49 8) (i9 : isk K L z9 50 8) (b10 : z10 ≤ 8) (i11 : isk K L z11 32 24) (i12 : isk K L z12 14 24) (i13 : isk K L z13 97 24) (i14 : isk K L z14 98 24) (i15 : isk K L z15 99 24) (b16 : z16 ≤ 24) (i17 : isk K L z17 14 24) (i19 : isk K L z19 15 25) (hGI : GI K L z1 z2 M) (hZS : ZSx z1 z2 SX SY M) : Met l yX13_rule (wsM yX13_rule cX13_rule 7 (some .int)) ({ frames := 1, cells := 0, slots := 0, locals := 21 }) (va_Pc [.ref za, .int k1, .int k2] (PG D cy [(za, (b13_0 z0 z1 (nI z2) (nI z3) z4 z5 z6 z7 z8 z9 (nI z10) z11 z12 z13 z14 z15 (nI z16) z17 z18 z19))] L M sz)) (va_Qi (fun (r : Int32) (M9 : Hp) => WOM cy K L M9 ∧ fr K L [12, 14, 43, 77, 78] M M9 ∧ fG K L [11] M M9 ∧ (GI K L z1 z2 M9 ∧ ∃ g9 : Nat → Int32, (okRu z2 SX SY k1 k2 → RUG (SX k1.toNatClampNeg) (SY k1.toNatClampNeg) g9) ∧ ZSx z1 z2 (sxRu z2 SX SY k1 k2) (syRu z2 SX SY k1 k2 g9) M9) ∧ ((r = anRu z2 SX SY k1 k2))) (fun M9 t => ∃ (w4 : Int32), PQ D [(za, (b13_0 0 z1 (nI z2) (nI z3) w4 (-1) z6 z7 z8 z9 (nI z10) z11 z12 z13 z14 z15 (nI z16) z17 z18 z19))] L M9 (va_A ([(za, (b13_0 z0 z1 (nI z2) (nI z3) z4 z5 z6 z7 z8 z9 (nI z10) z11 z12 z13 z14 z15 (nI z16) z17 z18 z19))] ++ va_pl L M) sz) t) (va_A ([(za, (b13_0 z0 z1 (nI z2) (nI z3) z4 z5 z6 z7 z8 z9 (nI z10) z11 z12 z13 z14 z15 (nI z16) z17 z18 z19))] ++ va_pl L M) sz)) 0 0 (va_A ([(za, (b13_0 z0 z1 (nI z2) (nI z3) z4 z5 z6 z7 z8 z9 (nI z10) z11 z12 z13 z14 z15 (nI z16) z17 z18 z19))] ++ va_pl L M) sz) := by
  refine Met.ofW (cc := cX13_rule) (maxL := 7) (ret := (some .int)) (by decide) rfl ?_
  intro p e s m args below meth c s₁ B hml hv
  obtain ⟨rfl, hsz, hP, hK, hD0, hN⟩ := hv
  have hx := B.exec
  have hb := B.bytes
  have hr := B.returns
  have hts := atoms_spec (ws := (wsM yX13_rule cX13_rule 7 (some .int))) B.pre
  have hg : ∀ w ∈ lw_good, w.before _ s = true := fun w h => hts w (List.mem_cons_of_mem _ h)
  have hown : s.vm.findClass RX13 = some m.cls := findClass_of_methodNamed B.named
  have hlocks := B.notSynchronized
  subst hsz
  have hD := hD0.self (sz := s.heap.size)
  generalize hAe : va_A ([(za, (b13_0 z0 z1 (nI z2) (nI z3) z4 z5 z6 z7 z8 z9 (nI z10) z11 z12 z13 z14 z15 (nI z16) z17 z18 z19))] ++ va_pl L M) s.heap.size = A at hD ⊢
  have hA : ∀ q : Nat, s.heap.size ≤ q → A q := fun q h => by rw [← hAe]; exact Or.inr h
  have hS : va_S A s.heap s.heap [] := va_S.rf
  have hl := lv_entry ([.ref za, .int k1, .int k2]) (n := 7) (Nat.le_of_ble_eq_true rfl)
  rw [lg_entry_eq]
  generalize (lg_sl ([.ref za, .int k1, .int k2]) ++ List.replicate (7 - (lg_sl ([.ref za, .int k1, .int k2])).length) Slot.unset).toArray = ls at hl ⊢
  refine W.nameQ (fun Q hQ => ?_)
  refine W.nameR (fun R hR => ?_)
  have hRf : 1 ≤ R.frames := by rw [hR]; exact Nat.le_of_ble_eq_true rfl
  have hRl : 21 ≤ R.locals := by rw [hR]; exact Nat.le_of_ble_eq_true rfl
  have hRc : 0 ≤ R.cells := by rw [hR]; exact Nat.le_of_ble_eq_true rfl
  have hRs : 0 ≤ R.slots := by rw [hR]; exact Nat.le_of_ble_eq_true rfl
  have hF : fr K L [12, 14, 43, 77, 78] M M := fr.rf
  have hG : fG K L [11] M M := fG.rf
  have hl : lv_has ls 7 [(0, .ref za), (1, .int k1), (2, .int k2)] := hl
  have hW0 := hW
  refine lv_aload_n hx hb dX13_rule_0 rfl (lv_at hl 0 rfl) ?_
  refine lv_iconst (v := 0) hx hb dX13_rule_1 (by decide) ?_
  refine va_put (D := D) (ci := 13) (v := .int 0) (ty := .int) (C := RX13) (T := TX13) (N := 20) hx hb hg inG13 tyX13 tyX13_ok nmX13 hown hK hP hD hS 0 rfl rfl 0 (by decide) (hg _ wd_720) (fun _ h9 => h9) rfl (by decide +kernel) rfl rfl (Nat.le_of_ble_eq_true rfl) dX13_rule_2 (fun H_1 locs hP hD hS => ?_)
  have hP : va_P D vwCl ([(za, (b13_0 0 z1 (nI z2) (nI z3) z4 z5 z6 z7 z8 z9 (nI z10) z11 z12 z13 z14 z15 (nI z16) z17 z18 z19))] ++ va_pl L M) H_1 := hP
  have hD : va_D A ([(za, (b13_0 0 z1 (nI z2) (nI z3) z4 z5 z6 z7 z8 z9 (nI z10) z11 z12 z13 z14 z15 (nI z16) z17 z18 z19))] ++ va_pl L M) := hD
  refine lv_aload_n hx hb dX13_rule_5 rfl (lv_at hl 0 rfl) ?_
  refine lv_iload_n hx hb dX13_rule_6 rfl (lv_at hl 1 rfl) ?_
  have hPc : va_P D vwCl ([(za, (b13_0 0 z1 (nI z2) (nI z3) z4 z5 z6 z7 z8 z9 (nI z10) z11 z12 z13 z14 z15 (nI z16) z17 z18 z19))] ++ va_pl L M) H_1 := hP
  have hDc : va_D A ([(za, (b13_0 0 z1 (nI z2) (nI z3) z4 z5 z6 z7 z8 z9 (nI z10) z11 z12 z13 z14 z15 (nI z16) z17 z18 z19))] ++ va_pl L M) := hD
  have hFc : ∀ q, va_A ([(za, (b13_0 0 z1 (nI z2) (nI z3) z4 z5 z6 z7 z8 z9 (nI z10) z11 z12 z13 z14 z15 (nI z16) z17 z18 z19))] ++ va_pl L M) H_1.size q → A q := pg_free hDc hS hA
  refine va_calli (va_runV (As := [.int k1]) (rest := []) ⟨hx, hb, hml, hown, hg⟩ (f_isHouse l D cy K L M H_1.size za 0 z1 z2 z3 z4 z5 z6 z7 z8 z9 z10 z11 z12 z13 z14 z15 z16 z17 z18 z19 k1  hW i1 b2 b3 i6 i7 i8 i9 b10 i11 i12 i13 i14 i15 b16 i17 i19) (cwV 1 hg (gV wd_714 wd_715 wd_716 wd_717 wd_718) rfl rfl rfl (by decide +kernel) ⟨(Nat.le_trans (Nat.le_of_ble_eq_true rfl) hRf), (Nat.le_trans (Nat.le_of_ble_eq_true rfl) hRl)⟩) ⟨PG.blind, va_recv hK hP (ci := 13) (q0 := 0) rfl rfl, fun U hU hW => ⟨rfl, PG.at hPc hK hDc hN hU hW⟩⟩ rfl rfl hl.1 rfl (lv_room (Nat.le_of_ble_eq_true rfl)) dX13_rule_7 ⟨(Nat.le_trans (Nat.le_of_ble_eq_true rfl) hRc), (Nat.le_trans (Nat.le_of_ble_eq_true rfl) hRs)⟩) hS (fun q _ h => hFc q h) hFc (fun r_3 M_4 t H_2 locs ht hvm hw hB hz1 hk1 hS => ?_)
  have hp_5 := hw
  obtain ⟨hP1, hD1⟩ := hB
  rw [ht] at hP1
  have hP : va_P D vwCl ([(za, (b13_0 0 z1 (nI z2) (nI z3) z4 z5 z6 z7 z8 z9 (nI z10) z11 z12 z13 z14 z15 (nI z16) z17 z18 z19))] ++ va_pl L M) H_2 := hP1
  have hD : va_D A ([(za, (b13_0 0 z1 (nI z2) (nI z3) z4 z5 z6 z7 z8 z9 (nI z10) z11 z12 z13 z14 z15 (nI z16) z17 z18 z19))] ++ va_pl L M) := hD1.mono hFc
  rcases hp_5 with ⟨rfl, c_6, c_7, c_8⟩ | ⟨rfl, c_9⟩
  · have hz := rfl (a := 0)
    refine lv_if_ne (tgt := 19) hx hb dX13_rule_10 (by decide) (fun _ => ?_) (fun c_10 => absurd c_10 (by decide))
    refine lv_aload_n hx hb dX13_rule_19 rfl (lv_at hl 0 rfl) ?_
    refine va_get (D := D) (ci := 13) (v := .ref z1) (C := RX13) (T := TX13) (N := 20) hx hb hg inG13 hown hK hP 0 rfl rfl 1 (by decide) (hg _ wd_739) (fun _ h9 => h9) rfl dX13_rule_20 ?_
    refine lv_iload_n hx hb dX13_rule_23 rfl (lv_at hl 1 rfl) ?_
    obtain ⟨f11, hM11, hf11⟩ := hW.open_23 i1
    have hi_12 : vp_in k1 8 := (inbW (a := z2) (by omega) (inb k1 z2 (by omega) c_7 c_8))
    refine pg_aldq hx hb hK hP i1.1 9 hM11 rfl hi_12 dX13_rule_24 ?_
    obtain ⟨b13, eb_14, hb_15⟩ := hf11 _ (vp_lt hi_12)
    rw [eb_14]
    have hact : ACT z1 z2 b13 M := ⟨(k1 : Int32).toNatClampNeg, vp_lt (inb k1 z2 (by omega) c_7 c_8), by rw [show RFc (M z1) = f11 from by rw [hM11]; rfl]; exact eb_14⟩
    have hAT := GI.at hGI hact
    have hV : VW K L M M b13 (fx M b13) (ax M b13) := VW.rf b13 hGI.2.2.2
    have hb9 : RFc (M z1) (k1 : Int32).toNatClampNeg = some b13 := by rw [show RFc (M z1) = f11 from by rw [hM11]; rfl]; exact eb_14
    have hkn : (k1 : Int32).toNatClampNeg < z2 := vp_lt (inb k1 z2 (by omega) c_7 c_8)
    have hZk := hZS _ b13 hkn hb9
    have hz0 : fx M b13 0 = SX (k1 : Int32).toNatClampNeg 0 := congrFun hZk.1 0
    have hz1 : fx M b13 1 = SX (k1 : Int32).toNatClampNeg 1 := congrFun hZk.1 1
    have hz10 : fx M b13 10 = SX (k1 : Int32).toNatClampNeg 10 := congrFun hZk.1 10
    have hz11 : fx M b13 11 = SX (k1 : Int32).toNatClampNeg 11 := congrFun hZk.1 11
    have hz12 : fx M b13 12 = SX (k1 : Int32).toNatClampNeg 12 := congrFun hZk.1 12
    have hz13 : fx M b13 13 = SX (k1 : Int32).toNatClampNeg 13 := congrFun hZk.1 13
    have hz14 : fx M b13 14 = SX (k1 : Int32).toNatClampNeg 14 := congrFun hZk.1 14
    have hz15 : fx M b13 15 = SX (k1 : Int32).toNatClampNeg 15 := congrFun hZk.1 15
    have hz16 : fx M b13 16 = SX (k1 : Int32).toNatClampNeg 16 := congrFun hZk.1 16
    obtain ⟨fs16, hM16, hn16, hl16⟩ := hW.open_12 hb_15
    obtain ⟨v17, hv17, hc17⟩ : ∃ v : Nat, fs16[0]? = some (.int (nI v) : Value) ∧ v ≤ 999 := hl16 0 (by decide)
    have hx0 : (fx M b13 0) = ((v17 : Nat) : Int) := (congrFun hV.2.1 0).symm.trans ((fx_of hM16 rfl hv17).trans (nI_toInt (by omega)))
    obtain ⟨v18, hv18, hc18⟩ : ∃ v : Nat, fs16[11]? = some (.int (nI v) : Value) ∧ v ≤ 16 := hl16 11 (by decide)
    have hx11 : (fx M b13 11) = ((v18 : Nat) : Int) := (congrFun hV.2.1 11).symm.trans ((fx_of hM16 rfl hv18).trans (nI_toInt (by omega)))
    refine lv_astore_n (lv' := [(3, .ref b13), (0, .ref za), (1, .int k1), (2, .int k2)]) hx hb dX13_rule_25 rfl hl (by decide) rfl (fun ls hl => ?_)
    refine lv_aload_n hx hb dX13_rule_26 rfl (lv_at hl 0 rfl) ?_
    refine lv_iload_n hx hb dX13_rule_27 rfl (lv_at hl 3 rfl) ?_
    have hPc : va_P D vwCl ([] ++ va_pl L M) H_2 := hP.part (cx := []) [] rfl
    have hDc : va_D A ([] ++ va_pl L M) := hD.part (cx := []) [] (by decide) rfl
    have hFc : ∀ q, va_A ([] ++ va_pl L M) H_2.size q → A q := pg_free hDc hS hA
    refine va_calli (va_runV (As := [.int k2]) (rest := []) ⟨hx, hb, hml, hown, hg⟩ (f_isFree l D cy K L M H_2.size b13 k2  hW hb_15) (cwV 1 hg (gV wd_807 wd_808 wd_809 wd_737 wd_810) rfl rfl rfl (by decide +kernel) ⟨(Nat.le_trans (Nat.le_of_ble_eq_true rfl) hRf), (Nat.le_trans (Nat.le_of_ble_eq_true rfl) hRl)⟩) ⟨PG.blind, pg_recv hK hP hb_15.1 hM16 rfl, fun U hU hW => ⟨rfl, PG.at hPc hK hDc hN hU hW⟩⟩ rfl rfl hl.1 rfl (lv_room (Nat.le_of_ble_eq_true rfl)) dX13_rule_28 ⟨(Nat.le_trans (Nat.le_of_ble_eq_true rfl) hRc), (Nat.le_trans (Nat.le_of_ble_eq_true rfl) hRs)⟩) hS (fun q _ h => hFc q h) hFc (fun r_20 M_21 t H_19 locs ht hvm hw hB hz1 hk1 hS => ?_)
    have hp_22 := hw
    obtain ⟨hP1, hD1⟩ := hB
    rw [ht] at hP1
    obtain ⟨hP, hD⟩ := va_joinP (X := [(za, (b13_0 0 z1 (nI z2) (nI z3) z4 z5 z6 z7 z8 z9 (nI z10) z11 z12 z13 z14 z15 (nI z16) z17 z18 z19))]) (cx := []) (wr := [(za, (b13_0 0 z1 (nI z2) (nI z3) z4 z5 z6 z7 z8 z9 (nI z10) z11 z12 z13 z14 z15 (nI z16) z17 z18 z19))]) (rx := []) (pl := va_pl L M) (pl1 := va_pl L M) hP hD [] [0] rfl rfl (by decide) (by decide) hk1 hFc hP1 hD1
    have hP : va_P D vwCl ([(za, (b13_0 0 z1 (nI z2) (nI z3) z4 z5 z6 z7 z8 z9 (nI z10) z11 z12 z13 z14 z15 (nI z16) z17 z18 z19))] ++ va_pl L M) H_19 := hP
    have hD : va_D A ([(za, (b13_0 0 z1 (nI z2) (nI z3) z4 z5 z6 z7 z8 z9 (nI z10) z11 z12 z13 z14 z15 (nI z16) z17 z18 z19))] ++ va_pl L M) := hD
    rcases hp_22 with ⟨rfl, c_23, c_24, c_25⟩ | ⟨rfl, c_26⟩
    · have hz := rfl (a := 0)
      refine lv_if_eq (tgt := 71) hx hb dX13_rule_31 (by decide) (fun c_27 => absurd c_27 (by decide)) (fun _ => ?_)
      obtain ⟨j_28, hj_29, rfl⟩ := i32nat 1000 (by decide) c_24 c_25
      have hx0 : (fx M b13 0) = ((v17 : Nat) : Int) := (congrFun hV.2.1 0).symm.trans ((fx_of hM16 rfl hv17).trans (nI_toInt (by omega)))
      refine lv_aload_n hx hb dX13_rule_34 rfl (lv_at hl 0 rfl) ?_
      refine pg_getN (D := D) (ci := 12) (v := .int (nI v18)) (C := RX12) (T := TX12) (N := 51) hx hb hg inG12 hown hK hP hb_15.1 hM16 rfl 11 (by decide) (hN.use (Cond.fieldLinkNest RX13 142 RX12 "rules" "I" RX13) 20 rfl rfl) (fun _ h9 => h9) hv18 dX13_rule_35 ?_
      refine lv_if_ne (tgt := 52) hx hb dX13_rule_38 (by decide) (fun c_30 => ?_) (fun c_30 => ?_)
      · have hz := rfl (a := 0)
        have n_31 : ¬ (v18 = 0) := fun q => c_30 ((iEQ (a := v18) (b := 0) (by omega) (by omega)).mpr q)
        refine lv_iload_n hx hb dX13_rule_52 rfl (lv_at hl 3 rfl) ?_
        refine lv_aload_n hx hb dX13_rule_53 rfl (lv_at hl 0 rfl) ?_
        obtain ⟨v32, hv32, hc32⟩ : ∃ v : Nat, fs16[34]? = some (.ref v : Value) ∧ isk K L v 43 16 := hl16 34 (by decide)
        refine pg_getN (D := D) (ci := 12) (v := .ref v32) (C := RX12) (T := TX12) (N := 51) hx hb hg inG12 hown hK hP hb_15.1 hM16 rfl 34 (by decide) (hN.use (Cond.fieldLinkNest RX13 145 RX12 "ruleDay" "[I" RX13) 43 rfl rfl) (fun _ h9 => h9) hv32 dX13_rule_54 ?_
        refine lv_aload_n hx hb dX13_rule_57 rfl (lv_at hl 0 rfl) ?_
        refine pg_getN (D := D) (ci := 12) (v := .int (nI v18)) (C := RX12) (T := TX12) (N := 51) hx hb hg inG12 hown hK hP hb_15.1 hM16 rfl 11 (by decide) (hN.use (Cond.fieldLinkNest RX13 142 RX12 "rules" "I" RX13) 20 rfl rfl) (fun _ h9 => h9) hv18 dX13_rule_58 ?_
        refine lv_iconst (v := 1) hx hb dX13_rule_61 (by decide) ?_
        refine lv_isub hx hb dX13_rule_62 ?_
        refine lv_topi (fun f_33 ef_33 => ?_)
        obtain rfl : f_33 = (nI (v18 - 1)) := ef_33.trans (nI_prd (by omega))
        obtain ⟨f34, hM34⟩ := hW.open_43 hc32
        refine pg_iald hx hb hK hP hc32.1 0 hM34 rfl (inbN (v18 - 1) 16 (by omega) (by omega)) dX13_rule_63 ?_
        refine lv_topi (fun f_35 ef_35 => ?_)
        have hp34e : SY (k1 : Int32).toNatClampNeg 34 ((nI (v18 - 1)) : Int32).toNatClampNeg = f_35 := by rw [← hZk.2, ax_of hM16 (by decide) hv32 hM34]; exact ef_35.symm
        have hp34 : (SY (k1 : Int32).toNatClampNeg 34 ((nI (v18 - 1)) : Int32).toNatClampNeg).toInt = (f_35 : Int32).toInt := congrArg Int32.toInt hp34e
        have hi11 : (SX (k1 : Int32).toNatClampNeg 11 - 1).toNat = v18 - 1 := by omega
        have hp34b : (SY (k1 : Int32).toNatClampNeg 34 (SX (k1 : Int32).toNatClampNeg 11 - 1).toNat).toInt = (SY (k1 : Int32).toNatClampNeg 34 (nI (v18 - 1)).toNatClampNeg).toInt := by rw [hi11, nI_cl (by omega)]
        refine lv_icmp_le (tgt := 71) hx hb dX13_rule_64 (by decide) (fun c_36 => ?_) (fun c_36 => ?_)
        · have hz := rfl (a := 0)
          refine lv_iconst (v := 0) hx hb dX13_rule_71 (by decide) ?_
          refine lv_istore (lv' := [(4, .int 0), (3, .ref b13), (0, .ref za), (1, .int k1), (2, .int (nI j_28))]) hx hb dX13_rule_72 hl (by decide) rfl (fun ls hl => ?_)
          refine lv_iload hx hb dX13_rule_74 (lv_at hl 0 rfl) ?_
          refine lv_if_ne (tgt := 85) hx hb dX13_rule_76 (by decide) (fun c_37 => absurd c_37 (by decide)) (fun _ => ?_)
          refine lv_aload_n hx hb dX13_rule_79 rfl (lv_at hl 2 rfl) ?_
          refine lv_iconst (v := 3) hx hb dX13_rule_80 (by decide) ?_
          have hPc := hP.sub (ws' := [(za, (b13_0 0 z1 (nI z2) (nI z3) z4 z5 z6 z7 z8 z9 (nI z10) z11 z12 z13 z14 z15 (nI z16) z17 z18 z19))]) [0] rfl
          have hDc := hD.sub (ws' := [(za, (b13_0 0 z1 (nI z2) (nI z3) z4 z5 z6 z7 z8 z9 (nI z10) z11 z12 z13 z14 z15 (nI z16) z17 z18 z19))]) [0] (by decide) rfl
          have hKc := hK.sub (tys' := []) [] rfl
          have hFc := va_free (wc := [(za, (b13_0 0 z1 (nI z2) (nI z3) z4 z5 z6 z7 z8 z9 (nI z10) z11 z12 z13 z14 z15 (nI z16) z17 z18 z19))]) hD hS hA [0] rfl
          refine va_calli (va_runV (As := [.int 3]) (rest := []) ⟨hx, hb, hml, hown, hg⟩ (m_refused l D H_19.size za 0 z1 (nI z2) (nI z3) z4 z5 z6 z7 z8 z9 (nI z10) z11 z12 z13 z14 z15 (nI z16) z17 z18 z19 3) (cwV 1 hg (gV wd_725 wd_726 wd_727 wd_717 wd_728) rfl rfl rfl (by decide +kernel) ⟨(Nat.le_trans (Nat.le_of_ble_eq_true rfl) hRf), (Nat.le_trans (Nat.le_of_ble_eq_true rfl) hRl)⟩) ⟨Pr.blind, va_recv hK hP (ci := 13) (q0 := 0) rfl rfl, fun U hU hW => ⟨rfl, Pr.at hPc hKc hDc hN hU hW⟩⟩ rfl rfl hl.1 rfl (lv_room (Nat.le_of_ble_eq_true rfl)) dX13_rule_81 ⟨(Nat.le_trans (Nat.le_of_ble_eq_true rfl) hRc), (Nat.le_trans (Nat.le_of_ble_eq_true rfl) hRs)⟩) hS (fun q _ h => hFc q h) hFc (fun r_39 M_40 t H_38 locs ht hvm hw hB hz1 hk1 hS => ?_)
          have hp_41 := hw
          obtain ⟨hP1, hK1, hD1⟩ := hB
          rw [ht] at hP1
          obtain ⟨hP, hD⟩ := va_joinQ (X := [(za, (b13_0 0 z1 (nI z2) (nI z3) z4 z5 z6 z7 z8 z9 (nI z10) z11 z12 z13 z14 z15 (nI z16) z17 z18 z19))]) (cx := [(za, (b13_0 0 z1 (nI z2) (nI z3) z4 z5 z6 z7 z8 z9 (nI z10) z11 z12 z13 z14 z15 (nI z16) z17 z18 z19))]) (wr := []) (w1 := [(za, (b13_0 0 z1 (nI z2) (nI z3) 3 (-1) z6 z7 z8 z9 (nI z10) z11 z12 z13 z14 z15 (nI z16) z17 z18 z19))]) (pl := va_pl L M) hP hD [0] [] rfl rfl (by decide) (by decide) hk1 hFc hP1 hD1
          have hP : va_P D vwCl ([(za, (b13_0 0 z1 (nI z2) (nI z3) 3 (-1) z6 z7 z8 z9 (nI z10) z11 z12 z13 z14 z15 (nI z16) z17 z18 z19))] ++ va_pl L M) H_38 := hP
          have hD : va_D A ([(za, (b13_0 0 z1 (nI z2) (nI z3) 3 (-1) z6 z7 z8 z9 (nI z10) z11 z12 z13 z14 z15 (nI z16) z17 z18 z19))] ++ va_pl L M) := hD
          have hq := Eq.symm hp_41
          subst hq
          have hI_42 : (0 : Int) ≤ (k1 : Int32).toInt := inltI rfl rfl c_7
          have hI_43 : (k1 : Int32).toInt < ((z2 : Nat) : Int) := inleI (nI_toInt (by omega)) rfl c_8
          have hI_44 : (0 : Int) ≤ ((j_28 : Nat) : Int) := inltI (nI_toInt (by omega)) rfl c_24
          have hI_45 : ((j_28 : Nat) : Int) < (1000 : Int) := inleI rfl (nI_toInt (by omega)) c_25
          have hI_46 : ((v18 : Nat) : Int) ≠ (0 : Int) := ineI (nI_toInt (by omega)) rfl c_30
          have hI_47 : ((j_28 : Nat) : Int) ≤ (f_35 : Int32).toInt := ileI (nI_toInt (by omega)) rfl c_36
          have hn92 : ((nI j_28) : Int32).toInt = ((j_28 : Nat) : Int) := nI_toInt (by omega)
          have hno : ¬ okRu z2 SX SY k1 (nI j_28) := fun q9 => by unfold okRu okH at q9; first | omega | (obtain ⟨⟨_, _⟩, _, _, _, _⟩ := q9; first | omega | contradiction)
          rw [hQ]
          exact W.iret (v := (-1)) hx hb hr (fun t ht hW9 => ⟨⟨(-1), M, rfl, ⟨hW, hF, hG, ⟨hGI, ⟨fun _ => 0, fun w9 => absurd w9 hno, (by unfold sxRu syRu; rw [if_neg hno, if_neg hno]; exact hZS)⟩⟩, (by unfold anRu; rw [if_neg hno])⟩, ⟨3, by rw [ht]; exact hP, hD⟩⟩, hS.F ht⟩) hS.2.2 dX13_rule_84
        · have hz := rfl (a := 0)
          refine lv_iconst (v := 1) hx hb dX13_rule_67 (by decide) ?_
          refine lv_goto (tgt := 72) hx hb dX13_rule_68 (by decide) ?_
          refine lv_istore (lv' := [(4, .int 1), (3, .ref b13), (0, .ref za), (1, .int k1), (2, .int (nI j_28))]) hx hb dX13_rule_72 hl (by decide) rfl (fun ls hl => ?_)
          refine lv_iload hx hb dX13_rule_74 (lv_at hl 0 rfl) ?_
          refine lv_if_ne (tgt := 85) hx hb dX13_rule_76 (by decide) (fun _ => ?_) (fun c_48 => absurd c_48 (by decide))
          refine lv_aload_n hx hb dX13_rule_85 rfl (lv_at hl 1 rfl) ?_
          refine pg_getN (D := D) (ci := 12) (v := .int (nI v18)) (C := RX12) (T := TX12) (N := 51) hx hb hg inG12 hown hK hP hb_15.1 hM16 rfl 11 (by decide) (hN.use (Cond.fieldLinkNest RX13 142 RX12 "rules" "I" RX13) 20 rfl rfl) (fun _ h9 => h9) hv18 dX13_rule_86 ?_
          refine lv_bipush (v := 16) hx hb dX13_rule_89 (by decide) ?_
          refine lv_icmp_ne (tgt := 101) hx hb dX13_rule_91 (by decide) (fun c_49 => ?_) (fun c_49 => ?_)
          · have hz := rfl (a := 0)
            have n_50 : ¬ (v18 = 16) := fun q => c_49 ((iEQ (a := v18) (b := 16) (by omega) (by omega)).mpr q)
            refine lv_bipush (v := 24) hx hb dX13_rule_101 (by decide) ?_
            refine lv_istore (lv' := [(5, .int 24), (4, .int 1), (3, .ref b13), (0, .ref za), (1, .int k1), (2, .int (nI j_28))]) hx hb dX13_rule_103 hl (by decide) rfl (fun ls hl => ?_)
            refine lv_iconst (v := 0) hx hb dX13_rule_105 (by decide) ?_
            refine lv_istore (lv' := [(6, .int 0), (5, .int 24), (4, .int 1), (3, .ref b13), (0, .ref za), (1, .int k1), (2, .int (nI j_28))]) hx hb dX13_rule_106 hl (by decide) rfl (fun ls hl => ?_)
            have key_51 : ∀ (fu_53 : Nat) (v6w54 : Nat) (gw54 : Nat → Int32) (M_58 : Hp) (H_59 : Heap) (locs : List Loc) (ls : Array Slot), 24 - v6w54 < fu_53 → M_58 b13 = .inr (12, fs16) → v6w54 ≤ 24 → (∀ i : Nat, i < 24 * v18 → gw54 i = ax M b13 36 i) → (∀ i : Nat, i < v6w54 → gw54 (24 * v18 + i) = trm (ax M b13 36) v18 i) → WOM cy K L M_58 → fr K L [12, 14, 43, 77, 78] M M_58 → fG K L [11] M M_58 → VW K L M M_58 b13 (fx M b13) (va_up (ax M b13) 36 gw54) → va_P D vwCl ([(za, (b13_0 0 z1 (nI z2) (nI z3) z4 z5 z6 z7 z8 z9 (nI z10) z11 z12 z13 z14 z15 (nI z16) z17 z18 z19))] ++ va_pl L M_58) H_59 → va_D A ([(za, (b13_0 0 z1 (nI z2) (nI z3) z4 z5 z6 z7 z8 z9 (nI z10) z11 z12 z13 z14 z15 (nI z16) z17 z18 z19))] ++ va_pl L M_58) → va_S A s.heap H_59 locs → lv_has ls 7 [(6, .int (nI v6w54)), (5, .int 24), (4, .int 1), (3, .ref b13), (0, .ref za), (1, .int k1), (2, .int (nI j_28))] → W p l e R s m ([.ref za, .int k1, .int (nI j_28)] : List Value).toArray below meth c H_59 locs 0 0 Q (F0 m 108 ls []) := by
              intro fu_53
              induction fu_53 with
              | zero => intro v6w54 gw54 M_58 H_59 locs ls h; exact absurd h (Nat.not_lt_zero _)
              | succ fu_53 ih_52 =>
                intro v6w54 gw54 M_58 H_59 locs ls hfu hM_60 hx_55 hx_56 hx_57 hW hF hG hV hP hD hS hl
                refine lv_iload hx hb dX13_rule_108 (lv_at hl 0 rfl) ?_
                refine lv_iload hx hb dX13_rule_110 (lv_at hl 1 rfl) ?_
                refine lv_icmp_ge (tgt := 164) hx hb dX13_rule_112 (by decide) (fun c_61 => ?_) (fun c_61 => ?_)
                · have hz := rfl (a := 0)
                  have n_62 : 24 ≤ v6w54 := (iLE (a := 24) (b := v6w54) (by omega) (by omega)).mp c_61
                  have hgA := hx_56
                  have hgB := hx_57
                  have hv6 : v6w54 = 24 := by omega
                  refine lv_aload_n hx hb dX13_rule_164 rfl (lv_at hl 3 rfl) ?_
                  obtain ⟨v63, hv63, hc63⟩ : ∃ v : Nat, fs16[35]? = some (.ref v : Value) ∧ isk K L v 77 16 := hl16 35 (by decide)
                  refine pg_getN (D := D) (ci := 12) (v := .ref v63) (C := RX12) (T := TX12) (N := 51) hx hb hg inG12 hown hK hP hb_15.1 hM_60 rfl 35 (by decide) (hN.use (Cond.fieldLinkNest RX13 151 RX12 "thousandths" "[I" RX13) 44 rfl rfl) (fun _ h9 => h9) hv63 dX13_rule_165 ?_
                  refine lv_aload_n hx hb dX13_rule_168 rfl (lv_at hl 3 rfl) ?_
                  refine pg_getN (D := D) (ci := 12) (v := .int (nI v18)) (C := RX12) (T := TX12) (N := 51) hx hb hg inG12 hown hK hP hb_15.1 hM_60 rfl 11 (by decide) (hN.use (Cond.fieldLinkNest RX13 142 RX12 "rules" "I" RX13) 20 rfl rfl) (fun _ h9 => h9) hv18 dX13_rule_169 ?_
                  refine lv_aload_n hx hb dX13_rule_172 rfl (lv_at hl 3 rfl) ?_
                  refine pg_getN (D := D) (ci := 12) (v := .int (nI v18)) (C := RX12) (T := TX12) (N := 51) hx hb hg inG12 hown hK hP hb_15.1 hM_60 rfl 11 (by decide) (hN.use (Cond.fieldLinkNest RX13 142 RX12 "rules" "I" RX13) 20 rfl rfl) (fun _ h9 => h9) hv18 dX13_rule_173 ?_
                  refine lv_if_ne (tgt := 183) hx hb dX13_rule_176 (by decide) (fun c_64 => ?_) (fun c_64 => absurd c_64 c_30)
                  refine lv_aload_n hx hb dX13_rule_183 rfl (lv_at hl 3 rfl) ?_
                  refine pg_getN (D := D) (ci := 12) (v := .ref v63) (C := RX12) (T := TX12) (N := 51) hx hb hg inG12 hown hK hP hb_15.1 hM_60 rfl 35 (by decide) (hN.use (Cond.fieldLinkNest RX13 151 RX12 "thousandths" "[I" RX13) 44 rfl rfl) (fun _ h9 => h9) hv63 dX13_rule_184 ?_
                  refine lv_aload_n hx hb dX13_rule_187 rfl (lv_at hl 3 rfl) ?_
                  refine pg_getN (D := D) (ci := 12) (v := .int (nI v18)) (C := RX12) (T := TX12) (N := 51) hx hb hg inG12 hown hK hP hb_15.1 hM_60 rfl 11 (by decide) (hN.use (Cond.fieldLinkNest RX13 142 RX12 "rules" "I" RX13) 20 rfl rfl) (fun _ h9 => h9) hv18 dX13_rule_188 ?_
                  refine lv_iconst (v := 1) hx hb dX13_rule_191 (by decide) ?_
                  refine lv_isub hx hb dX13_rule_192 ?_
                  refine lv_topi (fun f_65 ef_65 => ?_)
                  obtain rfl : f_65 = (nI (v18 - 1)) := ef_65.trans (nI_prd (by omega))
                  obtain ⟨f66, hM66⟩ := hW.open_77 hc63
                  refine pg_iald hx hb hK hP hc63.1 0 hM66 rfl (inbN (v18 - 1) 16 (by omega) (by omega)) dX13_rule_193 ?_
                  refine lv_topi (fun f_67 ef_67 => ?_)
                  have hy35n : ax M b13 35 = f66 := (congrFun hV.2.2.1 35).symm.trans (ax_of hM_60 (by decide) hv63 hM66)
                  have hth : f_67 = thS (SX (k1 : Int32).toNatClampNeg) (SY (k1 : Int32).toNatClampNeg) := by unfold thS; rw [if_neg (by omega), ← hZk.2, show (SX (k1 : Int32).toNatClampNeg 11 - 1).toNat = v18 - 1 by omega, hy35n, ef_67, nI_cl (by omega)]
                  refine pg_iast hx hb hK hP hD hS hc63.1 0 hM66 rfl (inbN v18 16 (by omega) (by omega)) dX13_rule_194 (fun H_68 locs hP hD hS => ?_)
                  obtain ⟨M_69, eM_69⟩ : ∃ M1 : Hp, M1 = va_up M_58 v63 (.inl (cy 14, 16, .inl (upd f66 ((nI v18) : Int32).toNatClampNeg f_67))) := ⟨_, rfl⟩
                  have hy35 : (ax M b13 35) = f66 := (congrFun hV.2.2.1 35).symm.trans (ax_of hM_60 (by decide) hv63 hM66)
                  have hV : VW K L M M_69 b13 (fx M b13) (va_up (va_up (ax M b13) 36 gw54) 35 (upd (ax M b13 35) ((nI v18) : Int32).toNatClampNeg f_67)) := by rw [eM_69]; exact hV.ast (j := 35) hW hb_15 hM_60 (by decide) hv63 hc63 hM66
                  have hP : va_P D vwCl ([(za, (b13_0 0 z1 (nI z2) (nI z3) z4 z5 z6 z7 z8 z9 (nI z10) z11 z12 z13 z14 z15 (nI z16) z17 z18 z19))] ++ va_pl L M_69) H_68 := by rw [eM_69]; exact hP
                  have hD : va_D A ([(za, (b13_0 0 z1 (nI z2) (nI z3) z4 z5 z6 z7 z8 z9 (nI z10) z11 z12 z13 z14 z15 (nI z16) z17 z18 z19))] ++ va_pl L M_69) := by rw [eM_69]; exact hD
                  have hW : WOM cy K L M_69 := by rw [eM_69]; exact hW.up_77 hc63 ⟨_, rfl⟩
                  have hF : fr K L [12, 14, 43, 77, 78] M M_69 := by rw [eM_69]; exact hF.up hc63 (by decide)
                  have hG : fG K L [11] M M_69 := by rw [eM_69]; exact hG.arr hc63 (by decide)
                  have hM_70 : M_69 v63 = .inl (cy 14, 16, .inl (upd f66 ((nI v18) : Int32).toNatClampNeg f_67)) := by rw [eM_69]; exact va_up_self _ _ _
                  have hM_71 : M_69 b13 = .inr (12, fs16) := by rw [eM_69, va_up_ne _ _ (hb_15.neT hc63 (by decide))]; exact hM_60
                  obtain ⟨f_72, ef_72⟩ : ∃ f : Nat → Int32, f = upd f66 ((nI v18) : Int32).toNatClampNeg f_67 := ⟨_, rfl⟩
                  rw [← ef_72] at hM_70
                  refine lv_aload_n hx hb dX13_rule_195 rfl (lv_at hl 3 rfl) ?_
                  refine pg_getN (D := D) (ci := 12) (v := .ref v32) (C := RX12) (T := TX12) (N := 51) hx hb hg inG12 hown hK hP hb_15.1 hM_71 rfl 34 (by decide) (hN.use (Cond.fieldLinkNest RX13 145 RX12 "ruleDay" "[I" RX13) 43 rfl rfl) (fun _ h9 => h9) hv32 dX13_rule_196 ?_
                  refine lv_aload_n hx hb dX13_rule_199 rfl (lv_at hl 3 rfl) ?_
                  refine pg_getN (D := D) (ci := 12) (v := .int (nI v18)) (C := RX12) (T := TX12) (N := 51) hx hb hg inG12 hown hK hP hb_15.1 hM_71 rfl 11 (by decide) (hN.use (Cond.fieldLinkNest RX13 142 RX12 "rules" "I" RX13) 20 rfl rfl) (fun _ h9 => h9) hv18 dX13_rule_200 ?_
                  refine lv_iload_n hx hb dX13_rule_203 rfl (lv_at hl 6 rfl) ?_
                  obtain ⟨f73, hM73⟩ := hW.open_43 hc32
                  refine pg_iast hx hb hK hP hD hS hc32.1 0 hM73 rfl (inbN v18 16 (by omega) (by omega)) dX13_rule_204 (fun H_74 locs hP hD hS => ?_)
                  obtain ⟨M_75, eM_75⟩ : ∃ M1 : Hp, M1 = va_up M_69 v32 (.inl (cy 14, 16, .inl (upd f73 ((nI v18) : Int32).toNatClampNeg (nI j_28)))) := ⟨_, rfl⟩
                  have hy34 : (ax M b13 34) = f73 := (congrFun hV.2.2.1 34).symm.trans (ax_of hM_71 (by decide) hv32 hM73)
                  have hV : VW K L M M_75 b13 (fx M b13) (va_up (va_up (va_up (ax M b13) 36 gw54) 35 (upd (ax M b13 35) ((nI v18) : Int32).toNatClampNeg f_67)) 34 (upd (ax M b13 34) ((nI v18) : Int32).toNatClampNeg (nI j_28))) := by rw [eM_75]; exact hV.ast (j := 34) hW hb_15 hM_71 (by decide) hv32 hc32 hM73
                  have hP : va_P D vwCl ([(za, (b13_0 0 z1 (nI z2) (nI z3) z4 z5 z6 z7 z8 z9 (nI z10) z11 z12 z13 z14 z15 (nI z16) z17 z18 z19))] ++ va_pl L M_75) H_74 := by rw [eM_75]; exact hP
                  have hD : va_D A ([(za, (b13_0 0 z1 (nI z2) (nI z3) z4 z5 z6 z7 z8 z9 (nI z10) z11 z12 z13 z14 z15 (nI z16) z17 z18 z19))] ++ va_pl L M_75) := by rw [eM_75]; exact hD
                  have hW : WOM cy K L M_75 := by rw [eM_75]; exact hW.up_43 hc32 ⟨_, rfl⟩
                  have hF : fr K L [12, 14, 43, 77, 78] M M_75 := by rw [eM_75]; exact hF.up hc32 (by decide)
                  have hG : fG K L [11] M M_75 := by rw [eM_75]; exact hG.arr hc32 (by decide)
                  have hM_76 : M_75 v32 = .inl (cy 14, 16, .inl (upd f73 ((nI v18) : Int32).toNatClampNeg (nI j_28))) := by rw [eM_75]; exact va_up_self _ _ _
                  have hM_77 : M_75 v63 = .inl (cy 14, 16, .inl (f_72)) := by rw [eM_75, va_up_ne _ _ (hc63.neT hc32 (by decide))]; exact hM_70
                  have hM_78 : M_75 b13 = .inr (12, fs16) := by rw [eM_75, va_up_ne _ _ (hb_15.neT hc32 (by decide))]; exact hM_71
                  obtain ⟨f_79, ef_79⟩ : ∃ f : Nat → Int32, f = upd f73 ((nI v18) : Int32).toNatClampNeg (nI j_28) := ⟨_, rfl⟩
                  rw [← ef_79] at hM_76
                  refine lv_aload_n hx hb dX13_rule_205 rfl (lv_at hl 3 rfl) ?_
                  refine lv_dup hx hb dX13_rule_206 rfl ?_
                  refine pg_getN (D := D) (ci := 12) (v := .int (nI v18)) (C := RX12) (T := TX12) (N := 51) hx hb hg inG12 hown hK hP hb_15.1 hM_78 rfl 11 (by decide) (hN.use (Cond.fieldLinkNest RX13 142 RX12 "rules" "I" RX13) 20 rfl rfl) (fun _ h9 => h9) hv18 dX13_rule_207 ?_
                  refine lv_iconst (v := 1) hx hb dX13_rule_210 (by decide) ?_
                  refine lv_iadd hx hb dX13_rule_211 ?_
                  refine lv_topi (fun f_80 ef_80 => ?_)
                  obtain rfl : f_80 = (nI (v18 + 1)) := ef_80.trans (nI_add v18 1)
                  refine pg_putN (D := D) (ci := 12) (v := .int (nI (v18 + 1))) (ty := .int) (C := RX12) (T := TX12) (N := 51) hx hb hg inG12 tyX12 tyX12_ok nmX12 hown hK hP hD hS hb_15.1 hM_78 rfl 11 (by decide) (hN.use (Cond.fieldLinkNest RX13 142 RX12 "rules" "I" RX13) 20 rfl rfl) (fun _ h9 => h9) rfl (by decide +kernel) rfl rfl (by rw [hn16]; decide) dX13_rule_212 (fun H_81 locs hP hD hS => ?_)
                  have hs_84 : (fs16.set 11 (.int (nI (v18 + 1))))[11]? = some (.int (nI (v18 + 1))) := List.getElem?_set_self (by rw [hn16]; decide)
                  have hk_83 := fld12_set (k := 11) (w := .int (nI (v18 + 1))) hl16 (show fld12 K L 11 (fs16.set 11 (.int (nI (v18 + 1)))) from ⟨(v18 + 1), hs_84, by omega⟩)
                  have hn_85 : (fs16.set 11 (.int (nI (v18 + 1)))).length = 51 := by rw [List.length_set]; exact hn16
                  have hv_86 : (fs16.set 11 (.int (nI (v18 + 1))))[0]? = some (.int (nI v17)) := by rw [List.getElem?_set_ne (by decide)]; exact hv17
                  have hv_87 : (fs16.set 11 (.int (nI (v18 + 1))))[34]? = some (.ref v32) := by rw [List.getElem?_set_ne (by decide)]; exact hv32
                  have hv_88 : (fs16.set 11 (.int (nI (v18 + 1))))[35]? = some (.ref v63) := by rw [List.getElem?_set_ne (by decide)]; exact hv63
                  have hb_89 : (v18 + 1) ≤ 16 := by omega
                  obtain ⟨M_90, eM_90⟩ : ∃ M1 : Hp, M1 = va_up M_75 b13 (.inr (12, fs16.set 11 (.int (nI (v18 + 1))))) := ⟨_, rfl⟩
                  have hx11 : (fx M b13 11) = ((v18 : Nat) : Int) := (congrFun hV.2.1 11).symm.trans ((fx_of hM_78 rfl hv18).trans (nI_toInt (by omega)))
                  have hV : VW K L M M_90 b13 (va_up (fx M b13) 11 (((v18 + 1) : Nat) : Int)) (va_up (va_up (va_up (ax M b13) 36 gw54) 35 (upd (ax M b13 35) ((nI v18) : Int32).toNatClampNeg f_67)) 34 (upd (ax M b13 34) ((nI v18) : Int32).toNatClampNeg (nI j_28))) := by rw [eM_90]; exact hV.put hW hb_15 hM_78 hn16 rfl (by decide) rfl (nI_toInt (by omega))
                  have hP : va_P D vwCl ([(za, (b13_0 0 z1 (nI z2) (nI z3) z4 z5 z6 z7 z8 z9 (nI z10) z11 z12 z13 z14 z15 (nI z16) z17 z18 z19))] ++ va_pl L M_90) H_81 := by rw [eM_90]; exact hP
                  have hD : va_D A ([(za, (b13_0 0 z1 (nI z2) (nI z3) z4 z5 z6 z7 z8 z9 (nI z10) z11 z12 z13 z14 z15 (nI z16) z17 z18 z19))] ++ va_pl L M_90) := by rw [eM_90]; exact hD
                  have hW : WOM cy K L M_90 := by rw [eM_90]; exact hW.up_12 hb_15 ⟨_, rfl, hn_85, hk_83⟩
                  have hF : fr K L [12, 14, 43, 77, 78] M M_90 := by rw [eM_90]; exact hF.up hb_15 (by decide)
                  have hG : fG K L [11] M M_90 := by rw [eM_90]; exact hG.up hM_78 (by decide)
                  have hM_91 : M_90 b13 = .inr (12, fs16.set 11 (.int (nI (v18 + 1)))) := by rw [eM_90]; exact va_up_self _ _ _
                  have hM_92 : M_90 v32 = .inl (cy 14, 16, .inl (f_79)) := by rw [eM_90, va_up_ne _ _ (hc32.neT hb_15 (by decide))]; exact hM_76
                  have hM_93 : M_90 v63 = .inl (cy 14, 16, .inl (f_72)) := by rw [eM_90, va_up_ne _ _ (hc63.neT hb_15 (by decide))]; exact hM_77
                  refine lv_aload_n hx hb dX13_rule_215 rfl (lv_at hl 4 rfl) ?_
                  refine lv_aload_n hx hb dX13_rule_216 rfl (lv_at hl 3 rfl) ?_
                  refine pg_getN (D := D) (ci := 12) (v := .int (nI (v18 + 1))) (C := RX12) (T := TX12) (N := 51) hx hb hg inG12 hown hK hP hb_15.1 hM_91 rfl 11 (by decide) (hN.use (Cond.fieldLinkNest RX13 142 RX12 "rules" "I" RX13) 20 rfl rfl) (fun _ h9 => h9) hs_84 dX13_rule_217 ?_
                  have hPc := hP.sub (ws' := [(za, (b13_0 0 z1 (nI z2) (nI z3) z4 z5 z6 z7 z8 z9 (nI z10) z11 z12 z13 z14 z15 (nI z16) z17 z18 z19))]) [0] rfl
                  have hDc := hD.sub (ws' := [(za, (b13_0 0 z1 (nI z2) (nI z3) z4 z5 z6 z7 z8 z9 (nI z10) z11 z12 z13 z14 z15 (nI z16) z17 z18 z19))]) [0] (by decide) rfl
                  have hKc := hK.sub (tys' := []) [] rfl
                  have hFc := va_free (wc := [(za, (b13_0 0 z1 (nI z2) (nI z3) z4 z5 z6 z7 z8 z9 (nI z10) z11 z12 z13 z14 z15 (nI z16) z17 z18 z19))]) hD hS hA [0] rfl
                  refine va_calli (va_runV (As := [.int (nI (v18 + 1))]) (rest := []) ⟨hx, hb, hml, hown, hg⟩ (m_done l D H_81.size za 0 z1 (nI z2) (nI z3) z4 z5 z6 z7 z8 z9 (nI z10) z11 z12 z13 z14 z15 (nI z16) z17 z18 z19 (nI (v18 + 1))) (cwV 1 hg (gV wd_730 wd_731 wd_732 wd_717 wd_733) rfl rfl rfl (by decide +kernel) ⟨(Nat.le_trans (Nat.le_of_ble_eq_true rfl) hRf), (Nat.le_trans (Nat.le_of_ble_eq_true rfl) hRl)⟩) ⟨Pr.blind, va_recv hK hP (ci := 13) (q0 := 0) rfl rfl, fun U hU hW => ⟨rfl, Pr.at hPc hKc hDc hN hU hW⟩⟩ rfl rfl hl.1 rfl (lv_room (Nat.le_of_ble_eq_true rfl)) dX13_rule_220 ⟨(Nat.le_trans (Nat.le_of_ble_eq_true rfl) hRc), (Nat.le_trans (Nat.le_of_ble_eq_true rfl) hRs)⟩) hS (fun q _ h => hFc q h) hFc (fun r_95 M_96 t H_94 locs ht hvm hw hB hz1 hk1 hS => ?_)
                  have hp_97 := hw
                  obtain ⟨hP1, hK1, hD1⟩ := hB
                  rw [ht] at hP1
                  obtain ⟨hP, hD⟩ := va_joinQ (X := [(za, (b13_0 0 z1 (nI z2) (nI z3) z4 z5 z6 z7 z8 z9 (nI z10) z11 z12 z13 z14 z15 (nI z16) z17 z18 z19))]) (cx := [(za, (b13_0 0 z1 (nI z2) (nI z3) z4 z5 z6 z7 z8 z9 (nI z10) z11 z12 z13 z14 z15 (nI z16) z17 z18 z19))]) (wr := []) (w1 := [(za, (b13_0 0 z1 (nI z2) (nI z3) 0 (-1) z6 z7 z8 z9 (nI z10) z11 z12 z13 z14 z15 (nI z16) z17 z18 z19))]) (pl := va_pl L M_90) hP hD [0] [] rfl rfl (by decide) (by decide) hk1 hFc hP1 hD1
                  have hP : va_P D vwCl ([(za, (b13_0 0 z1 (nI z2) (nI z3) 0 (-1) z6 z7 z8 z9 (nI z10) z11 z12 z13 z14 z15 (nI z16) z17 z18 z19))] ++ va_pl L M_90) H_94 := hP
                  have hD : va_D A ([(za, (b13_0 0 z1 (nI z2) (nI z3) 0 (-1) z6 z7 z8 z9 (nI z10) z11 z12 z13 z14 z15 (nI z16) z17 z18 z19))] ++ va_pl L M_90) := hD
                  have hq := Eq.symm hp_97
                  subst hq
                  have hI_98 : (0 : Int) ≤ (k1 : Int32).toInt := inltI rfl rfl c_7
                  have hI_99 : (k1 : Int32).toInt < ((z2 : Nat) : Int) := inleI (nI_toInt (by omega)) rfl c_8
                  have hI_100 : (0 : Int) ≤ ((j_28 : Nat) : Int) := inltI (nI_toInt (by omega)) rfl c_24
                  have hI_101 : ((j_28 : Nat) : Int) < (1000 : Int) := inleI rfl (nI_toInt (by omega)) c_25
                  have hI_102 : ((v18 : Nat) : Int) ≠ (0 : Int) := ineI (nI_toInt (by omega)) rfl c_30
                  have hI_103 : (f_35 : Int32).toInt < ((j_28 : Nat) : Int) := inleI (nI_toInt (by omega)) rfl c_36
                  have hI_104 : ((v18 : Nat) : Int) ≠ (16 : Int) := ineI (nI_toInt (by omega)) rfl c_49
                  have hI_105 : (24 : Int) ≤ ((v6w54 : Nat) : Int) := ileI rfl (nI_toInt (by omega)) c_61
                  have hI_106 : ((v18 : Nat) : Int) ≠ (0 : Int) := ineI (nI_toInt (by omega)) rfl c_64
                  have hn92 : ((nI j_28) : Int32).toInt = ((j_28 : Nat) : Int) := nI_toInt (by omega)
                  have hyes : okRu z2 SX SY k1 (nI j_28) := by unfold okRu okH; refine ⟨⟨?_, ?_⟩, ?_, ?_, ?_, ?_⟩ <;> first | omega | assumption
                  have hA9 : HA (ax M b13 2) (ax M b13 3) := hAT.1
                  have hB9 : HB (fx M b13 16) (fx M b13 14) (ax M b13 3) (ax M b13 43) := hAT.2.1
                  have hC9 : HC (fx M b13 10) (ax M b13 22) (ax M b13 23) := hAT.2.2.1
                  have hD9 : HD (fx M b13 0) (((v18 + 1) : Nat) : Int) (fx M b13 15) (upd (ax M b13 34) ((nI v18) : Int32).toNatClampNeg (nI j_28)) (ax M b13 41) := HD.rule hAT.2.2.2.1 hx11 (by omega) (nI_cl (by omega)) (fun h0 => by first | (exfalso; omega) | (rw [nI_toInt (by omega), hx0]; omega))
                  have hE9 : HE (fx M b13 0) (fx M b13 1) (fx M b13 12) (fx M b13 13) (ax M b13 37) := hAT.2.2.2.2
                  have hH9 : HI (va_up (fx M b13) 11 (((v18 + 1) : Nat) : Int)) (va_up (va_up (va_up (ax M b13) 36 gw54) 35 (upd (ax M b13 35) ((nI v18) : Int32).toNatClampNeg f_67)) 34 (upd (ax M b13 34) ((nI v18) : Int32).toNatClampNeg (nI j_28))) := ⟨hA9, hB9, hC9, hD9, hE9⟩
                  have hGI9 : GI K L z1 z2 M_90 := GI.fin hW0 i1 b2 hGI hact hV (hF.at i1 (by decide)) hH9
                  have hrn : (SX (k1 : Int32).toNatClampNeg 11).toNat = v18 := by omega
                  have hRG : RUG (SX (k1 : Int32).toNatClampNeg) (SY (k1 : Int32).toNatClampNeg) gw54 := ⟨fun z hz => by rw [← hZk.2]; exact hgA z (by omega), fun q hq => by rw [hrn, hgB q (by omega)]; unfold trm trS; rw [hZk.2]; by_cases w9 : v18 = 0; all_goals first | rw [if_pos w9, if_pos (by omega)] | rw [if_neg w9, if_neg (by omega), show (SX (k1 : Int32).toNatClampNeg 11 - 1).toNat = v18 - 1 by omega]⟩
                  rw [hQ]
                  exact W.iret (v := (nI (v18 + 1))) hx hb hr (fun t ht hW9 => ⟨⟨(nI (v18 + 1)), M_90, rfl, ⟨hW, hF, hG, ⟨hGI9, ⟨gw54, fun _ => hRG, (by unfold sxRu syRu; rw [if_pos hyes, if_pos hyes, hrn, ← hth]; exact ZSx.fin hW0 i1 b2 hZS hGI.1 hkn hb9 hV (hF.at i1 (by decide)) (by rw [hZk.1, show ((v18 + 1 : Nat) : Int) = SX (k1 : Int32).toNatClampNeg 11 + 1 by omega]) (by rw [hZk.2, nI_cl (t := v18) (by omega), va_up3]))⟩⟩, (by unfold anRu; rw [if_pos hyes]; exact congrArg nI (by omega))⟩, ⟨0, by rw [ht]; exact hP, hD⟩⟩, hS.F ht⟩) hS.2.2 dX13_rule_223
                · have hz := rfl (a := 0)
                  have n_107 : ¬ (24 ≤ v6w54) := fun q => c_61 ((iLE (a := 24) (b := v6w54) (by omega) (by omega)).mpr q)
                  refine lv_aload_n hx hb dX13_rule_115 rfl (lv_at hl 3 rfl) ?_
                  obtain ⟨v108, hv108, hc108⟩ : ∃ v : Nat, fs16[36]? = some (.ref v : Value) ∧ isk K L v 78 384 := hl16 36 (by decide)
                  refine pg_getN (D := D) (ci := 12) (v := .ref v108) (C := RX12) (T := TX12) (N := 51) hx hb hg inG12 hown hK hP hb_15.1 hM_60 rfl 36 (by decide) (hN.use (Cond.fieldLinkNest RX13 148 RX12 "term" "[I" RX13) 45 rfl rfl) (fun _ h9 => h9) hv108 dX13_rule_116 ?_
                  refine lv_iload hx hb dX13_rule_119 (lv_at hl 1 rfl) ?_
                  refine lv_aload_n hx hb dX13_rule_121 rfl (lv_at hl 3 rfl) ?_
                  refine pg_getN (D := D) (ci := 12) (v := .int (nI v18)) (C := RX12) (T := TX12) (N := 51) hx hb hg inG12 hown hK hP hb_15.1 hM_60 rfl 11 (by decide) (hN.use (Cond.fieldLinkNest RX13 142 RX12 "rules" "I" RX13) 20 rfl rfl) (fun _ h9 => h9) hv18 dX13_rule_122 ?_
                  refine lv_imul hx hb dX13_rule_125 ?_
                  refine lv_topi (fun f_109 ef_109 => ?_)
                  obtain rfl : f_109 = (nI (24 * v18)) := ef_109.trans (nI_mul 24 v18)
                  refine lv_iload hx hb dX13_rule_126 (lv_at hl 0 rfl) ?_
                  refine lv_iadd hx hb dX13_rule_128 ?_
                  refine lv_topi (fun f_110 ef_110 => ?_)
                  obtain rfl : f_110 = (nI ((24 * v18) + v6w54)) := ef_110.trans (nI_add (24 * v18) v6w54)
                  refine lv_aload_n hx hb dX13_rule_129 rfl (lv_at hl 3 rfl) ?_
                  refine pg_getN (D := D) (ci := 12) (v := .int (nI v18)) (C := RX12) (T := TX12) (N := 51) hx hb hg inG12 hown hK hP hb_15.1 hM_60 rfl 11 (by decide) (hN.use (Cond.fieldLinkNest RX13 142 RX12 "rules" "I" RX13) 20 rfl rfl) (fun _ h9 => h9) hv18 dX13_rule_130 ?_
                  refine lv_if_ne (tgt := 140) hx hb dX13_rule_133 (by decide) (fun c_111 => ?_) (fun c_111 => absurd c_111 c_30)
                  refine lv_aload_n hx hb dX13_rule_140 rfl (lv_at hl 3 rfl) ?_
                  refine pg_getN (D := D) (ci := 12) (v := .ref v108) (C := RX12) (T := TX12) (N := 51) hx hb hg inG12 hown hK hP hb_15.1 hM_60 rfl 36 (by decide) (hN.use (Cond.fieldLinkNest RX13 148 RX12 "term" "[I" RX13) 45 rfl rfl) (fun _ h9 => h9) hv108 dX13_rule_141 ?_
                  refine lv_iload hx hb dX13_rule_144 (lv_at hl 1 rfl) ?_
                  refine lv_aload_n hx hb dX13_rule_146 rfl (lv_at hl 3 rfl) ?_
                  refine pg_getN (D := D) (ci := 12) (v := .int (nI v18)) (C := RX12) (T := TX12) (N := 51) hx hb hg inG12 hown hK hP hb_15.1 hM_60 rfl 11 (by decide) (hN.use (Cond.fieldLinkNest RX13 142 RX12 "rules" "I" RX13) 20 rfl rfl) (fun _ h9 => h9) hv18 dX13_rule_147 ?_
                  refine lv_iconst (v := 1) hx hb dX13_rule_150 (by decide) ?_
                  refine lv_isub hx hb dX13_rule_151 ?_
                  refine lv_topi (fun f_112 ef_112 => ?_)
                  obtain rfl : f_112 = (nI (v18 - 1)) := ef_112.trans (nI_prd (by omega))
                  refine lv_imul hx hb dX13_rule_152 ?_
                  refine lv_topi (fun f_113 ef_113 => ?_)
                  obtain rfl : f_113 = (nI (24 * (v18 - 1))) := ef_113.trans (nI_mul 24 (v18 - 1))
                  refine lv_iload hx hb dX13_rule_153 (lv_at hl 0 rfl) ?_
                  refine lv_iadd hx hb dX13_rule_155 ?_
                  refine lv_topi (fun f_114 ef_114 => ?_)
                  obtain rfl : f_114 = (nI ((24 * (v18 - 1)) + v6w54)) := ef_114.trans (nI_add (24 * (v18 - 1)) v6w54)
                  obtain ⟨f115, hM115⟩ := hW.open_78 hc108
                  refine pg_iald hx hb hK hP hc108.1 0 hM115 rfl (inbN ((24 * (v18 - 1)) + v6w54) 384 (by omega) (by omega)) dX13_rule_156 ?_
                  refine lv_topi (fun f_116 ef_116 => ?_)
                  have hy36 : gw54 = f115 := (congrFun hV.2.2.1 36).symm.trans (ax_of hM_60 (by decide) hv108 hM115)
                  have hrv : f_116 = trm (ax M b13 36) v18 v6w54 := by unfold trm; rw [if_neg (by omega), ← hx_56 (24 * (v18 - 1) + v6w54) (by omega), hy36, ef_116, nI_cl (by omega)]
                  refine pg_iast hx hb hK hP hD hS hc108.1 0 hM115 rfl (inbN ((24 * v18) + v6w54) 384 (by omega) (by omega)) dX13_rule_157 (fun H_117 locs hP hD hS => ?_)
                  obtain ⟨M_118, eM_118⟩ : ∃ M1 : Hp, M1 = va_up M_58 v108 (.inl (cy 14, 384, .inl (upd f115 ((nI ((24 * v18) + v6w54)) : Int32).toNatClampNeg f_116))) := ⟨_, rfl⟩
                  have hy36 : gw54 = f115 := (congrFun hV.2.2.1 36).symm.trans (ax_of hM_60 (by decide) hv108 hM115)
                  have hV : VW K L M M_118 b13 (fx M b13) (va_up (va_up (ax M b13) 36 gw54) 36 (upd gw54 ((nI ((24 * v18) + v6w54)) : Int32).toNatClampNeg f_116)) := by rw [eM_118]; exact hV.ast (j := 36) hW hb_15 hM_60 (by decide) hv108 hc108 hM115
                  have hP : va_P D vwCl ([(za, (b13_0 0 z1 (nI z2) (nI z3) z4 z5 z6 z7 z8 z9 (nI z10) z11 z12 z13 z14 z15 (nI z16) z17 z18 z19))] ++ va_pl L M_118) H_117 := by rw [eM_118]; exact hP
                  have hD : va_D A ([(za, (b13_0 0 z1 (nI z2) (nI z3) z4 z5 z6 z7 z8 z9 (nI z10) z11 z12 z13 z14 z15 (nI z16) z17 z18 z19))] ++ va_pl L M_118) := by rw [eM_118]; exact hD
                  have hW : WOM cy K L M_118 := by rw [eM_118]; exact hW.up_78 hc108 ⟨_, rfl⟩
                  have hF : fr K L [12, 14, 43, 77, 78] M M_118 := by rw [eM_118]; exact hF.up hc108 (by decide)
                  have hG : fG K L [11] M M_118 := by rw [eM_118]; exact hG.arr hc108 (by decide)
                  have hM_119 : M_118 v108 = .inl (cy 14, 384, .inl (upd f115 ((nI ((24 * v18) + v6w54)) : Int32).toNatClampNeg f_116)) := by rw [eM_118]; exact va_up_self _ _ _
                  have hM_120 : M_118 b13 = .inr (12, fs16) := by rw [eM_118, va_up_ne _ _ (hb_15.neT hc108 (by decide))]; exact hM_60
                  obtain ⟨f_121, ef_121⟩ : ∃ f : Nat → Int32, f = upd f115 ((nI ((24 * v18) + v6w54)) : Int32).toNatClampNeg f_116 := ⟨_, rfl⟩
                  rw [← ef_121] at hM_119
                  refine lv_iinc (v := (nI (v6w54 + 1))) (lv' := [(6, .int (nI (v6w54 + 1))), (5, .int 24), (4, .int 1), (3, .ref b13), (0, .ref za), (1, .int k1), (2, .int (nI j_28))]) hx hb dX13_rule_158 hl (k := 0) rfl (nI_1 v6w54) (by decide) rfl (fun ls hl => ?_)
                  refine lv_goto (tgt := 108) hx hb dX13_rule_161 (by decide) ?_
                  exact ih_52 (v6w54 + 1) (upd gw54 ((nI ((24 * v18) + v6w54)) : Int32).toNatClampNeg f_116) M_118 H_117 _ _ (by omega) hM_120 (by omega) (trm1 hx_56 (nI_cl (by omega))) (trm2 hx_57 (nI_cl (by omega)) hrv) hW hF hG (by have h := hV; simp only [va_up_up] at h; exact h) hP hD hS (lv_sub hl [0, 1, 2, 3, 4, 5, 6] rfl)
            exact key_51 (24 - 0 + 1) 0 (ax M b13 36) M H_19 _ _ (by omega) hM16 (by omega) (fun _ _ => rfl) (fun i h => absurd h (Nat.not_lt_zero _)) hW hF hG (by rw [va_up_id]; exact hV) hP hD hS (lv_sub hl [0, 1, 2, 3, 4, 5, 6] rfl)
          · have hz := rfl (a := 0)
            have n_122 : v18 = 16 := (iEQ (a := v18) (b := 16) (by omega) (by omega)).mp c_49
            refine lv_aload_n hx hb dX13_rule_94 rfl (lv_at hl 2 rfl) ?_
            refine lv_bipush (v := 9) hx hb dX13_rule_95 (by decide) ?_
            have hPc := hP.sub (ws' := [(za, (b13_0 0 z1 (nI z2) (nI z3) z4 z5 z6 z7 z8 z9 (nI z10) z11 z12 z13 z14 z15 (nI z16) z17 z18 z19))]) [0] rfl
            have hDc := hD.sub (ws' := [(za, (b13_0 0 z1 (nI z2) (nI z3) z4 z5 z6 z7 z8 z9 (nI z10) z11 z12 z13 z14 z15 (nI z16) z17 z18 z19))]) [0] (by decide) rfl
            have hKc := hK.sub (tys' := []) [] rfl
            have hFc := va_free (wc := [(za, (b13_0 0 z1 (nI z2) (nI z3) z4 z5 z6 z7 z8 z9 (nI z10) z11 z12 z13 z14 z15 (nI z16) z17 z18 z19))]) hD hS hA [0] rfl
            refine va_calli (va_runV (As := [.int 9]) (rest := []) ⟨hx, hb, hml, hown, hg⟩ (m_refused l D H_19.size za 0 z1 (nI z2) (nI z3) z4 z5 z6 z7 z8 z9 (nI z10) z11 z12 z13 z14 z15 (nI z16) z17 z18 z19 9) (cwV 1 hg (gV wd_725 wd_726 wd_727 wd_717 wd_728) rfl rfl rfl (by decide +kernel) ⟨(Nat.le_trans (Nat.le_of_ble_eq_true rfl) hRf), (Nat.le_trans (Nat.le_of_ble_eq_true rfl) hRl)⟩) ⟨Pr.blind, va_recv hK hP (ci := 13) (q0 := 0) rfl rfl, fun U hU hW => ⟨rfl, Pr.at hPc hKc hDc hN hU hW⟩⟩ rfl rfl hl.1 rfl (lv_room (Nat.le_of_ble_eq_true rfl)) dX13_rule_97 ⟨(Nat.le_trans (Nat.le_of_ble_eq_true rfl) hRc), (Nat.le_trans (Nat.le_of_ble_eq_true rfl) hRs)⟩) hS (fun q _ h => hFc q h) hFc (fun r_124 M_125 t H_123 locs ht hvm hw hB hz1 hk1 hS => ?_)
            have hp_126 := hw
            obtain ⟨hP1, hK1, hD1⟩ := hB
            rw [ht] at hP1
            obtain ⟨hP, hD⟩ := va_joinQ (X := [(za, (b13_0 0 z1 (nI z2) (nI z3) z4 z5 z6 z7 z8 z9 (nI z10) z11 z12 z13 z14 z15 (nI z16) z17 z18 z19))]) (cx := [(za, (b13_0 0 z1 (nI z2) (nI z3) z4 z5 z6 z7 z8 z9 (nI z10) z11 z12 z13 z14 z15 (nI z16) z17 z18 z19))]) (wr := []) (w1 := [(za, (b13_0 0 z1 (nI z2) (nI z3) 9 (-1) z6 z7 z8 z9 (nI z10) z11 z12 z13 z14 z15 (nI z16) z17 z18 z19))]) (pl := va_pl L M) hP hD [0] [] rfl rfl (by decide) (by decide) hk1 hFc hP1 hD1
            have hP : va_P D vwCl ([(za, (b13_0 0 z1 (nI z2) (nI z3) 9 (-1) z6 z7 z8 z9 (nI z10) z11 z12 z13 z14 z15 (nI z16) z17 z18 z19))] ++ va_pl L M) H_123 := hP
            have hD : va_D A ([(za, (b13_0 0 z1 (nI z2) (nI z3) 9 (-1) z6 z7 z8 z9 (nI z10) z11 z12 z13 z14 z15 (nI z16) z17 z18 z19))] ++ va_pl L M) := hD
            have hq := Eq.symm hp_126
            subst hq
            have hI_127 : (0 : Int) ≤ (k1 : Int32).toInt := inltI rfl rfl c_7
            have hI_128 : (k1 : Int32).toInt < ((z2 : Nat) : Int) := inleI (nI_toInt (by omega)) rfl c_8
            have hI_129 : (0 : Int) ≤ ((j_28 : Nat) : Int) := inltI (nI_toInt (by omega)) rfl c_24
            have hI_130 : ((j_28 : Nat) : Int) < (1000 : Int) := inleI rfl (nI_toInt (by omega)) c_25
            have hI_131 : ((v18 : Nat) : Int) ≠ (0 : Int) := ineI (nI_toInt (by omega)) rfl c_30
            have hI_132 : (f_35 : Int32).toInt < ((j_28 : Nat) : Int) := inleI (nI_toInt (by omega)) rfl c_36
            have hI_133 : ((v18 : Nat) : Int) = (16 : Int) := ieqI (nI_toInt (by omega)) rfl c_49
            have hn92 : ((nI j_28) : Int32).toInt = ((j_28 : Nat) : Int) := nI_toInt (by omega)
            have hno : ¬ okRu z2 SX SY k1 (nI j_28) := fun q9 => by unfold okRu okH at q9; first | omega | (obtain ⟨⟨_, _⟩, _, _, _, _⟩ := q9; first | omega | contradiction)
            rw [hQ]
            exact W.iret (v := (-1)) hx hb hr (fun t ht hW9 => ⟨⟨(-1), M, rfl, ⟨hW, hF, hG, ⟨hGI, ⟨fun _ => 0, fun w9 => absurd w9 hno, (by unfold sxRu syRu; rw [if_neg hno, if_neg hno]; exact hZS)⟩⟩, (by unfold anRu; rw [if_neg hno])⟩, ⟨9, by rw [ht]; exact hP, hD⟩⟩, hS.F ht⟩) hS.2.2 dX13_rule_100
      · have hz := rfl (a := 0)
        have n_134 : v18 = 0 := (iEQ (a := v18) (b := 0) (by omega) (by omega)).mp c_30
        refine lv_iload_n hx hb dX13_rule_41 rfl (lv_at hl 3 rfl) ?_
        refine lv_aload_n hx hb dX13_rule_42 rfl (lv_at hl 0 rfl) ?_
        refine pg_getN (D := D) (ci := 12) (v := .int (nI v17)) (C := RX12) (T := TX12) (N := 51) hx hb hg inG12 hown hK hP hb_15.1 hM16 rfl 0 (by decide) (hN.use (Cond.fieldLinkNest RX13 77 RX12 "first" "I" RX13) 9 rfl rfl) (fun _ h9 => h9) hv17 dX13_rule_43 ?_
        refine lv_icmp_ne (tgt := 71) hx hb dX13_rule_46 (by decide) (fun c_135 => ?_) (fun c_135 => ?_)
        · have hz := rfl (a := 0)
          have n_136 : ¬ (j_28 = v17) := fun q => c_135 ((iEQ (a := j_28) (b := v17) (by omega) (by omega)).mpr q)
          refine lv_iconst (v := 0) hx hb dX13_rule_71 (by decide) ?_
          refine lv_istore (lv' := [(4, .int 0), (3, .ref b13), (0, .ref za), (1, .int k1), (2, .int (nI j_28))]) hx hb dX13_rule_72 hl (by decide) rfl (fun ls hl => ?_)
          refine lv_iload hx hb dX13_rule_74 (lv_at hl 0 rfl) ?_
          refine lv_if_ne (tgt := 85) hx hb dX13_rule_76 (by decide) (fun c_137 => absurd c_137 (by decide)) (fun _ => ?_)
          refine lv_aload_n hx hb dX13_rule_79 rfl (lv_at hl 2 rfl) ?_
          refine lv_iconst (v := 3) hx hb dX13_rule_80 (by decide) ?_
          have hPc := hP.sub (ws' := [(za, (b13_0 0 z1 (nI z2) (nI z3) z4 z5 z6 z7 z8 z9 (nI z10) z11 z12 z13 z14 z15 (nI z16) z17 z18 z19))]) [0] rfl
          have hDc := hD.sub (ws' := [(za, (b13_0 0 z1 (nI z2) (nI z3) z4 z5 z6 z7 z8 z9 (nI z10) z11 z12 z13 z14 z15 (nI z16) z17 z18 z19))]) [0] (by decide) rfl
          have hKc := hK.sub (tys' := []) [] rfl
          have hFc := va_free (wc := [(za, (b13_0 0 z1 (nI z2) (nI z3) z4 z5 z6 z7 z8 z9 (nI z10) z11 z12 z13 z14 z15 (nI z16) z17 z18 z19))]) hD hS hA [0] rfl
          refine va_calli (va_runV (As := [.int 3]) (rest := []) ⟨hx, hb, hml, hown, hg⟩ (m_refused l D H_19.size za 0 z1 (nI z2) (nI z3) z4 z5 z6 z7 z8 z9 (nI z10) z11 z12 z13 z14 z15 (nI z16) z17 z18 z19 3) (cwV 1 hg (gV wd_725 wd_726 wd_727 wd_717 wd_728) rfl rfl rfl (by decide +kernel) ⟨(Nat.le_trans (Nat.le_of_ble_eq_true rfl) hRf), (Nat.le_trans (Nat.le_of_ble_eq_true rfl) hRl)⟩) ⟨Pr.blind, va_recv hK hP (ci := 13) (q0 := 0) rfl rfl, fun U hU hW => ⟨rfl, Pr.at hPc hKc hDc hN hU hW⟩⟩ rfl rfl hl.1 rfl (lv_room (Nat.le_of_ble_eq_true rfl)) dX13_rule_81 ⟨(Nat.le_trans (Nat.le_of_ble_eq_true rfl) hRc), (Nat.le_trans (Nat.le_of_ble_eq_true rfl) hRs)⟩) hS (fun q _ h => hFc q h) hFc (fun r_139 M_140 t H_138 locs ht hvm hw hB hz1 hk1 hS => ?_)
          have hp_141 := hw
          obtain ⟨hP1, hK1, hD1⟩ := hB
          rw [ht] at hP1
          obtain ⟨hP, hD⟩ := va_joinQ (X := [(za, (b13_0 0 z1 (nI z2) (nI z3) z4 z5 z6 z7 z8 z9 (nI z10) z11 z12 z13 z14 z15 (nI z16) z17 z18 z19))]) (cx := [(za, (b13_0 0 z1 (nI z2) (nI z3) z4 z5 z6 z7 z8 z9 (nI z10) z11 z12 z13 z14 z15 (nI z16) z17 z18 z19))]) (wr := []) (w1 := [(za, (b13_0 0 z1 (nI z2) (nI z3) 3 (-1) z6 z7 z8 z9 (nI z10) z11 z12 z13 z14 z15 (nI z16) z17 z18 z19))]) (pl := va_pl L M) hP hD [0] [] rfl rfl (by decide) (by decide) hk1 hFc hP1 hD1
          have hP : va_P D vwCl ([(za, (b13_0 0 z1 (nI z2) (nI z3) 3 (-1) z6 z7 z8 z9 (nI z10) z11 z12 z13 z14 z15 (nI z16) z17 z18 z19))] ++ va_pl L M) H_138 := hP
          have hD : va_D A ([(za, (b13_0 0 z1 (nI z2) (nI z3) 3 (-1) z6 z7 z8 z9 (nI z10) z11 z12 z13 z14 z15 (nI z16) z17 z18 z19))] ++ va_pl L M) := hD
          have hq := Eq.symm hp_141
          subst hq
          have hI_142 : (0 : Int) ≤ (k1 : Int32).toInt := inltI rfl rfl c_7
          have hI_143 : (k1 : Int32).toInt < ((z2 : Nat) : Int) := inleI (nI_toInt (by omega)) rfl c_8
          have hI_144 : (0 : Int) ≤ ((j_28 : Nat) : Int) := inltI (nI_toInt (by omega)) rfl c_24
          have hI_145 : ((j_28 : Nat) : Int) < (1000 : Int) := inleI rfl (nI_toInt (by omega)) c_25
          have hI_146 : ((v18 : Nat) : Int) = (0 : Int) := ieqI (nI_toInt (by omega)) rfl c_30
          have hI_147 : ((j_28 : Nat) : Int) ≠ ((v17 : Nat) : Int) := ineI (nI_toInt (by omega)) (nI_toInt (by omega)) c_135
          have hn92 : ((nI j_28) : Int32).toInt = ((j_28 : Nat) : Int) := nI_toInt (by omega)
          have hno : ¬ okRu z2 SX SY k1 (nI j_28) := fun q9 => by unfold okRu okH at q9; first | omega | (obtain ⟨⟨_, _⟩, _, _, _, _⟩ := q9; first | omega | contradiction)
          rw [hQ]
          exact W.iret (v := (-1)) hx hb hr (fun t ht hW9 => ⟨⟨(-1), M, rfl, ⟨hW, hF, hG, ⟨hGI, ⟨fun _ => 0, fun w9 => absurd w9 hno, (by unfold sxRu syRu; rw [if_neg hno, if_neg hno]; exact hZS)⟩⟩, (by unfold anRu; rw [if_neg hno])⟩, ⟨3, by rw [ht]; exact hP, hD⟩⟩, hS.F ht⟩) hS.2.2 dX13_rule_84
        · have hz := rfl (a := 0)
          have n_148 : j_28 = v17 := (iEQ (a := j_28) (b := v17) (by omega) (by omega)).mp c_135
          refine lv_goto (tgt := 67) hx hb dX13_rule_49 (by decide) ?_
          refine lv_iconst (v := 1) hx hb dX13_rule_67 (by decide) ?_
          refine lv_goto (tgt := 72) hx hb dX13_rule_68 (by decide) ?_
          refine lv_istore (lv' := [(4, .int 1), (3, .ref b13), (0, .ref za), (1, .int k1), (2, .int (nI j_28))]) hx hb dX13_rule_72 hl (by decide) rfl (fun ls hl => ?_)
          refine lv_iload hx hb dX13_rule_74 (lv_at hl 0 rfl) ?_
          refine lv_if_ne (tgt := 85) hx hb dX13_rule_76 (by decide) (fun _ => ?_) (fun c_149 => absurd c_149 (by decide))
          refine lv_aload_n hx hb dX13_rule_85 rfl (lv_at hl 1 rfl) ?_
          refine pg_getN (D := D) (ci := 12) (v := .int (nI v18)) (C := RX12) (T := TX12) (N := 51) hx hb hg inG12 hown hK hP hb_15.1 hM16 rfl 11 (by decide) (hN.use (Cond.fieldLinkNest RX13 142 RX12 "rules" "I" RX13) 20 rfl rfl) (fun _ h9 => h9) hv18 dX13_rule_86 ?_
          refine lv_bipush (v := 16) hx hb dX13_rule_89 (by decide) ?_
          refine lv_icmp_ne (tgt := 101) hx hb dX13_rule_91 (by decide) (fun c_150 => ?_) (fun c_150 => absurd c_150 (by rw [c_30]; decide))
          refine lv_bipush (v := 24) hx hb dX13_rule_101 (by decide) ?_
          refine lv_istore (lv' := [(5, .int 24), (4, .int 1), (3, .ref b13), (0, .ref za), (1, .int k1), (2, .int (nI j_28))]) hx hb dX13_rule_103 hl (by decide) rfl (fun ls hl => ?_)
          refine lv_iconst (v := 0) hx hb dX13_rule_105 (by decide) ?_
          refine lv_istore (lv' := [(6, .int 0), (5, .int 24), (4, .int 1), (3, .ref b13), (0, .ref za), (1, .int k1), (2, .int (nI j_28))]) hx hb dX13_rule_106 hl (by decide) rfl (fun ls hl => ?_)
          have key_151 : ∀ (fu_153 : Nat) (v6w154 : Nat) (gw154 : Nat → Int32) (M_158 : Hp) (H_159 : Heap) (locs : List Loc) (ls : Array Slot), 24 - v6w154 < fu_153 → M_158 b13 = .inr (12, fs16) → v6w154 ≤ 24 → (∀ i : Nat, i < 24 * v18 → gw154 i = ax M b13 36 i) → (∀ i : Nat, i < v6w154 → gw154 (24 * v18 + i) = trm (ax M b13 36) v18 i) → WOM cy K L M_158 → fr K L [12, 14, 43, 77, 78] M M_158 → fG K L [11] M M_158 → VW K L M M_158 b13 (fx M b13) (va_up (ax M b13) 36 gw154) → va_P D vwCl ([(za, (b13_0 0 z1 (nI z2) (nI z3) z4 z5 z6 z7 z8 z9 (nI z10) z11 z12 z13 z14 z15 (nI z16) z17 z18 z19))] ++ va_pl L M_158) H_159 → va_D A ([(za, (b13_0 0 z1 (nI z2) (nI z3) z4 z5 z6 z7 z8 z9 (nI z10) z11 z12 z13 z14 z15 (nI z16) z17 z18 z19))] ++ va_pl L M_158) → va_S A s.heap H_159 locs → lv_has ls 7 [(6, .int (nI v6w154)), (5, .int 24), (4, .int 1), (3, .ref b13), (0, .ref za), (1, .int k1), (2, .int (nI j_28))] → W p l e R s m ([.ref za, .int k1, .int (nI j_28)] : List Value).toArray below meth c H_159 locs 0 0 Q (F0 m 108 ls []) := by
            intro fu_153
            induction fu_153 with
            | zero => intro v6w154 gw154 M_158 H_159 locs ls h; exact absurd h (Nat.not_lt_zero _)
            | succ fu_153 ih_152 =>
              intro v6w154 gw154 M_158 H_159 locs ls hfu hM_160 hx_155 hx_156 hx_157 hW hF hG hV hP hD hS hl
              refine lv_iload hx hb dX13_rule_108 (lv_at hl 0 rfl) ?_
              refine lv_iload hx hb dX13_rule_110 (lv_at hl 1 rfl) ?_
              refine lv_icmp_ge (tgt := 164) hx hb dX13_rule_112 (by decide) (fun c_161 => ?_) (fun c_161 => ?_)
              · have hz := rfl (a := 0)
                have n_162 : 24 ≤ v6w154 := (iLE (a := 24) (b := v6w154) (by omega) (by omega)).mp c_161
                have hgA := hx_156
                have hgB := hx_157
                have hv6 : v6w154 = 24 := by omega
                refine lv_aload_n hx hb dX13_rule_164 rfl (lv_at hl 3 rfl) ?_
                obtain ⟨v163, hv163, hc163⟩ : ∃ v : Nat, fs16[35]? = some (.ref v : Value) ∧ isk K L v 77 16 := hl16 35 (by decide)
                refine pg_getN (D := D) (ci := 12) (v := .ref v163) (C := RX12) (T := TX12) (N := 51) hx hb hg inG12 hown hK hP hb_15.1 hM_160 rfl 35 (by decide) (hN.use (Cond.fieldLinkNest RX13 151 RX12 "thousandths" "[I" RX13) 44 rfl rfl) (fun _ h9 => h9) hv163 dX13_rule_165 ?_
                refine lv_aload_n hx hb dX13_rule_168 rfl (lv_at hl 3 rfl) ?_
                refine pg_getN (D := D) (ci := 12) (v := .int (nI v18)) (C := RX12) (T := TX12) (N := 51) hx hb hg inG12 hown hK hP hb_15.1 hM_160 rfl 11 (by decide) (hN.use (Cond.fieldLinkNest RX13 142 RX12 "rules" "I" RX13) 20 rfl rfl) (fun _ h9 => h9) hv18 dX13_rule_169 ?_
                refine lv_aload_n hx hb dX13_rule_172 rfl (lv_at hl 3 rfl) ?_
                refine pg_getN (D := D) (ci := 12) (v := .int (nI v18)) (C := RX12) (T := TX12) (N := 51) hx hb hg inG12 hown hK hP hb_15.1 hM_160 rfl 11 (by decide) (hN.use (Cond.fieldLinkNest RX13 142 RX12 "rules" "I" RX13) 20 rfl rfl) (fun _ h9 => h9) hv18 dX13_rule_173 ?_
                refine lv_if_ne (tgt := 183) hx hb dX13_rule_176 (by decide) (fun c_164 => absurd c_30 c_164) (fun c_164 => ?_)
                refine lv_iconst (v := 0) hx hb dX13_rule_179 (by decide) ?_
                refine lv_goto (tgt := 194) hx hb dX13_rule_180 (by decide) ?_
                have hth : (0 : Int32) = thS (SX (k1 : Int32).toNatClampNeg) (SY (k1 : Int32).toNatClampNeg) := by unfold thS; rw [if_pos (by omega)]
                obtain ⟨f165, hM165⟩ := hW.open_77 hc163
                refine pg_iast hx hb hK hP hD hS hc163.1 0 hM165 rfl (inbN v18 16 (by omega) (by omega)) dX13_rule_194 (fun H_166 locs hP hD hS => ?_)
                obtain ⟨M_167, eM_167⟩ : ∃ M1 : Hp, M1 = va_up M_158 v163 (.inl (cy 14, 16, .inl (upd f165 ((nI v18) : Int32).toNatClampNeg 0))) := ⟨_, rfl⟩
                have hy35 : (ax M b13 35) = f165 := (congrFun hV.2.2.1 35).symm.trans (ax_of hM_160 (by decide) hv163 hM165)
                have hV : VW K L M M_167 b13 (fx M b13) (va_up (va_up (ax M b13) 36 gw154) 35 (upd (ax M b13 35) ((nI v18) : Int32).toNatClampNeg 0)) := by rw [eM_167]; exact hV.ast (j := 35) hW hb_15 hM_160 (by decide) hv163 hc163 hM165
                have hP : va_P D vwCl ([(za, (b13_0 0 z1 (nI z2) (nI z3) z4 z5 z6 z7 z8 z9 (nI z10) z11 z12 z13 z14 z15 (nI z16) z17 z18 z19))] ++ va_pl L M_167) H_166 := by rw [eM_167]; exact hP
                have hD : va_D A ([(za, (b13_0 0 z1 (nI z2) (nI z3) z4 z5 z6 z7 z8 z9 (nI z10) z11 z12 z13 z14 z15 (nI z16) z17 z18 z19))] ++ va_pl L M_167) := by rw [eM_167]; exact hD
                have hW : WOM cy K L M_167 := by rw [eM_167]; exact hW.up_77 hc163 ⟨_, rfl⟩
                have hF : fr K L [12, 14, 43, 77, 78] M M_167 := by rw [eM_167]; exact hF.up hc163 (by decide)
                have hG : fG K L [11] M M_167 := by rw [eM_167]; exact hG.arr hc163 (by decide)
                have hM_168 : M_167 v163 = .inl (cy 14, 16, .inl (upd f165 ((nI v18) : Int32).toNatClampNeg 0)) := by rw [eM_167]; exact va_up_self _ _ _
                have hM_169 : M_167 b13 = .inr (12, fs16) := by rw [eM_167, va_up_ne _ _ (hb_15.neT hc163 (by decide))]; exact hM_160
                obtain ⟨f_170, ef_170⟩ : ∃ f : Nat → Int32, f = upd f165 ((nI v18) : Int32).toNatClampNeg 0 := ⟨_, rfl⟩
                rw [← ef_170] at hM_168
                refine lv_aload_n hx hb dX13_rule_195 rfl (lv_at hl 3 rfl) ?_
                obtain ⟨v171, hv171, hc171⟩ : ∃ v : Nat, fs16[34]? = some (.ref v : Value) ∧ isk K L v 43 16 := hl16 34 (by decide)
                refine pg_getN (D := D) (ci := 12) (v := .ref v171) (C := RX12) (T := TX12) (N := 51) hx hb hg inG12 hown hK hP hb_15.1 hM_169 rfl 34 (by decide) (hN.use (Cond.fieldLinkNest RX13 145 RX12 "ruleDay" "[I" RX13) 43 rfl rfl) (fun _ h9 => h9) hv171 dX13_rule_196 ?_
                refine lv_aload_n hx hb dX13_rule_199 rfl (lv_at hl 3 rfl) ?_
                refine pg_getN (D := D) (ci := 12) (v := .int (nI v18)) (C := RX12) (T := TX12) (N := 51) hx hb hg inG12 hown hK hP hb_15.1 hM_169 rfl 11 (by decide) (hN.use (Cond.fieldLinkNest RX13 142 RX12 "rules" "I" RX13) 20 rfl rfl) (fun _ h9 => h9) hv18 dX13_rule_200 ?_
                refine lv_iload_n hx hb dX13_rule_203 rfl (lv_at hl 6 rfl) ?_
                obtain ⟨f172, hM172⟩ := hW.open_43 hc171
                refine pg_iast hx hb hK hP hD hS hc171.1 0 hM172 rfl (inbN v18 16 (by omega) (by omega)) dX13_rule_204 (fun H_173 locs hP hD hS => ?_)
                obtain ⟨M_174, eM_174⟩ : ∃ M1 : Hp, M1 = va_up M_167 v171 (.inl (cy 14, 16, .inl (upd f172 ((nI v18) : Int32).toNatClampNeg (nI j_28)))) := ⟨_, rfl⟩
                have hy34 : (ax M b13 34) = f172 := (congrFun hV.2.2.1 34).symm.trans (ax_of hM_169 (by decide) hv171 hM172)
                have hV : VW K L M M_174 b13 (fx M b13) (va_up (va_up (va_up (ax M b13) 36 gw154) 35 (upd (ax M b13 35) ((nI v18) : Int32).toNatClampNeg 0)) 34 (upd (ax M b13 34) ((nI v18) : Int32).toNatClampNeg (nI j_28))) := by rw [eM_174]; exact hV.ast (j := 34) hW hb_15 hM_169 (by decide) hv171 hc171 hM172
                have hP : va_P D vwCl ([(za, (b13_0 0 z1 (nI z2) (nI z3) z4 z5 z6 z7 z8 z9 (nI z10) z11 z12 z13 z14 z15 (nI z16) z17 z18 z19))] ++ va_pl L M_174) H_173 := by rw [eM_174]; exact hP
                have hD : va_D A ([(za, (b13_0 0 z1 (nI z2) (nI z3) z4 z5 z6 z7 z8 z9 (nI z10) z11 z12 z13 z14 z15 (nI z16) z17 z18 z19))] ++ va_pl L M_174) := by rw [eM_174]; exact hD
                have hW : WOM cy K L M_174 := by rw [eM_174]; exact hW.up_43 hc171 ⟨_, rfl⟩
                have hF : fr K L [12, 14, 43, 77, 78] M M_174 := by rw [eM_174]; exact hF.up hc171 (by decide)
                have hG : fG K L [11] M M_174 := by rw [eM_174]; exact hG.arr hc171 (by decide)
                have hM_175 : M_174 v171 = .inl (cy 14, 16, .inl (upd f172 ((nI v18) : Int32).toNatClampNeg (nI j_28))) := by rw [eM_174]; exact va_up_self _ _ _
                have hM_176 : M_174 v163 = .inl (cy 14, 16, .inl (f_170)) := by rw [eM_174, va_up_ne _ _ (hc163.neT hc171 (by decide))]; exact hM_168
                have hM_177 : M_174 b13 = .inr (12, fs16) := by rw [eM_174, va_up_ne _ _ (hb_15.neT hc171 (by decide))]; exact hM_169
                obtain ⟨f_178, ef_178⟩ : ∃ f : Nat → Int32, f = upd f172 ((nI v18) : Int32).toNatClampNeg (nI j_28) := ⟨_, rfl⟩
                rw [← ef_178] at hM_175
                refine lv_aload_n hx hb dX13_rule_205 rfl (lv_at hl 3 rfl) ?_
                refine lv_dup hx hb dX13_rule_206 rfl ?_
                refine pg_getN (D := D) (ci := 12) (v := .int (nI v18)) (C := RX12) (T := TX12) (N := 51) hx hb hg inG12 hown hK hP hb_15.1 hM_177 rfl 11 (by decide) (hN.use (Cond.fieldLinkNest RX13 142 RX12 "rules" "I" RX13) 20 rfl rfl) (fun _ h9 => h9) hv18 dX13_rule_207 ?_
                refine lv_iconst (v := 1) hx hb dX13_rule_210 (by decide) ?_
                refine lv_iadd hx hb dX13_rule_211 ?_
                refine lv_topi (fun f_179 ef_179 => ?_)
                obtain rfl : f_179 = (nI (v18 + 1)) := ef_179.trans (nI_add v18 1)
                refine pg_putN (D := D) (ci := 12) (v := .int (nI (v18 + 1))) (ty := .int) (C := RX12) (T := TX12) (N := 51) hx hb hg inG12 tyX12 tyX12_ok nmX12 hown hK hP hD hS hb_15.1 hM_177 rfl 11 (by decide) (hN.use (Cond.fieldLinkNest RX13 142 RX12 "rules" "I" RX13) 20 rfl rfl) (fun _ h9 => h9) rfl (by decide +kernel) rfl rfl (by rw [hn16]; decide) dX13_rule_212 (fun H_180 locs hP hD hS => ?_)
                have hs_183 : (fs16.set 11 (.int (nI (v18 + 1))))[11]? = some (.int (nI (v18 + 1))) := List.getElem?_set_self (by rw [hn16]; decide)
                have hk_182 := fld12_set (k := 11) (w := .int (nI (v18 + 1))) hl16 (show fld12 K L 11 (fs16.set 11 (.int (nI (v18 + 1)))) from ⟨(v18 + 1), hs_183, by omega⟩)
                have hn_184 : (fs16.set 11 (.int (nI (v18 + 1)))).length = 51 := by rw [List.length_set]; exact hn16
                have hv_185 : (fs16.set 11 (.int (nI (v18 + 1))))[0]? = some (.int (nI v17)) := by rw [List.getElem?_set_ne (by decide)]; exact hv17
                have hv_186 : (fs16.set 11 (.int (nI (v18 + 1))))[35]? = some (.ref v163) := by rw [List.getElem?_set_ne (by decide)]; exact hv163
                have hv_187 : (fs16.set 11 (.int (nI (v18 + 1))))[34]? = some (.ref v171) := by rw [List.getElem?_set_ne (by decide)]; exact hv171
                have hb_188 : (v18 + 1) ≤ 16 := by omega
                obtain ⟨M_189, eM_189⟩ : ∃ M1 : Hp, M1 = va_up M_174 b13 (.inr (12, fs16.set 11 (.int (nI (v18 + 1))))) := ⟨_, rfl⟩
                have hx11 : (fx M b13 11) = ((v18 : Nat) : Int) := (congrFun hV.2.1 11).symm.trans ((fx_of hM_177 rfl hv18).trans (nI_toInt (by omega)))
                have hV : VW K L M M_189 b13 (va_up (fx M b13) 11 (((v18 + 1) : Nat) : Int)) (va_up (va_up (va_up (ax M b13) 36 gw154) 35 (upd (ax M b13 35) ((nI v18) : Int32).toNatClampNeg 0)) 34 (upd (ax M b13 34) ((nI v18) : Int32).toNatClampNeg (nI j_28))) := by rw [eM_189]; exact hV.put hW hb_15 hM_177 hn16 rfl (by decide) rfl (nI_toInt (by omega))
                have hP : va_P D vwCl ([(za, (b13_0 0 z1 (nI z2) (nI z3) z4 z5 z6 z7 z8 z9 (nI z10) z11 z12 z13 z14 z15 (nI z16) z17 z18 z19))] ++ va_pl L M_189) H_180 := by rw [eM_189]; exact hP
                have hD : va_D A ([(za, (b13_0 0 z1 (nI z2) (nI z3) z4 z5 z6 z7 z8 z9 (nI z10) z11 z12 z13 z14 z15 (nI z16) z17 z18 z19))] ++ va_pl L M_189) := by rw [eM_189]; exact hD
                have hW : WOM cy K L M_189 := by rw [eM_189]; exact hW.up_12 hb_15 ⟨_, rfl, hn_184, hk_182⟩
                have hF : fr K L [12, 14, 43, 77, 78] M M_189 := by rw [eM_189]; exact hF.up hb_15 (by decide)
                have hG : fG K L [11] M M_189 := by rw [eM_189]; exact hG.up hM_177 (by decide)
                have hM_190 : M_189 b13 = .inr (12, fs16.set 11 (.int (nI (v18 + 1)))) := by rw [eM_189]; exact va_up_self _ _ _
                have hM_191 : M_189 v171 = .inl (cy 14, 16, .inl (f_178)) := by rw [eM_189, va_up_ne _ _ (hc171.neT hb_15 (by decide))]; exact hM_175
                have hM_192 : M_189 v163 = .inl (cy 14, 16, .inl (f_170)) := by rw [eM_189, va_up_ne _ _ (hc163.neT hb_15 (by decide))]; exact hM_176
                refine lv_aload_n hx hb dX13_rule_215 rfl (lv_at hl 4 rfl) ?_
                refine lv_aload_n hx hb dX13_rule_216 rfl (lv_at hl 3 rfl) ?_
                refine pg_getN (D := D) (ci := 12) (v := .int (nI (v18 + 1))) (C := RX12) (T := TX12) (N := 51) hx hb hg inG12 hown hK hP hb_15.1 hM_190 rfl 11 (by decide) (hN.use (Cond.fieldLinkNest RX13 142 RX12 "rules" "I" RX13) 20 rfl rfl) (fun _ h9 => h9) hs_183 dX13_rule_217 ?_
                have hPc := hP.sub (ws' := [(za, (b13_0 0 z1 (nI z2) (nI z3) z4 z5 z6 z7 z8 z9 (nI z10) z11 z12 z13 z14 z15 (nI z16) z17 z18 z19))]) [0] rfl
                have hDc := hD.sub (ws' := [(za, (b13_0 0 z1 (nI z2) (nI z3) z4 z5 z6 z7 z8 z9 (nI z10) z11 z12 z13 z14 z15 (nI z16) z17 z18 z19))]) [0] (by decide) rfl
                have hKc := hK.sub (tys' := []) [] rfl
                have hFc := va_free (wc := [(za, (b13_0 0 z1 (nI z2) (nI z3) z4 z5 z6 z7 z8 z9 (nI z10) z11 z12 z13 z14 z15 (nI z16) z17 z18 z19))]) hD hS hA [0] rfl
                refine va_calli (va_runV (As := [.int (nI (v18 + 1))]) (rest := []) ⟨hx, hb, hml, hown, hg⟩ (m_done l D H_180.size za 0 z1 (nI z2) (nI z3) z4 z5 z6 z7 z8 z9 (nI z10) z11 z12 z13 z14 z15 (nI z16) z17 z18 z19 (nI (v18 + 1))) (cwV 1 hg (gV wd_730 wd_731 wd_732 wd_717 wd_733) rfl rfl rfl (by decide +kernel) ⟨(Nat.le_trans (Nat.le_of_ble_eq_true rfl) hRf), (Nat.le_trans (Nat.le_of_ble_eq_true rfl) hRl)⟩) ⟨Pr.blind, va_recv hK hP (ci := 13) (q0 := 0) rfl rfl, fun U hU hW => ⟨rfl, Pr.at hPc hKc hDc hN hU hW⟩⟩ rfl rfl hl.1 rfl (lv_room (Nat.le_of_ble_eq_true rfl)) dX13_rule_220 ⟨(Nat.le_trans (Nat.le_of_ble_eq_true rfl) hRc), (Nat.le_trans (Nat.le_of_ble_eq_true rfl) hRs)⟩) hS (fun q _ h => hFc q h) hFc (fun r_194 M_195 t H_193 locs ht hvm hw hB hz1 hk1 hS => ?_)
                have hp_196 := hw
                obtain ⟨hP1, hK1, hD1⟩ := hB
                rw [ht] at hP1
                obtain ⟨hP, hD⟩ := va_joinQ (X := [(za, (b13_0 0 z1 (nI z2) (nI z3) z4 z5 z6 z7 z8 z9 (nI z10) z11 z12 z13 z14 z15 (nI z16) z17 z18 z19))]) (cx := [(za, (b13_0 0 z1 (nI z2) (nI z3) z4 z5 z6 z7 z8 z9 (nI z10) z11 z12 z13 z14 z15 (nI z16) z17 z18 z19))]) (wr := []) (w1 := [(za, (b13_0 0 z1 (nI z2) (nI z3) 0 (-1) z6 z7 z8 z9 (nI z10) z11 z12 z13 z14 z15 (nI z16) z17 z18 z19))]) (pl := va_pl L M_189) hP hD [0] [] rfl rfl (by decide) (by decide) hk1 hFc hP1 hD1
                have hP : va_P D vwCl ([(za, (b13_0 0 z1 (nI z2) (nI z3) 0 (-1) z6 z7 z8 z9 (nI z10) z11 z12 z13 z14 z15 (nI z16) z17 z18 z19))] ++ va_pl L M_189) H_193 := hP
                have hD : va_D A ([(za, (b13_0 0 z1 (nI z2) (nI z3) 0 (-1) z6 z7 z8 z9 (nI z10) z11 z12 z13 z14 z15 (nI z16) z17 z18 z19))] ++ va_pl L M_189) := hD
                have hq := Eq.symm hp_196
                subst hq
                have hI_197 : (0 : Int) ≤ (k1 : Int32).toInt := inltI rfl rfl c_7
                have hI_198 : (k1 : Int32).toInt < ((z2 : Nat) : Int) := inleI (nI_toInt (by omega)) rfl c_8
                have hI_199 : (0 : Int) ≤ ((j_28 : Nat) : Int) := inltI (nI_toInt (by omega)) rfl c_24
                have hI_200 : ((j_28 : Nat) : Int) < (1000 : Int) := inleI rfl (nI_toInt (by omega)) c_25
                have hI_201 : ((v18 : Nat) : Int) = (0 : Int) := ieqI (nI_toInt (by omega)) rfl c_30
                have hI_202 : ((j_28 : Nat) : Int) = ((v17 : Nat) : Int) := ieqI (nI_toInt (by omega)) (nI_toInt (by omega)) c_135
                have hI_203 : ((v18 : Nat) : Int) ≠ (16 : Int) := ineI (nI_toInt (by omega)) rfl c_150
                have hI_204 : (24 : Int) ≤ ((v6w154 : Nat) : Int) := ileI rfl (nI_toInt (by omega)) c_161
                have hI_205 : ((v18 : Nat) : Int) = (0 : Int) := ieqI (nI_toInt (by omega)) rfl c_164
                have hn92 : ((nI j_28) : Int32).toInt = ((j_28 : Nat) : Int) := nI_toInt (by omega)
                have hyes : okRu z2 SX SY k1 (nI j_28) := by unfold okRu okH; refine ⟨⟨?_, ?_⟩, ?_, ?_, ?_, ?_⟩ <;> first | omega | assumption
                have hA9 : HA (ax M b13 2) (ax M b13 3) := hAT.1
                have hB9 : HB (fx M b13 16) (fx M b13 14) (ax M b13 3) (ax M b13 43) := hAT.2.1
                have hC9 : HC (fx M b13 10) (ax M b13 22) (ax M b13 23) := hAT.2.2.1
                have hD9 : HD (fx M b13 0) (((v18 + 1) : Nat) : Int) (fx M b13 15) (upd (ax M b13 34) ((nI v18) : Int32).toNatClampNeg (nI j_28)) (ax M b13 41) := HD.rule hAT.2.2.2.1 hx11 (by omega) (nI_cl (by omega)) (fun h0 => by first | (exfalso; omega) | (rw [nI_toInt (by omega), hx0]; omega))
                have hE9 : HE (fx M b13 0) (fx M b13 1) (fx M b13 12) (fx M b13 13) (ax M b13 37) := hAT.2.2.2.2
                have hH9 : HI (va_up (fx M b13) 11 (((v18 + 1) : Nat) : Int)) (va_up (va_up (va_up (ax M b13) 36 gw154) 35 (upd (ax M b13 35) ((nI v18) : Int32).toNatClampNeg 0)) 34 (upd (ax M b13 34) ((nI v18) : Int32).toNatClampNeg (nI j_28))) := ⟨hA9, hB9, hC9, hD9, hE9⟩
                have hGI9 : GI K L z1 z2 M_189 := GI.fin hW0 i1 b2 hGI hact hV (hF.at i1 (by decide)) hH9
                have hrn : (SX (k1 : Int32).toNatClampNeg 11).toNat = v18 := by omega
                have hRG : RUG (SX (k1 : Int32).toNatClampNeg) (SY (k1 : Int32).toNatClampNeg) gw154 := ⟨fun z hz => by rw [← hZk.2]; exact hgA z (by omega), fun q hq => by rw [hrn, hgB q (by omega)]; unfold trm trS; rw [hZk.2]; by_cases w9 : v18 = 0; all_goals first | rw [if_pos w9, if_pos (by omega)] | rw [if_neg w9, if_neg (by omega), show (SX (k1 : Int32).toNatClampNeg 11 - 1).toNat = v18 - 1 by omega]⟩
                rw [hQ]
                exact W.iret (v := (nI (v18 + 1))) hx hb hr (fun t ht hW9 => ⟨⟨(nI (v18 + 1)), M_189, rfl, ⟨hW, hF, hG, ⟨hGI9, ⟨gw154, fun _ => hRG, (by unfold sxRu syRu; rw [if_pos hyes, if_pos hyes, hrn, ← hth]; exact ZSx.fin hW0 i1 b2 hZS hGI.1 hkn hb9 hV (hF.at i1 (by decide)) (by rw [hZk.1, show ((v18 + 1 : Nat) : Int) = SX (k1 : Int32).toNatClampNeg 11 + 1 by omega]) (by rw [hZk.2, nI_cl (t := v18) (by omega), va_up3]))⟩⟩, (by unfold anRu; rw [if_pos hyes]; exact congrArg nI (by omega))⟩, ⟨0, by rw [ht]; exact hP, hD⟩⟩, hS.F ht⟩) hS.2.2 dX13_rule_223
              · have hz := rfl (a := 0)
                have n_206 : ¬ (24 ≤ v6w154) := fun q => c_161 ((iLE (a := 24) (b := v6w154) (by omega) (by omega)).mpr q)
                refine lv_aload_n hx hb dX13_rule_115 rfl (lv_at hl 3 rfl) ?_
                obtain ⟨v207, hv207, hc207⟩ : ∃ v : Nat, fs16[36]? = some (.ref v : Value) ∧ isk K L v 78 384 := hl16 36 (by decide)
                refine pg_getN (D := D) (ci := 12) (v := .ref v207) (C := RX12) (T := TX12) (N := 51) hx hb hg inG12 hown hK hP hb_15.1 hM_160 rfl 36 (by decide) (hN.use (Cond.fieldLinkNest RX13 148 RX12 "term" "[I" RX13) 45 rfl rfl) (fun _ h9 => h9) hv207 dX13_rule_116 ?_
                refine lv_iload hx hb dX13_rule_119 (lv_at hl 1 rfl) ?_
                refine lv_aload_n hx hb dX13_rule_121 rfl (lv_at hl 3 rfl) ?_
                refine pg_getN (D := D) (ci := 12) (v := .int (nI v18)) (C := RX12) (T := TX12) (N := 51) hx hb hg inG12 hown hK hP hb_15.1 hM_160 rfl 11 (by decide) (hN.use (Cond.fieldLinkNest RX13 142 RX12 "rules" "I" RX13) 20 rfl rfl) (fun _ h9 => h9) hv18 dX13_rule_122 ?_
                refine lv_imul hx hb dX13_rule_125 ?_
                refine lv_topi (fun f_208 ef_208 => ?_)
                obtain rfl : f_208 = (nI (24 * v18)) := ef_208.trans (nI_mul 24 v18)
                refine lv_iload hx hb dX13_rule_126 (lv_at hl 0 rfl) ?_
                refine lv_iadd hx hb dX13_rule_128 ?_
                refine lv_topi (fun f_209 ef_209 => ?_)
                obtain rfl : f_209 = (nI ((24 * v18) + v6w154)) := ef_209.trans (nI_add (24 * v18) v6w154)
                refine lv_aload_n hx hb dX13_rule_129 rfl (lv_at hl 3 rfl) ?_
                refine pg_getN (D := D) (ci := 12) (v := .int (nI v18)) (C := RX12) (T := TX12) (N := 51) hx hb hg inG12 hown hK hP hb_15.1 hM_160 rfl 11 (by decide) (hN.use (Cond.fieldLinkNest RX13 142 RX12 "rules" "I" RX13) 20 rfl rfl) (fun _ h9 => h9) hv18 dX13_rule_130 ?_
                refine lv_if_ne (tgt := 140) hx hb dX13_rule_133 (by decide) (fun c_210 => absurd c_30 c_210) (fun c_210 => ?_)
                refine lv_iconst (v := 0) hx hb dX13_rule_136 (by decide) ?_
                refine lv_goto (tgt := 157) hx hb dX13_rule_137 (by decide) ?_
                have hrv : (0 : Int32) = trm (ax M b13 36) v18 v6w154 := by unfold trm; rw [if_pos (by omega)]
                obtain ⟨f211, hM211⟩ := hW.open_78 hc207
                refine pg_iast hx hb hK hP hD hS hc207.1 0 hM211 rfl (inbN ((24 * v18) + v6w154) 384 (by omega) (by omega)) dX13_rule_157 (fun H_212 locs hP hD hS => ?_)
                obtain ⟨M_213, eM_213⟩ : ∃ M1 : Hp, M1 = va_up M_158 v207 (.inl (cy 14, 384, .inl (upd f211 ((nI ((24 * v18) + v6w154)) : Int32).toNatClampNeg 0))) := ⟨_, rfl⟩
                have hy36 : gw154 = f211 := (congrFun hV.2.2.1 36).symm.trans (ax_of hM_160 (by decide) hv207 hM211)
                have hV : VW K L M M_213 b13 (fx M b13) (va_up (va_up (ax M b13) 36 gw154) 36 (upd gw154 ((nI ((24 * v18) + v6w154)) : Int32).toNatClampNeg 0)) := by rw [eM_213]; exact hV.ast (j := 36) hW hb_15 hM_160 (by decide) hv207 hc207 hM211
                have hP : va_P D vwCl ([(za, (b13_0 0 z1 (nI z2) (nI z3) z4 z5 z6 z7 z8 z9 (nI z10) z11 z12 z13 z14 z15 (nI z16) z17 z18 z19))] ++ va_pl L M_213) H_212 := by rw [eM_213]; exact hP
                have hD : va_D A ([(za, (b13_0 0 z1 (nI z2) (nI z3) z4 z5 z6 z7 z8 z9 (nI z10) z11 z12 z13 z14 z15 (nI z16) z17 z18 z19))] ++ va_pl L M_213) := by rw [eM_213]; exact hD
                have hW : WOM cy K L M_213 := by rw [eM_213]; exact hW.up_78 hc207 ⟨_, rfl⟩
                have hF : fr K L [12, 14, 43, 77, 78] M M_213 := by rw [eM_213]; exact hF.up hc207 (by decide)
                have hG : fG K L [11] M M_213 := by rw [eM_213]; exact hG.arr hc207 (by decide)
                have hM_214 : M_213 v207 = .inl (cy 14, 384, .inl (upd f211 ((nI ((24 * v18) + v6w154)) : Int32).toNatClampNeg 0)) := by rw [eM_213]; exact va_up_self _ _ _
                have hM_215 : M_213 b13 = .inr (12, fs16) := by rw [eM_213, va_up_ne _ _ (hb_15.neT hc207 (by decide))]; exact hM_160
                obtain ⟨f_216, ef_216⟩ : ∃ f : Nat → Int32, f = upd f211 ((nI ((24 * v18) + v6w154)) : Int32).toNatClampNeg 0 := ⟨_, rfl⟩
                rw [← ef_216] at hM_214
                refine lv_iinc (v := (nI (v6w154 + 1))) (lv' := [(6, .int (nI (v6w154 + 1))), (5, .int 24), (4, .int 1), (3, .ref b13), (0, .ref za), (1, .int k1), (2, .int (nI j_28))]) hx hb dX13_rule_158 hl (k := 0) rfl (nI_1 v6w154) (by decide) rfl (fun ls hl => ?_)
                refine lv_goto (tgt := 108) hx hb dX13_rule_161 (by decide) ?_
                exact ih_152 (v6w154 + 1) (upd gw154 ((nI ((24 * v18) + v6w154)) : Int32).toNatClampNeg 0) M_213 H_212 _ _ (by omega) hM_215 (by omega) (trm1 hx_156 (nI_cl (by omega))) (trm2 hx_157 (nI_cl (by omega)) hrv) hW hF hG (by have h := hV; simp only [va_up_up] at h; exact h) hP hD hS (lv_sub hl [0, 1, 2, 3, 4, 5, 6] rfl)
          exact key_151 (24 - 0 + 1) 0 (ax M b13 36) M H_19 _ _ (by omega) hM16 (by omega) (fun _ _ => rfl) (fun i h => absurd h (Nat.not_lt_zero _)) hW hF hG (by rw [va_up_id]; exact hV) hP hD hS (lv_sub hl [0, 1, 2, 3, 4, 5, 6] rfl)
    · have hz := rfl (a := 0)
      refine lv_if_eq (tgt := 71) hx hb dX13_rule_31 (by decide) (fun _ => ?_) (fun c_217 => absurd c_217 (by decide))
      refine lv_iconst (v := 0) hx hb dX13_rule_71 (by decide) ?_
      refine lv_istore (lv' := [(4, .int 0), (3, .ref b13), (0, .ref za), (1, .int k1), (2, .int k2)]) hx hb dX13_rule_72 hl (by decide) rfl (fun ls hl => ?_)
      refine lv_iload hx hb dX13_rule_74 (lv_at hl 0 rfl) ?_
      refine lv_if_ne (tgt := 85) hx hb dX13_rule_76 (by decide) (fun c_218 => absurd c_218 (by decide)) (fun _ => ?_)
      refine lv_aload_n hx hb dX13_rule_79 rfl (lv_at hl 2 rfl) ?_
      refine lv_iconst (v := 3) hx hb dX13_rule_80 (by decide) ?_
      have hPc := hP.sub (ws' := [(za, (b13_0 0 z1 (nI z2) (nI z3) z4 z5 z6 z7 z8 z9 (nI z10) z11 z12 z13 z14 z15 (nI z16) z17 z18 z19))]) [0] rfl
      have hDc := hD.sub (ws' := [(za, (b13_0 0 z1 (nI z2) (nI z3) z4 z5 z6 z7 z8 z9 (nI z10) z11 z12 z13 z14 z15 (nI z16) z17 z18 z19))]) [0] (by decide) rfl
      have hKc := hK.sub (tys' := []) [] rfl
      have hFc := va_free (wc := [(za, (b13_0 0 z1 (nI z2) (nI z3) z4 z5 z6 z7 z8 z9 (nI z10) z11 z12 z13 z14 z15 (nI z16) z17 z18 z19))]) hD hS hA [0] rfl
      refine va_calli (va_runV (As := [.int 3]) (rest := []) ⟨hx, hb, hml, hown, hg⟩ (m_refused l D H_19.size za 0 z1 (nI z2) (nI z3) z4 z5 z6 z7 z8 z9 (nI z10) z11 z12 z13 z14 z15 (nI z16) z17 z18 z19 3) (cwV 1 hg (gV wd_725 wd_726 wd_727 wd_717 wd_728) rfl rfl rfl (by decide +kernel) ⟨(Nat.le_trans (Nat.le_of_ble_eq_true rfl) hRf), (Nat.le_trans (Nat.le_of_ble_eq_true rfl) hRl)⟩) ⟨Pr.blind, va_recv hK hP (ci := 13) (q0 := 0) rfl rfl, fun U hU hW => ⟨rfl, Pr.at hPc hKc hDc hN hU hW⟩⟩ rfl rfl hl.1 rfl (lv_room (Nat.le_of_ble_eq_true rfl)) dX13_rule_81 ⟨(Nat.le_trans (Nat.le_of_ble_eq_true rfl) hRc), (Nat.le_trans (Nat.le_of_ble_eq_true rfl) hRs)⟩) hS (fun q _ h => hFc q h) hFc (fun r_220 M_221 t H_219 locs ht hvm hw hB hz1 hk1 hS => ?_)
      have hp_222 := hw
      obtain ⟨hP1, hK1, hD1⟩ := hB
      rw [ht] at hP1
      obtain ⟨hP, hD⟩ := va_joinQ (X := [(za, (b13_0 0 z1 (nI z2) (nI z3) z4 z5 z6 z7 z8 z9 (nI z10) z11 z12 z13 z14 z15 (nI z16) z17 z18 z19))]) (cx := [(za, (b13_0 0 z1 (nI z2) (nI z3) z4 z5 z6 z7 z8 z9 (nI z10) z11 z12 z13 z14 z15 (nI z16) z17 z18 z19))]) (wr := []) (w1 := [(za, (b13_0 0 z1 (nI z2) (nI z3) 3 (-1) z6 z7 z8 z9 (nI z10) z11 z12 z13 z14 z15 (nI z16) z17 z18 z19))]) (pl := va_pl L M) hP hD [0] [] rfl rfl (by decide) (by decide) hk1 hFc hP1 hD1
      have hP : va_P D vwCl ([(za, (b13_0 0 z1 (nI z2) (nI z3) 3 (-1) z6 z7 z8 z9 (nI z10) z11 z12 z13 z14 z15 (nI z16) z17 z18 z19))] ++ va_pl L M) H_219 := hP
      have hD : va_D A ([(za, (b13_0 0 z1 (nI z2) (nI z3) 3 (-1) z6 z7 z8 z9 (nI z10) z11 z12 z13 z14 z15 (nI z16) z17 z18 z19))] ++ va_pl L M) := hD
      have hq := Eq.symm hp_222
      subst hq
      have hI_223 : (0 : Int) ≤ (k1 : Int32).toInt := inltI rfl rfl c_7
      have hI_224 : (k1 : Int32).toInt < ((z2 : Nat) : Int) := inleI (nI_toInt (by omega)) rfl c_8
      have hno : ¬ okRu z2 SX SY k1 k2 := fun q9 => by unfold okRu okH at q9; first | omega | (obtain ⟨⟨_, _⟩, _, _, _, _⟩ := q9; first | omega | contradiction)
      rw [hQ]
      exact W.iret (v := (-1)) hx hb hr (fun t ht hW9 => ⟨⟨(-1), M, rfl, ⟨hW, hF, hG, ⟨hGI, ⟨fun _ => 0, fun w9 => absurd w9 hno, (by unfold sxRu syRu; rw [if_neg hno, if_neg hno]; exact hZS)⟩⟩, (by unfold anRu; rw [if_neg hno])⟩, ⟨3, by rw [ht]; exact hP, hD⟩⟩, hS.F ht⟩) hS.2.2 dX13_rule_84
  · have hz := rfl (a := 0)
    refine lv_if_ne (tgt := 19) hx hb dX13_rule_10 (by decide) (fun c_225 => absurd c_225 (by decide)) (fun _ => ?_)
    refine lv_aload_n hx hb dX13_rule_13 rfl (lv_at hl 0 rfl) ?_
    refine lv_iconst (v := 1) hx hb dX13_rule_14 (by decide) ?_
    have hPc := hP.sub (ws' := [(za, (b13_0 0 z1 (nI z2) (nI z3) z4 z5 z6 z7 z8 z9 (nI z10) z11 z12 z13 z14 z15 (nI z16) z17 z18 z19))]) [0] rfl
    have hDc := hD.sub (ws' := [(za, (b13_0 0 z1 (nI z2) (nI z3) z4 z5 z6 z7 z8 z9 (nI z10) z11 z12 z13 z14 z15 (nI z16) z17 z18 z19))]) [0] (by decide) rfl
    have hKc := hK.sub (tys' := []) [] rfl
    have hFc := va_free (wc := [(za, (b13_0 0 z1 (nI z2) (nI z3) z4 z5 z6 z7 z8 z9 (nI z10) z11 z12 z13 z14 z15 (nI z16) z17 z18 z19))]) hD hS hA [0] rfl
    refine va_calli (va_runV (As := [.int 1]) (rest := []) ⟨hx, hb, hml, hown, hg⟩ (m_refused l D H_2.size za 0 z1 (nI z2) (nI z3) z4 z5 z6 z7 z8 z9 (nI z10) z11 z12 z13 z14 z15 (nI z16) z17 z18 z19 1) (cwV 1 hg (gV wd_725 wd_726 wd_727 wd_717 wd_728) rfl rfl rfl (by decide +kernel) ⟨(Nat.le_trans (Nat.le_of_ble_eq_true rfl) hRf), (Nat.le_trans (Nat.le_of_ble_eq_true rfl) hRl)⟩) ⟨Pr.blind, va_recv hK hP (ci := 13) (q0 := 0) rfl rfl, fun U hU hW => ⟨rfl, Pr.at hPc hKc hDc hN hU hW⟩⟩ rfl rfl hl.1 rfl (lv_room (Nat.le_of_ble_eq_true rfl)) dX13_rule_15 ⟨(Nat.le_trans (Nat.le_of_ble_eq_true rfl) hRc), (Nat.le_trans (Nat.le_of_ble_eq_true rfl) hRs)⟩) hS (fun q _ h => hFc q h) hFc (fun r_227 M_228 t H_226 locs ht hvm hw hB hz1 hk1 hS => ?_)
    have hp_229 := hw
    obtain ⟨hP1, hK1, hD1⟩ := hB
    rw [ht] at hP1
    obtain ⟨hP, hD⟩ := va_joinQ (X := [(za, (b13_0 0 z1 (nI z2) (nI z3) z4 z5 z6 z7 z8 z9 (nI z10) z11 z12 z13 z14 z15 (nI z16) z17 z18 z19))]) (cx := [(za, (b13_0 0 z1 (nI z2) (nI z3) z4 z5 z6 z7 z8 z9 (nI z10) z11 z12 z13 z14 z15 (nI z16) z17 z18 z19))]) (wr := []) (w1 := [(za, (b13_0 0 z1 (nI z2) (nI z3) 1 (-1) z6 z7 z8 z9 (nI z10) z11 z12 z13 z14 z15 (nI z16) z17 z18 z19))]) (pl := va_pl L M) hP hD [0] [] rfl rfl (by decide) (by decide) hk1 hFc hP1 hD1
    have hP : va_P D vwCl ([(za, (b13_0 0 z1 (nI z2) (nI z3) 1 (-1) z6 z7 z8 z9 (nI z10) z11 z12 z13 z14 z15 (nI z16) z17 z18 z19))] ++ va_pl L M) H_226 := hP
    have hD : va_D A ([(za, (b13_0 0 z1 (nI z2) (nI z3) 1 (-1) z6 z7 z8 z9 (nI z10) z11 z12 z13 z14 z15 (nI z16) z17 z18 z19))] ++ va_pl L M) := hD
    have hq := Eq.symm hp_229
    subst hq
    have hno : ¬ okRu z2 SX SY k1 k2 := fun q9 => by unfold okRu okH at q9; first | omega | (obtain ⟨⟨_, _⟩, _, _, _, _⟩ := q9; first | omega | contradiction)
    rw [hQ]
    exact W.iret (v := (-1)) hx hb hr (fun t ht hW9 => ⟨⟨(-1), M, rfl, ⟨hW, hF, hG, ⟨hGI, ⟨fun _ => 0, fun w9 => absurd w9 hno, (by unfold sxRu syRu; rw [if_neg hno, if_neg hno]; exact hZS)⟩⟩, (by unfold anRu; rw [if_neg hno])⟩, ⟨1, by rw [ht]; exact hP, hD⟩⟩, hS.F ht⟩) hS.2.2 dX13_rule_18
