set_option maxHeartbeats 4000000 in
set_option maxRecDepth 100000 in
theorem f_term (l : Launch) (D : va_G) (cy : Nat → ClassId) (K : Kp) (L : List Nat) (M : Hp) (sz : Nat) (oa : Nat) (k1 : Nat) (k2 : Nat) (k3 : Nat) (hW : WOM cy K L M) (ia : isk K L oa 12 0) (nk1 : k1 < 16) (nk2 : k2 < 4) (nk3 : k3 < 6) : Met l yX12_term (wsM yX12_term cX12_term 4 (some .int)) ({ frames := 0, cells := 0, slots := 0, locals := 0 }) (va_Pc [.ref oa, .int (nI k1), .int (nI k2), .int (nI k3)] (PG D cy [] L M sz)) (va_Qi (fun (r : Int32) (_ : Unit) => (r = (ax M oa 36 ((4 * k1 + k2) * 6 + k3)))) (fun _ t => PQ D [] L M (va_A ([] ++ va_pl L M) sz) t) (va_A ([] ++ va_pl L M) sz)) 0 0 (va_A ([] ++ va_pl L M) sz) := by
  refine Met.ofW (cc := cX12_term) (maxL := 4) (ret := (some .int)) (by decide) rfl ?_
  intro p e s m args below meth c s₁ B hml hv
  obtain ⟨rfl, hsz, hP, hK, hD0, hN⟩ := hv
  have hx := B.exec
  have hb := B.bytes
  have hr := B.returns
  have hts := atoms_spec (ws := (wsM yX12_term cX12_term 4 (some .int))) B.pre
  have hg : ∀ w ∈ lw_good, w.before _ s = true := fun w h => hts w (List.mem_cons_of_mem _ h)
  have hown : s.vm.findClass RX12 = some m.cls := findClass_of_methodNamed B.named
  have hlocks := B.notSynchronized
  subst hsz
  have hD := hD0.self (sz := s.heap.size)
  generalize hAe : va_A ([] ++ va_pl L M) s.heap.size = A at hD ⊢
  have hA : ∀ q : Nat, s.heap.size ≤ q → A q := fun q h => by rw [← hAe]; exact Or.inr h
  have hS : va_S A s.heap s.heap [] := va_S.rf
  have hl := lv_entry ([.ref oa, .int (nI k1), .int (nI k2), .int (nI k3)]) (n := 4) (Nat.le_of_ble_eq_true rfl)
  rw [lg_entry_eq]
  generalize (lg_sl ([.ref oa, .int (nI k1), .int (nI k2), .int (nI k3)]) ++ List.replicate (4 - (lg_sl ([.ref oa, .int (nI k1), .int (nI k2), .int (nI k3)])).length) Slot.unset).toArray = ls at hl ⊢
  refine W.nameQ (fun Q hQ => ?_)
  refine W.nameR (fun R hR => ?_)
  have hRf : 0 ≤ R.frames := by rw [hR]; exact Nat.le_of_ble_eq_true rfl
  have hRl : 0 ≤ R.locals := by rw [hR]; exact Nat.le_of_ble_eq_true rfl
  have hRc : 0 ≤ R.cells := by rw [hR]; exact Nat.le_of_ble_eq_true rfl
  have hRs : 0 ≤ R.slots := by rw [hR]; exact Nat.le_of_ble_eq_true rfl
  have hl : lv_has ls 4 [(0, .ref oa), (1, .int (nI k1)), (2, .int (nI k2)), (3, .int (nI k3))] := hl
  refine lv_aload_n hx hb dX12_term_0 rfl (lv_at hl 0 rfl) ?_
  obtain ⟨fs1, hM1, hn1, hl1⟩ := hW.open_12 ia
  obtain ⟨v2, hv2, hc2⟩ : ∃ v : Nat, fs1[36]? = some (.ref v : Value) ∧ isk K L v 78 384 := hl1 36 (by decide)
  refine pg_get (D := D) (ci := 12) (v := .ref v2) (C := RX12) (T := TX12) (N := 51) hx hb hg inG12 hown hK hP ia.1 hM1 rfl 36 (by decide) (hg _ wd_705) (fun _ h9 => h9) hv2 dX12_term_1 ?_
  refine lv_iconst (v := 4) hx hb dX12_term_4 (by decide) ?_
  refine lv_iload_n hx hb dX12_term_5 rfl (lv_at hl 1 rfl) ?_
  refine lv_imul hx hb dX12_term_6 ?_
  refine lv_topi (fun f_3 ef_3 => ?_)
  obtain rfl : f_3 = (nI (4 * k1)) := ef_3.trans (nI_mul 4 k1)
  refine lv_iload_n hx hb dX12_term_7 rfl (lv_at hl 2 rfl) ?_
  refine lv_iadd hx hb dX12_term_8 ?_
  refine lv_topi (fun f_4 ef_4 => ?_)
  obtain rfl : f_4 = (nI ((4 * k1) + k2)) := ef_4.trans (nI_add (4 * k1) k2)
  refine lv_bipush (v := 6) hx hb dX12_term_9 (by decide) ?_
  refine lv_imul hx hb dX12_term_11 ?_
  refine lv_topi (fun f_5 ef_5 => ?_)
  obtain rfl : f_5 = (nI (((4 * k1) + k2) * 6)) := ef_5.trans (nI_mul ((4 * k1) + k2) 6)
  refine lv_iload_n hx hb dX12_term_12 rfl (lv_at hl 3 rfl) ?_
  refine lv_iadd hx hb dX12_term_13 ?_
  refine lv_topi (fun f_6 ef_6 => ?_)
  obtain rfl : f_6 = (nI ((((4 * k1) + k2) * 6) + k3)) := ef_6.trans (nI_add (((4 * k1) + k2) * 6) k3)
  obtain ⟨f7, hM7⟩ := hW.open_78 hc2
  refine pg_iald hx hb hK hP hc2.1 0 hM7 rfl (inbN ((((4 * k1) + k2) * 6) + k3) 384 (by omega) (by omega)) dX12_term_14 ?_
  refine lv_topi (fun f_8 ef_8 => ?_)
  rw [hQ]
  exact W.iret (v := f_8) hx hb hr (fun t ht hW9 => ⟨⟨f_8, (), rfl, (by rw [ax_of hM1 (by decide) hv2 hM7, ef_8, nI_cl (by omega)]), ⟨by rw [ht]; exact hP, hD⟩⟩, hS.F ht⟩) hS.2.2 dX12_term_15
set_option maxHeartbeats 4000000 in
set_option maxRecDepth 100000 in
theorem z_term (l : Launch) (D : va_G) (cy : Nat → ClassId) (K : Kp) (L : List Nat) (M : Hp) (sz : Nat) (za : Nat) (z0 : Int32) (z1 : Nat) (z2 : Nat) (z3 : Nat) (z4 : Int32) (z5 : Int32) (z6 : Nat) (z7 : Nat) (z8 : Nat) (z9 : Nat) (z10 : Nat) (z11 : Nat) (z12 : Nat) (z13 : Nat) (z14 : Nat) (z15 : Nat) (z16 : Nat) (z17 : Nat) (z18 : Int32) (z19 : Nat) (k1 : Int32) (k2 : Int32) (k3 : Int32) (k4 : Int32) (SX : Nat → Nat → Int) (SY : Nat → Nat → Nat → Int32) (hW : WOM cy K L M) (i1 : isk K L z1 23 8) (b2 : z2 ≤ 8) (b3 : z3 ≤ 40) (i6 : isk K L z6 47 40) (i7 : isk K L z7 48 40) (i8 : isk K L z8 49 8) (i9 : isk K L z9 50 8) (b10 : z10 ≤ 8) (i11 : isk K L z11 32 24) (i12 : isk K L z12 14 24) (i13 : isk K L z13 97 24) (i14 : isk K L z14 98 24) (i15 : isk K L z15 99 24) (b16 : z16 ≤ 24) (i17 : isk K L z17 14 24) (i19 : isk K L z19 15 25) (hGI : GI K L z1 z2 M) (hZS : ZSx z1 z2 SX SY M) : Met l yX13_term (wsM yX13_term cX13_term 9 (some .int)) ({ frames := 1, cells := 0, slots := 0, locals := 23 }) (va_Pc [.ref za, .int k1, .int k2, .int k3, .int k4] (PG D cy [(za, (b13_0 z0 z1 (nI z2) (nI z3) z4 z5 z6 z7 z8 z9 (nI z10) z11 z12 z13 z14 z15 (nI z16) z17 z18 z19))] L M sz)) (va_Qi (fun (r : Int32) (M9 : Hp) => WOM cy K L M9 ∧ fr K L [77, 78] M M9 ∧ fG K L [] M M9 ∧ (GI K L z1 z2 M9 ∧ ZSx z1 z2 SX (syTm z2 SX SY k1 k2 k3 k4) M9) ∧ ((r = anTm z2 SX SY k1 k2 k3 k4))) (fun M9 t => ∃ (w4 : Int32), PQ D [(za, (b13_0 0 z1 (nI z2) (nI z3) w4 (-1) z6 z7 z8 z9 (nI z10) z11 z12 z13 z14 z15 (nI z16) z17 z18 z19))] L M9 (va_A ([(za, (b13_0 z0 z1 (nI z2) (nI z3) z4 z5 z6 z7 z8 z9 (nI z10) z11 z12 z13 z14 z15 (nI z16) z17 z18 z19))] ++ va_pl L M) sz) t) (va_A ([(za, (b13_0 z0 z1 (nI z2) (nI z3) z4 z5 z6 z7 z8 z9 (nI z10) z11 z12 z13 z14 z15 (nI z16) z17 z18 z19))] ++ va_pl L M) sz)) 0 0 (va_A ([(za, (b13_0 z0 z1 (nI z2) (nI z3) z4 z5 z6 z7 z8 z9 (nI z10) z11 z12 z13 z14 z15 (nI z16) z17 z18 z19))] ++ va_pl L M) sz) := by
  refine Met.ofW (cc := cX13_term) (maxL := 9) (ret := (some .int)) (by decide) rfl ?_
  intro p e s m args below meth c s₁ B hml hv
  obtain ⟨rfl, hsz, hP, hK, hD0, hN⟩ := hv
  have hx := B.exec
  have hb := B.bytes
  have hr := B.returns
  have hts := atoms_spec (ws := (wsM yX13_term cX13_term 9 (some .int))) B.pre
  have hg : ∀ w ∈ lw_good, w.before _ s = true := fun w h => hts w (List.mem_cons_of_mem _ h)
  have hown : s.vm.findClass RX13 = some m.cls := findClass_of_methodNamed B.named
  have hlocks := B.notSynchronized
  subst hsz
  have hD := hD0.self (sz := s.heap.size)
  generalize hAe : va_A ([(za, (b13_0 z0 z1 (nI z2) (nI z3) z4 z5 z6 z7 z8 z9 (nI z10) z11 z12 z13 z14 z15 (nI z16) z17 z18 z19))] ++ va_pl L M) s.heap.size = A at hD ⊢
  have hA : ∀ q : Nat, s.heap.size ≤ q → A q := fun q h => by rw [← hAe]; exact Or.inr h
  have hS : va_S A s.heap s.heap [] := va_S.rf
  have hl := lv_entry ([.ref za, .int k1, .int k2, .int k3, .int k4]) (n := 9) (Nat.le_of_ble_eq_true rfl)
  rw [lg_entry_eq]
  generalize (lg_sl ([.ref za, .int k1, .int k2, .int k3, .int k4]) ++ List.replicate (9 - (lg_sl ([.ref za, .int k1, .int k2, .int k3, .int k4])).length) Slot.unset).toArray = ls at hl ⊢
  refine W.nameQ (fun Q hQ => ?_)
  refine W.nameR (fun R hR => ?_)
  have hRf : 1 ≤ R.frames := by rw [hR]; exact Nat.le_of_ble_eq_true rfl
  have hRl : 23 ≤ R.locals := by rw [hR]; exact Nat.le_of_ble_eq_true rfl
  have hRc : 0 ≤ R.cells := by rw [hR]; exact Nat.le_of_ble_eq_true rfl
  have hRs : 0 ≤ R.slots := by rw [hR]; exact Nat.le_of_ble_eq_true rfl
  have hF : fr K L [77, 78] M M := fr.rf
  have hG : fG K L [] M M := fG.rf
  have hl : lv_has ls 9 [(0, .ref za), (1, .int k1), (2, .int k2), (3, .int k3), (4, .int k4)] := hl
  have hW0 := hW
  refine lv_aload_n hx hb dX13_term_0 rfl (lv_at hl 0 rfl) ?_
  refine lv_iconst (v := 0) hx hb dX13_term_1 (by decide) ?_
  refine va_put (D := D) (ci := 13) (v := .int 0) (ty := .int) (C := RX13) (T := TX13) (N := 20) hx hb hg inG13 tyX13 tyX13_ok nmX13 hown hK hP hD hS 0 rfl rfl 0 (by decide) (hg _ wd_720) (fun _ h9 => h9) rfl (by decide +kernel) rfl rfl (Nat.le_of_ble_eq_true rfl) dX13_term_2 (fun H_1 locs hP hD hS => ?_)
  have hP : va_P D vwCl ([(za, (b13_0 0 z1 (nI z2) (nI z3) z4 z5 z6 z7 z8 z9 (nI z10) z11 z12 z13 z14 z15 (nI z16) z17 z18 z19))] ++ va_pl L M) H_1 := hP
  have hD : va_D A ([(za, (b13_0 0 z1 (nI z2) (nI z3) z4 z5 z6 z7 z8 z9 (nI z10) z11 z12 z13 z14 z15 (nI z16) z17 z18 z19))] ++ va_pl L M) := hD
  refine lv_aload_n hx hb dX13_term_5 rfl (lv_at hl 0 rfl) ?_
  refine lv_iload_n hx hb dX13_term_6 rfl (lv_at hl 1 rfl) ?_
  have hPc : va_P D vwCl ([(za, (b13_0 0 z1 (nI z2) (nI z3) z4 z5 z6 z7 z8 z9 (nI z10) z11 z12 z13 z14 z15 (nI z16) z17 z18 z19))] ++ va_pl L M) H_1 := hP
  have hDc : va_D A ([(za, (b13_0 0 z1 (nI z2) (nI z3) z4 z5 z6 z7 z8 z9 (nI z10) z11 z12 z13 z14 z15 (nI z16) z17 z18 z19))] ++ va_pl L M) := hD
  have hFc : ∀ q, va_A ([(za, (b13_0 0 z1 (nI z2) (nI z3) z4 z5 z6 z7 z8 z9 (nI z10) z11 z12 z13 z14 z15 (nI z16) z17 z18 z19))] ++ va_pl L M) H_1.size q → A q := pg_free hDc hS hA
  refine va_calli (va_runV (As := [.int k1]) (rest := []) ⟨hx, hb, hml, hown, hg⟩ (f_isHouse l D cy K L M H_1.size za 0 z1 z2 z3 z4 z5 z6 z7 z8 z9 z10 z11 z12 z13 z14 z15 z16 z17 z18 z19 k1  hW i1 b2 b3 i6 i7 i8 i9 b10 i11 i12 i13 i14 i15 b16 i17 i19) (cwV 1 hg (gV wd_714 wd_715 wd_716 wd_717 wd_718) rfl rfl rfl (by decide +kernel) ⟨(Nat.le_trans (Nat.le_of_ble_eq_true rfl) hRf), (Nat.le_trans (Nat.le_of_ble_eq_true rfl) hRl)⟩) ⟨PG.blind, va_recv hK hP (ci := 13) (q0 := 0) rfl rfl, fun U hU hW => ⟨rfl, PG.at hPc hK hDc hN hU hW⟩⟩ rfl rfl hl.1 rfl (lv_room (Nat.le_of_ble_eq_true rfl)) dX13_term_7 ⟨(Nat.le_trans (Nat.le_of_ble_eq_true rfl) hRc), (Nat.le_trans (Nat.le_of_ble_eq_true rfl) hRs)⟩) hS (fun q _ h => hFc q h) hFc (fun r_3 M_4 t H_2 locs ht hvm hw hB hz1 hk1 hS => ?_)
  have hp_5 := hw
  obtain ⟨hP1, hD1⟩ := hB
  rw [ht] at hP1
  have hP : va_P D vwCl ([(za, (b13_0 0 z1 (nI z2) (nI z3) z4 z5 z6 z7 z8 z9 (nI z10) z11 z12 z13 z14 z15 (nI z16) z17 z18 z19))] ++ va_pl L M) H_2 := hP1
  have hD : va_D A ([(za, (b13_0 0 z1 (nI z2) (nI z3) z4 z5 z6 z7 z8 z9 (nI z10) z11 z12 z13 z14 z15 (nI z16) z17 z18 z19))] ++ va_pl L M) := hD1.mono hFc
  rcases hp_5 with ⟨rfl, c_6, c_7, c_8⟩ | ⟨rfl, c_9⟩
  · have hz := rfl (a := 0)
    refine lv_if_eq (tgt := 40) hx hb dX13_term_10 (by decide) (fun c_10 => absurd c_10 (by decide)) (fun _ => ?_)
    refine lv_aload_n hx hb dX13_term_13 rfl (lv_at hl 0 rfl) ?_
    refine va_get (D := D) (ci := 13) (v := .ref z1) (C := RX13) (T := TX13) (N := 20) hx hb hg inG13 hown hK hP 0 rfl rfl 1 (by decide) (hg _ wd_739) (fun _ h9 => h9) rfl dX13_term_14 ?_
    refine lv_iload_n hx hb dX13_term_17 rfl (lv_at hl 1 rfl) ?_
    obtain ⟨f11, hM11, hf11⟩ := hW.open_23 i1
    have hi_12 : vp_in k1 8 := (inbW (a := z2) (by omega) (inb k1 z2 (by omega) c_7 c_8))
    refine pg_aldq hx hb hK hP i1.1 9 hM11 rfl hi_12 dX13_term_18 ?_
    obtain ⟨b13, eb_14, hb_15⟩ := hf11 _ (vp_lt hi_12)
    rw [eb_14]
    have hact : ACT z1 z2 b13 M := ⟨(k1 : Int32).toNatClampNeg, vp_lt (inb k1 z2 (by omega) c_7 c_8), by rw [show RFc (M z1) = f11 from by rw [hM11]; rfl]; exact eb_14⟩
    have hAT := GI.at hGI hact
    have hV : VW K L M M b13 (fx M b13) (ax M b13) := VW.rf b13 hGI.2.2.2
    have hb9 : RFc (M z1) (k1 : Int32).toNatClampNeg = some b13 := by rw [show RFc (M z1) = f11 from by rw [hM11]; rfl]; exact eb_14
    have hkn : (k1 : Int32).toNatClampNeg < z2 := vp_lt (inb k1 z2 (by omega) c_7 c_8)
    have hZk := hZS _ b13 hkn hb9
    have hz0 : fx M b13 0 = SX (k1 : Int32).toNatClampNeg 0 := congrFun hZk.1 0
    have hz1 : fx M b13 1 = SX (k1 : Int32).toNatClampNeg 1 := congrFun hZk.1 1
    have hz10 : fx M b13 10 = SX (k1 : Int32).toNatClampNeg 10 := congrFun hZk.1 10
    have hz11 : fx M b13 11 = SX (k1 : Int32).toNatClampNeg 11 := congrFun hZk.1 11
    have hz12 : fx M b13 12 = SX (k1 : Int32).toNatClampNeg 12 := congrFun hZk.1 12
    have hz13 : fx M b13 13 = SX (k1 : Int32).toNatClampNeg 13 := congrFun hZk.1 13
    have hz14 : fx M b13 14 = SX (k1 : Int32).toNatClampNeg 14 := congrFun hZk.1 14
    have hz15 : fx M b13 15 = SX (k1 : Int32).toNatClampNeg 15 := congrFun hZk.1 15
    have hz16 : fx M b13 16 = SX (k1 : Int32).toNatClampNeg 16 := congrFun hZk.1 16
    obtain ⟨fs16, hM16, hn16, hl16⟩ := hW.open_12 hb_15
    obtain ⟨v17, hv17, hc17⟩ : ∃ v : Nat, fs16[11]? = some (.int (nI v) : Value) ∧ v ≤ 16 := hl16 11 (by decide)
    have hx11 : (fx M b13 11) = ((v17 : Nat) : Int) := (congrFun hV.2.1 11).symm.trans ((fx_of hM16 rfl hv17).trans (nI_toInt (by omega)))
    refine pg_getN (D := D) (ci := 12) (v := .int (nI v17)) (C := RX12) (T := TX12) (N := 51) hx hb hg inG12 hown hK hP hb_15.1 hM16 rfl 11 (by decide) (hN.use (Cond.fieldLinkNest RX13 142 RX12 "rules" "I" RX13) 20 rfl rfl) (fun _ h9 => h9) hv17 dX13_term_19 ?_
    refine lv_if_eq (tgt := 40) hx hb dX13_term_22 (by decide) (fun c_18 => ?_) (fun c_18 => ?_)
    · have hz := rfl (a := 0)
      have n_19 : v17 = 0 := (iEQ (a := v17) (b := 0) (by omega) (by omega)).mp c_18
      refine lv_aload_n hx hb dX13_term_40 rfl (lv_at hl 0 rfl) ?_
      refine lv_iconst (v := 1) hx hb dX13_term_41 (by decide) ?_
      have hPc := hP.sub (ws' := [(za, (b13_0 0 z1 (nI z2) (nI z3) z4 z5 z6 z7 z8 z9 (nI z10) z11 z12 z13 z14 z15 (nI z16) z17 z18 z19))]) [0] rfl
      have hDc := hD.sub (ws' := [(za, (b13_0 0 z1 (nI z2) (nI z3) z4 z5 z6 z7 z8 z9 (nI z10) z11 z12 z13 z14 z15 (nI z16) z17 z18 z19))]) [0] (by decide) rfl
      have hKc := hK.sub (tys' := []) [] rfl
      have hFc := va_free (wc := [(za, (b13_0 0 z1 (nI z2) (nI z3) z4 z5 z6 z7 z8 z9 (nI z10) z11 z12 z13 z14 z15 (nI z16) z17 z18 z19))]) hD hS hA [0] rfl
      refine va_calli (va_runV (As := [.int 1]) (rest := []) ⟨hx, hb, hml, hown, hg⟩ (m_refused l D H_2.size za 0 z1 (nI z2) (nI z3) z4 z5 z6 z7 z8 z9 (nI z10) z11 z12 z13 z14 z15 (nI z16) z17 z18 z19 1) (cwV 1 hg (gV wd_725 wd_726 wd_727 wd_717 wd_728) rfl rfl rfl (by decide +kernel) ⟨(Nat.le_trans (Nat.le_of_ble_eq_true rfl) hRf), (Nat.le_trans (Nat.le_of_ble_eq_true rfl) hRl)⟩) ⟨Pr.blind, va_recv hK hP (ci := 13) (q0 := 0) rfl rfl, fun U hU hW => ⟨rfl, Pr.at hPc hKc hDc hN hU hW⟩⟩ rfl rfl hl.1 rfl (lv_room (Nat.le_of_ble_eq_true rfl)) dX13_term_42 ⟨(Nat.le_trans (Nat.le_of_ble_eq_true rfl) hRc), (Nat.le_trans (Nat.le_of_ble_eq_true rfl) hRs)⟩) hS (fun q _ h => hFc q h) hFc (fun r_21 M_22 t H_20 locs ht hvm hw hB hz1 hk1 hS => ?_)
      have hp_23 := hw
      obtain ⟨hP1, hK1, hD1⟩ := hB
      rw [ht] at hP1
      obtain ⟨hP, hD⟩ := va_joinQ (X := [(za, (b13_0 0 z1 (nI z2) (nI z3) z4 z5 z6 z7 z8 z9 (nI z10) z11 z12 z13 z14 z15 (nI z16) z17 z18 z19))]) (cx := [(za, (b13_0 0 z1 (nI z2) (nI z3) z4 z5 z6 z7 z8 z9 (nI z10) z11 z12 z13 z14 z15 (nI z16) z17 z18 z19))]) (wr := []) (w1 := [(za, (b13_0 0 z1 (nI z2) (nI z3) 1 (-1) z6 z7 z8 z9 (nI z10) z11 z12 z13 z14 z15 (nI z16) z17 z18 z19))]) (pl := va_pl L M) hP hD [0] [] rfl rfl (by decide) (by decide) hk1 hFc hP1 hD1
      have hP : va_P D vwCl ([(za, (b13_0 0 z1 (nI z2) (nI z3) 1 (-1) z6 z7 z8 z9 (nI z10) z11 z12 z13 z14 z15 (nI z16) z17 z18 z19))] ++ va_pl L M) H_20 := hP
      have hD : va_D A ([(za, (b13_0 0 z1 (nI z2) (nI z3) 1 (-1) z6 z7 z8 z9 (nI z10) z11 z12 z13 z14 z15 (nI z16) z17 z18 z19))] ++ va_pl L M) := hD
      have hq := Eq.symm hp_23
      subst hq
      have hI_24 : (0 : Int) ≤ (k1 : Int32).toInt := inltI rfl rfl c_7
      have hI_25 : (k1 : Int32).toInt < ((z2 : Nat) : Int) := inleI (nI_toInt (by omega)) rfl c_8
      have hI_26 : ((v17 : Nat) : Int) = (0 : Int) := ieqI (nI_toInt (by omega)) rfl c_18
      have hno : ¬ okTm z2 SX SY k1 k2 k3 k4 := fun q9 => by unfold okTm okH at q9; first | omega | (obtain ⟨⟨_, _⟩, _, _, _, _, _, _, _, _⟩ := q9; first | omega | contradiction)
      rw [hQ]
      exact W.iret (v := (-1)) hx hb hr (fun t ht hW9 => ⟨⟨(-1), M, rfl, ⟨hW, hF, hG, ⟨hGI, (by unfold syTm; rw [if_neg hno]; exact hZS)⟩, (by unfold anTm; rw [if_neg hno])⟩, ⟨1, by rw [ht]; exact hP, hD⟩⟩, hS.F ht⟩) hS.2.2 dX13_term_45
    · have hz := rfl (a := 0)
      have n_27 : ¬ (v17 = 0) := fun q => c_18 ((iEQ (a := v17) (b := 0) (by omega) (by omega)).mpr q)
      refine lv_iload_n hx hb dX13_term_25 rfl (lv_at hl 3 rfl) ?_
      refine lv_iconst (v := 4) hx hb dX13_term_26 (by decide) ?_
      refine lv_icmp_eq (tgt := 46) hx hb dX13_term_27 (by decide) (fun c_28 => ?_) (fun c_28 => ?_)
      · have hz := rfl (a := 0)
        refine lv_iload_n hx hb dX13_term_46 rfl (lv_at hl 3 rfl) ?_
        refine lv_if_ne (tgt := 55) hx hb dX13_term_47 (by decide) (fun c_29 => ?_) (fun c_29 => absurd c_29 (by rw [c_28]; decide))
        refine lv_iload_n hx hb dX13_term_55 rfl (lv_at hl 3 rfl) ?_
        refine lv_iconst (v := 1) hx hb dX13_term_56 (by decide) ?_
        refine lv_icmp_ne (tgt := 65) hx hb dX13_term_57 (by decide) (fun c_30 => ?_) (fun c_30 => absurd c_30 (by rw [c_28]; decide))
        refine lv_iload_n hx hb dX13_term_65 rfl (lv_at hl 3 rfl) ?_
        refine lv_iconst (v := 4) hx hb dX13_term_66 (by decide) ?_
        refine lv_icmp_ne (tgt := 76) hx hb dX13_term_67 (by decide) (fun c_31 => absurd c_28 c_31) (fun c_31 => ?_)
        refine lv_sipush (v := 500) hx hb dX13_term_70 (by decide) ?_
        refine lv_goto (tgt := 79) hx hb dX13_term_73 (by decide) ?_
        refine lv_istore (lv' := [(5, .int 500), (0, .ref za), (1, .int k1), (2, .int k2), (3, .int k3), (4, .int k4)]) hx hb dX13_term_79 hl (by decide) rfl (fun ls hl => ?_)
        refine lv_iload_n hx hb dX13_term_81 rfl (lv_at hl 4 rfl) ?_
        refine lv_if_lt (tgt := 102) hx hb dX13_term_82 (by decide) (fun c_32 => absurd c_32 (by rw [c_28]; decide)) (fun c_32 => ?_)
        refine lv_iload_n hx hb dX13_term_85 rfl (lv_at hl 4 rfl) ?_
        refine lv_iconst (v := 4) hx hb dX13_term_86 (by decide) ?_
        refine lv_icmp_gt (tgt := 102) hx hb dX13_term_87 (by decide) (fun c_33 => absurd c_33 (by rw [c_28]; decide)) (fun c_33 => ?_)
        refine lv_iload hx hb dX13_term_90 (lv_at hl 5 rfl) ?_
        refine lv_if_lt (tgt := 102) hx hb dX13_term_92 (by decide) (fun c_34 => ?_) (fun c_34 => ?_)
        · have hz := rfl (a := 0)
          refine lv_aload_n hx hb dX13_term_102 rfl (lv_at hl 1 rfl) ?_
          refine lv_iconst (v := 2) hx hb dX13_term_103 (by decide) ?_
          have hPc := hP.sub (ws' := [(za, (b13_0 0 z1 (nI z2) (nI z3) z4 z5 z6 z7 z8 z9 (nI z10) z11 z12 z13 z14 z15 (nI z16) z17 z18 z19))]) [0] rfl
          have hDc := hD.sub (ws' := [(za, (b13_0 0 z1 (nI z2) (nI z3) z4 z5 z6 z7 z8 z9 (nI z10) z11 z12 z13 z14 z15 (nI z16) z17 z18 z19))]) [0] (by decide) rfl
          have hKc := hK.sub (tys' := []) [] rfl
          have hFc := va_free (wc := [(za, (b13_0 0 z1 (nI z2) (nI z3) z4 z5 z6 z7 z8 z9 (nI z10) z11 z12 z13 z14 z15 (nI z16) z17 z18 z19))]) hD hS hA [0] rfl
          refine va_calli (va_runV (As := [.int 2]) (rest := []) ⟨hx, hb, hml, hown, hg⟩ (m_refused l D H_2.size za 0 z1 (nI z2) (nI z3) z4 z5 z6 z7 z8 z9 (nI z10) z11 z12 z13 z14 z15 (nI z16) z17 z18 z19 2) (cwV 1 hg (gV wd_725 wd_726 wd_727 wd_717 wd_728) rfl rfl rfl (by decide +kernel) ⟨(Nat.le_trans (Nat.le_of_ble_eq_true rfl) hRf), (Nat.le_trans (Nat.le_of_ble_eq_true rfl) hRl)⟩) ⟨Pr.blind, va_recv hK hP (ci := 13) (q0 := 0) rfl rfl, fun U hU hW => ⟨rfl, Pr.at hPc hKc hDc hN hU hW⟩⟩ rfl rfl hl.1 rfl (lv_room (Nat.le_of_ble_eq_true rfl)) dX13_term_104 ⟨(Nat.le_trans (Nat.le_of_ble_eq_true rfl) hRc), (Nat.le_trans (Nat.le_of_ble_eq_true rfl) hRs)⟩) hS (fun q _ h => hFc q h) hFc (fun r_36 M_37 t H_35 locs ht hvm hw hB hz1 hk1 hS => ?_)
          have hp_38 := hw
          obtain ⟨hP1, hK1, hD1⟩ := hB
          rw [ht] at hP1
          obtain ⟨hP, hD⟩ := va_joinQ (X := [(za, (b13_0 0 z1 (nI z2) (nI z3) z4 z5 z6 z7 z8 z9 (nI z10) z11 z12 z13 z14 z15 (nI z16) z17 z18 z19))]) (cx := [(za, (b13_0 0 z1 (nI z2) (nI z3) z4 z5 z6 z7 z8 z9 (nI z10) z11 z12 z13 z14 z15 (nI z16) z17 z18 z19))]) (wr := []) (w1 := [(za, (b13_0 0 z1 (nI z2) (nI z3) 2 (-1) z6 z7 z8 z9 (nI z10) z11 z12 z13 z14 z15 (nI z16) z17 z18 z19))]) (pl := va_pl L M) hP hD [0] [] rfl rfl (by decide) (by decide) hk1 hFc hP1 hD1
          have hP : va_P D vwCl ([(za, (b13_0 0 z1 (nI z2) (nI z3) 2 (-1) z6 z7 z8 z9 (nI z10) z11 z12 z13 z14 z15 (nI z16) z17 z18 z19))] ++ va_pl L M) H_35 := hP
          have hD : va_D A ([(za, (b13_0 0 z1 (nI z2) (nI z3) 2 (-1) z6 z7 z8 z9 (nI z10) z11 z12 z13 z14 z15 (nI z16) z17 z18 z19))] ++ va_pl L M) := hD
          have hq := Eq.symm hp_38
          subst hq
          have hI_39 : (0 : Int) ≤ (k1 : Int32).toInt := inltI rfl rfl c_7
          have hI_40 : (k1 : Int32).toInt < ((z2 : Nat) : Int) := inleI (nI_toInt (by omega)) rfl c_8
          have hI_41 : ((v17 : Nat) : Int) ≠ (0 : Int) := ineI (nI_toInt (by omega)) rfl c_18
          have hI_42 : (k3 : Int32).toInt = (4 : Int) := ieqI rfl rfl c_28
          have hI_43 : (k3 : Int32).toInt ≠ (0 : Int) := ineI rfl rfl c_29
          have hI_44 : (k3 : Int32).toInt ≠ (1 : Int) := ineI rfl rfl c_30
          have hI_45 : (k3 : Int32).toInt = (4 : Int) := ieqI rfl rfl c_31
          have hI_46 : (0 : Int) ≤ (k3 : Int32).toInt := inltI rfl rfl c_32
          have hI_47 : (k3 : Int32).toInt ≤ (4 : Int) := inltI rfl rfl c_33
          have hI_48 : (k4 : Int32).toInt < (0 : Int) := iltI rfl rfl c_34
          have hmo : mostI k3 = (500 : Int) := by unfold mostI; (repeat' split) <;> omega
          have hno : ¬ okTm z2 SX SY k1 k2 k3 k4 := fun q9 => by unfold okTm okH at q9; first | omega | (obtain ⟨⟨_, _⟩, _, _, _, _, _, _, _, _⟩ := q9; first | omega | contradiction)
          rw [hQ]
          exact W.iret (v := (-1)) hx hb hr (fun t ht hW9 => ⟨⟨(-1), M, rfl, ⟨hW, hF, hG, ⟨hGI, (by unfold syTm; rw [if_neg hno]; exact hZS)⟩, (by unfold anTm; rw [if_neg hno])⟩, ⟨2, by rw [ht]; exact hP, hD⟩⟩, hS.F ht⟩) hS.2.2 dX13_term_107
        · have hz := rfl (a := 0)
          refine lv_iload hx hb dX13_term_95 (lv_at hl 5 rfl) ?_
          refine lv_iload hx hb dX13_term_97 (lv_at hl 0 rfl) ?_
          refine lv_icmp_le (tgt := 108) hx hb dX13_term_99 (by decide) (fun c_49 => ?_) (fun c_49 => ?_)
          · have hz := rfl (a := 0)
            refine lv_aload_n hx hb dX13_term_108 rfl (lv_at hl 1 rfl) ?_
            refine va_get (D := D) (ci := 13) (v := .ref z1) (C := RX13) (T := TX13) (N := 20) hx hb hg inG13 hown hK hP 0 rfl rfl 1 (by decide) (hg _ wd_739) (fun _ h9 => h9) rfl dX13_term_109 ?_
            refine lv_iload_n hx hb dX13_term_112 rfl (lv_at hl 2 rfl) ?_
            have hi_50 : vp_in k1 8 := (inbW (a := z2) (by omega) (inb k1 z2 (by omega) c_7 c_8))
            refine pg_aldq hx hb hK hP i1.1 9 hM11 rfl hi_50 dX13_term_113 ?_
            rw [show f11 (k1 : Int32).toNatClampNeg = some b13 from eb_14]
            refine lv_astore (lv' := [(6, .ref b13), (5, .int 500), (0, .ref za), (1, .int k1), (2, .int k2), (3, .int k3), (4, .int k4)]) hx hb dX13_term_114 hl (by decide) rfl (fun ls hl => ?_)
            refine lv_aload hx hb dX13_term_116 (lv_at hl 0 rfl) ?_
            refine pg_getN (D := D) (ci := 12) (v := .int (nI v17)) (C := RX12) (T := TX12) (N := 51) hx hb hg inG12 hown hK hP hb_15.1 hM16 rfl 11 (by decide) (hN.use (Cond.fieldLinkNest RX13 142 RX12 "rules" "I" RX13) 20 rfl rfl) (fun _ h9 => h9) hv17 dX13_term_118 ?_
            refine lv_iconst (v := 1) hx hb dX13_term_121 (by decide) ?_
            refine lv_isub hx hb dX13_term_122 ?_
            refine lv_topi (fun f_51 ef_51 => ?_)
            obtain rfl : f_51 = (nI (v17 - 1)) := ef_51.trans (nI_prd (by omega))
            refine lv_istore (lv' := [(7, .int (nI (v17 - 1))), (6, .ref b13), (5, .int 500), (0, .ref za), (1, .int k1), (2, .int k2), (3, .int k3), (4, .int k4)]) hx hb dX13_term_123 hl (by decide) rfl (fun ls hl => ?_)
            refine lv_aload hx hb dX13_term_125 (lv_at hl 1 rfl) ?_
            refine lv_aload hx hb dX13_term_127 (lv_at hl 1 rfl) ?_
            obtain ⟨v52, hv52, hc52⟩ : ∃ v : Nat, fs16[34]? = some (.ref v : Value) ∧ isk K L v 43 16 := hl16 34 (by decide)
            refine pg_getN (D := D) (ci := 12) (v := .ref v52) (C := RX12) (T := TX12) (N := 51) hx hb hg inG12 hown hK hP hb_15.1 hM16 rfl 34 (by decide) (hN.use (Cond.fieldLinkNest RX13 145 RX12 "ruleDay" "[I" RX13) 43 rfl rfl) (fun _ h9 => h9) hv52 dX13_term_129 ?_
            refine lv_iload hx hb dX13_term_132 (lv_at hl 0 rfl) ?_
            obtain ⟨f53, hM53⟩ := hW.open_43 hc52
            refine pg_iald hx hb hK hP hc52.1 0 hM53 rfl (inbN (v17 - 1) 16 (by omega) (by omega)) dX13_term_134 ?_
            refine lv_topi (fun f_54 ef_54 => ?_)
            have hp34e : SY (k1 : Int32).toNatClampNeg 34 ((nI (v17 - 1)) : Int32).toNatClampNeg = f_54 := by rw [← hZk.2, ax_of hM16 (by decide) hv52 hM53]; exact ef_54.symm
            have hp34 : (SY (k1 : Int32).toNatClampNeg 34 ((nI (v17 - 1)) : Int32).toNatClampNeg).toInt = (f_54 : Int32).toInt := congrArg Int32.toInt hp34e
            have hi11 : (SX (k1 : Int32).toNatClampNeg 11 - 1).toNat = (v17 - 1) := by omega
            have hp34b : (SY (k1 : Int32).toNatClampNeg 34 (SX (k1 : Int32).toNatClampNeg 11 - 1).toNat).toInt = (SY (k1 : Int32).toNatClampNeg 34 (nI (v17 - 1)).toNatClampNeg).toInt := by rw [hi11, nI_cl (by omega)]
            have hPc : va_P D vwCl ([] ++ va_pl L M) H_2 := hP.part (cx := []) [] rfl
            have hDc : va_D A ([] ++ va_pl L M) := hD.part (cx := []) [] (by decide) rfl
            have hFc : ∀ q, va_A ([] ++ va_pl L M) H_2.size q → A q := pg_free hDc hS hA
            refine va_calli (va_runV (As := [.int f_54]) (rest := []) ⟨hx, hb, hml, hown, hg⟩ (f_isFree l D cy K L M H_2.size b13 f_54  hW hb_15) (cwV 1 hg (gV wd_807 wd_808 wd_809 wd_737 wd_810) rfl rfl rfl (by decide +kernel) ⟨(Nat.le_trans (Nat.le_of_ble_eq_true rfl) hRf), (Nat.le_trans (Nat.le_of_ble_eq_true rfl) hRl)⟩) ⟨PG.blind, pg_recv hK hP hb_15.1 hM16 rfl, fun U hU hW => ⟨rfl, PG.at hPc hK hDc hN hU hW⟩⟩ rfl rfl hl.1 rfl (lv_room (Nat.le_of_ble_eq_true rfl)) dX13_term_135 ⟨(Nat.le_trans (Nat.le_of_ble_eq_true rfl) hRc), (Nat.le_trans (Nat.le_of_ble_eq_true rfl) hRs)⟩) hS (fun q _ h => hFc q h) hFc (fun r_56 M_57 t H_55 locs ht hvm hw hB hz1 hk1 hS => ?_)
            have hp_58 := hw
            obtain ⟨hP1, hD1⟩ := hB
            rw [ht] at hP1
            obtain ⟨hP, hD⟩ := va_joinP (X := [(za, (b13_0 0 z1 (nI z2) (nI z3) z4 z5 z6 z7 z8 z9 (nI z10) z11 z12 z13 z14 z15 (nI z16) z17 z18 z19))]) (cx := []) (wr := [(za, (b13_0 0 z1 (nI z2) (nI z3) z4 z5 z6 z7 z8 z9 (nI z10) z11 z12 z13 z14 z15 (nI z16) z17 z18 z19))]) (rx := []) (pl := va_pl L M) (pl1 := va_pl L M) hP hD [] [0] rfl rfl (by decide) (by decide) hk1 hFc hP1 hD1
            have hP : va_P D vwCl ([(za, (b13_0 0 z1 (nI z2) (nI z3) z4 z5 z6 z7 z8 z9 (nI z10) z11 z12 z13 z14 z15 (nI z16) z17 z18 z19))] ++ va_pl L M) H_55 := hP
            have hD : va_D A ([(za, (b13_0 0 z1 (nI z2) (nI z3) z4 z5 z6 z7 z8 z9 (nI z10) z11 z12 z13 z14 z15 (nI z16) z17 z18 z19))] ++ va_pl L M) := hD
            rcases hp_58 with ⟨rfl, c_59, c_60, c_61⟩ | ⟨rfl, c_62⟩
            · have hz := rfl (a := 0)
              refine lv_if_ne (tgt := 147) hx hb dX13_term_138 (by decide) (fun _ => ?_) (fun c_63 => absurd c_63 (by decide))
              refine lv_iload_n hx hb dX13_term_147 rfl (lv_at hl 6 rfl) ?_
              refine lv_iconst (v := 4) hx hb dX13_term_148 (by decide) ?_
              refine lv_icmp_ne (tgt := 175) hx hb dX13_term_149 (by decide) (fun c_64 => absurd c_28 c_64) (fun c_64 => ?_)
              refine lv_aload hx hb dX13_term_152 (lv_at hl 1 rfl) ?_
              obtain ⟨v65, hv65, hc65⟩ : ∃ v : Nat, fs16[35]? = some (.ref v : Value) ∧ isk K L v 77 16 := hl16 35 (by decide)
              refine pg_getN (D := D) (ci := 12) (v := .ref v65) (C := RX12) (T := TX12) (N := 51) hx hb hg inG12 hown hK hP hb_15.1 hM16 rfl 35 (by decide) (hN.use (Cond.fieldLinkNest RX13 151 RX12 "thousandths" "[I" RX13) 44 rfl rfl) (fun _ h9 => h9) hv65 dX13_term_154 ?_
              refine lv_iload hx hb dX13_term_157 (lv_at hl 0 rfl) ?_
              obtain ⟨f66, hM66⟩ := hW.open_77 hc65
              refine pg_iald hx hb hK hP hc65.1 0 hM66 rfl (inbN (v17 - 1) 16 (by omega) (by omega)) dX13_term_159 ?_
              refine lv_topi (fun f_67 ef_67 => ?_)
              have hp35e : SY (k1 : Int32).toNatClampNeg 35 ((nI (v17 - 1)) : Int32).toNatClampNeg = f_67 := by rw [← hZk.2, ax_of hM16 (by decide) hv65 hM66]; exact ef_67.symm
              have hp35 : (SY (k1 : Int32).toNatClampNeg 35 ((nI (v17 - 1)) : Int32).toNatClampNeg).toInt = (f_67 : Int32).toInt := congrArg Int32.toInt hp35e
              refine lv_istore (lv' := [(8, .int f_67), (7, .int (nI (v17 - 1))), (6, .ref b13), (5, .int 500), (0, .ref za), (1, .int k1), (2, .int k2), (3, .int k3), (4, .int k4)]) hx hb dX13_term_160 hl (by decide) rfl (fun ls hl => ?_)
              refine lv_aload hx hb dX13_term_162 (lv_at hl 2 rfl) ?_
              refine pg_getN (D := D) (ci := 12) (v := .ref v65) (C := RX12) (T := TX12) (N := 51) hx hb hg inG12 hown hK hP hb_15.1 hM16 rfl 35 (by decide) (hN.use (Cond.fieldLinkNest RX13 151 RX12 "thousandths" "[I" RX13) 44 rfl rfl) (fun _ h9 => h9) hv65 dX13_term_164 ?_
              refine lv_iload hx hb dX13_term_167 (lv_at hl 1 rfl) ?_
              refine lv_iload hx hb dX13_term_169 (lv_at hl 8 rfl) ?_
              refine pg_iast hx hb hK hP hD hS hc65.1 0 hM66 rfl (inbN (v17 - 1) 16 (by omega) (by omega)) dX13_term_171 (fun H_68 locs hP hD hS => ?_)
              obtain ⟨M_69, eM_69⟩ : ∃ M1 : Hp, M1 = va_up M v65 (.inl (cy 14, 16, .inl (upd f66 ((nI (v17 - 1)) : Int32).toNatClampNeg k4))) := ⟨_, rfl⟩
              have hy35 : (ax M b13 35) = f66 := (congrFun hV.2.2.1 35).symm.trans (ax_of hM16 (by decide) hv65 hM66)
              have hV : VW K L M M_69 b13 (fx M b13) (va_up (ax M b13) 35 (upd (ax M b13 35) ((nI (v17 - 1)) : Int32).toNatClampNeg k4)) := by rw [eM_69]; exact hV.ast (j := 35) hW hb_15 hM16 (by decide) hv65 hc65 hM66
              have hP : va_P D vwCl ([(za, (b13_0 0 z1 (nI z2) (nI z3) z4 z5 z6 z7 z8 z9 (nI z10) z11 z12 z13 z14 z15 (nI z16) z17 z18 z19))] ++ va_pl L M_69) H_68 := by rw [eM_69]; exact hP
              have hD : va_D A ([(za, (b13_0 0 z1 (nI z2) (nI z3) z4 z5 z6 z7 z8 z9 (nI z10) z11 z12 z13 z14 z15 (nI z16) z17 z18 z19))] ++ va_pl L M_69) := by rw [eM_69]; exact hD
              have hW : WOM cy K L M_69 := by rw [eM_69]; exact hW.up_77 hc65 ⟨_, rfl⟩
              have hF : fr K L [77, 78] M M_69 := by rw [eM_69]; exact hF.up hc65 (by decide)
              have hG : fG K L [] M M_69 := by rw [eM_69]; exact hG.arr hc65 (by decide)
              have hM_70 : M_69 v65 = .inl (cy 14, 16, .inl (upd f66 ((nI (v17 - 1)) : Int32).toNatClampNeg k4)) := by rw [eM_69]; exact va_up_self _ _ _
              have hM_71 : M_69 z1 = .inl (cy 23, 8, .inr (.inr (.inr (.inr (f11))))) := by rw [eM_69, va_up_ne _ _ (i1.neT hc65 (by decide))]; exact hM11
              have hM_72 : M_69 b13 = .inr (12, fs16) := by rw [eM_69, va_up_ne _ _ (hb_15.neT hc65 (by decide))]; exact hM16
              have hM_73 : M_69 v52 = .inl (cy 14, 16, .inl (f53)) := by rw [eM_69, va_up_ne _ _ (hc52.neT hc65 (by decide))]; exact hM53
              obtain ⟨f_74, ef_74⟩ : ∃ f : Nat → Int32, f = upd f66 ((nI (v17 - 1)) : Int32).toNatClampNeg k4 := ⟨_, rfl⟩
              rw [← ef_74] at hM_70
              refine lv_goto (tgt := 205) hx hb dX13_term_172 (by decide) ?_
              refine lv_aload_n hx hb dX13_term_205 rfl (lv_at hl 4 rfl) ?_
              refine lv_iload hx hb dX13_term_206 (lv_at hl 0 rfl) ?_
              have hPc := hP.sub (ws' := [(za, (b13_0 0 z1 (nI z2) (nI z3) z4 z5 z6 z7 z8 z9 (nI z10) z11 z12 z13 z14 z15 (nI z16) z17 z18 z19))]) [0] rfl
              have hDc := hD.sub (ws' := [(za, (b13_0 0 z1 (nI z2) (nI z3) z4 z5 z6 z7 z8 z9 (nI z10) z11 z12 z13 z14 z15 (nI z16) z17 z18 z19))]) [0] (by decide) rfl
              have hKc := hK.sub (tys' := []) [] rfl
              have hFc := va_free (wc := [(za, (b13_0 0 z1 (nI z2) (nI z3) z4 z5 z6 z7 z8 z9 (nI z10) z11 z12 z13 z14 z15 (nI z16) z17 z18 z19))]) hD hS hA [0] rfl
              refine va_calli (va_runV (As := [.int f_67]) (rest := []) ⟨hx, hb, hml, hown, hg⟩ (m_done l D H_68.size za 0 z1 (nI z2) (nI z3) z4 z5 z6 z7 z8 z9 (nI z10) z11 z12 z13 z14 z15 (nI z16) z17 z18 z19 f_67) (cwV 1 hg (gV wd_730 wd_731 wd_732 wd_717 wd_733) rfl rfl rfl (by decide +kernel) ⟨(Nat.le_trans (Nat.le_of_ble_eq_true rfl) hRf), (Nat.le_trans (Nat.le_of_ble_eq_true rfl) hRl)⟩) ⟨Pr.blind, va_recv hK hP (ci := 13) (q0 := 0) rfl rfl, fun U hU hW => ⟨rfl, Pr.at hPc hKc hDc hN hU hW⟩⟩ rfl rfl hl.1 rfl (lv_room (Nat.le_of_ble_eq_true rfl)) dX13_term_208 ⟨(Nat.le_trans (Nat.le_of_ble_eq_true rfl) hRc), (Nat.le_trans (Nat.le_of_ble_eq_true rfl) hRs)⟩) hS (fun q _ h => hFc q h) hFc (fun r_76 M_77 t H_75 locs ht hvm hw hB hz1 hk1 hS => ?_)
              have hp_78 := hw
              obtain ⟨hP1, hK1, hD1⟩ := hB
              rw [ht] at hP1
              obtain ⟨hP, hD⟩ := va_joinQ (X := [(za, (b13_0 0 z1 (nI z2) (nI z3) z4 z5 z6 z7 z8 z9 (nI z10) z11 z12 z13 z14 z15 (nI z16) z17 z18 z19))]) (cx := [(za, (b13_0 0 z1 (nI z2) (nI z3) z4 z5 z6 z7 z8 z9 (nI z10) z11 z12 z13 z14 z15 (nI z16) z17 z18 z19))]) (wr := []) (w1 := [(za, (b13_0 0 z1 (nI z2) (nI z3) 0 (-1) z6 z7 z8 z9 (nI z10) z11 z12 z13 z14 z15 (nI z16) z17 z18 z19))]) (pl := va_pl L M_69) hP hD [0] [] rfl rfl (by decide) (by decide) hk1 hFc hP1 hD1
              have hP : va_P D vwCl ([(za, (b13_0 0 z1 (nI z2) (nI z3) 0 (-1) z6 z7 z8 z9 (nI z10) z11 z12 z13 z14 z15 (nI z16) z17 z18 z19))] ++ va_pl L M_69) H_75 := hP
              have hD : va_D A ([(za, (b13_0 0 z1 (nI z2) (nI z3) 0 (-1) z6 z7 z8 z9 (nI z10) z11 z12 z13 z14 z15 (nI z16) z17 z18 z19))] ++ va_pl L M_69) := hD
              have hq := Eq.symm hp_78
              subst hq
              have hI_79 : (0 : Int) ≤ (k1 : Int32).toInt := inltI rfl rfl c_7
              have hI_80 : (k1 : Int32).toInt < ((z2 : Nat) : Int) := inleI (nI_toInt (by omega)) rfl c_8
              have hI_81 : ((v17 : Nat) : Int) ≠ (0 : Int) := ineI (nI_toInt (by omega)) rfl c_18
              have hI_82 : (k3 : Int32).toInt = (4 : Int) := ieqI rfl rfl c_28
              have hI_83 : (k3 : Int32).toInt ≠ (0 : Int) := ineI rfl rfl c_29
              have hI_84 : (k3 : Int32).toInt ≠ (1 : Int) := ineI rfl rfl c_30
              have hI_85 : (k3 : Int32).toInt = (4 : Int) := ieqI rfl rfl c_31
              have hI_86 : (0 : Int) ≤ (k3 : Int32).toInt := inltI rfl rfl c_32
              have hI_87 : (k3 : Int32).toInt ≤ (4 : Int) := inltI rfl rfl c_33
              have hI_88 : (0 : Int) ≤ (k4 : Int32).toInt := inltI rfl rfl c_34
              have hI_89 : (k4 : Int32).toInt ≤ (500 : Int) := ileI rfl rfl c_49
              have hI_90 : (0 : Int) ≤ (f_54 : Int32).toInt := inltI rfl rfl c_60
              have hI_91 : (f_54 : Int32).toInt < (1000 : Int) := inleI rfl rfl c_61
              have hI_92 : (k3 : Int32).toInt = (4 : Int) := ieqI rfl rfl c_64
              have hmo : mostI k3 = (500 : Int) := by unfold mostI; (repeat' split) <;> omega
              have hyes : okTm z2 SX SY k1 k2 k3 k4 := by unfold okTm okH; refine ⟨⟨?_, ?_⟩, ?_, ?_, ?_, ?_, ?_, ?_, ?_, ?_⟩ <;> first | omega | assumption
              have hA9 : HA (ax M b13 2) (ax M b13 3) := hAT.1
              have hB9 : HB (fx M b13 16) (fx M b13 14) (ax M b13 3) (ax M b13 43) := hAT.2.1
              have hC9 : HC (fx M b13 10) (ax M b13 22) (ax M b13 23) := hAT.2.2.1
              have hD9 : HD (fx M b13 0) (fx M b13 11) (fx M b13 15) (ax M b13 34) (ax M b13 41) := hAT.2.2.2.1
              have hE9 : HE (fx M b13 0) (fx M b13 1) (fx M b13 12) (fx M b13 13) (ax M b13 37) := hAT.2.2.2.2
              have hH9 : HI (fx M b13) (va_up (ax M b13) 35 (upd (ax M b13 35) ((nI (v17 - 1)) : Int32).toNatClampNeg k4)) := ⟨hA9, hB9, hC9, hD9, hE9⟩
              have hGI9 : GI K L z1 z2 M_69 := GI.fin hW0 i1 b2 hGI hact hV (hF.at i1 (by decide)) hH9
              rw [hQ]
              exact W.iret (v := f_67) hx hb hr (fun t ht hW9 => ⟨⟨f_67, M_69, rfl, ⟨hW, hF, hG, ⟨hGI9, (by unfold syTm; rw [if_pos hyes, if_pos (by omega), hi11]; have hQ9 := ZSx.fin hW0 i1 b2 hZS hGI.1 hkn hb9 hV (hF.at i1 (by decide)) hZk.1 (by rw [hZk.2, nI_cl (t := (v17 - 1)) (by omega)]); rw [va_upJ] at hQ9; exact hQ9)⟩, (by unfold anTm; rw [if_pos hyes, if_pos (by omega), hi11, show (v17 - 1) = (nI (v17 - 1)).toNatClampNeg from (nI_cl (by omega)).symm, hp35e])⟩, ⟨0, by rw [ht]; exact hP, hD⟩⟩, hS.F ht⟩) hS.2.2 dX13_term_211
            · have hz := rfl (a := 0)
              refine lv_if_ne (tgt := 147) hx hb dX13_term_138 (by decide) (fun c_93 => absurd c_93 (by decide)) (fun _ => ?_)
              refine lv_aload_n hx hb dX13_term_141 rfl (lv_at hl 3 rfl) ?_
              refine lv_iconst (v := 3) hx hb dX13_term_142 (by decide) ?_
              have hPc := hP.sub (ws' := [(za, (b13_0 0 z1 (nI z2) (nI z3) z4 z5 z6 z7 z8 z9 (nI z10) z11 z12 z13 z14 z15 (nI z16) z17 z18 z19))]) [0] rfl
              have hDc := hD.sub (ws' := [(za, (b13_0 0 z1 (nI z2) (nI z3) z4 z5 z6 z7 z8 z9 (nI z10) z11 z12 z13 z14 z15 (nI z16) z17 z18 z19))]) [0] (by decide) rfl
              have hKc := hK.sub (tys' := []) [] rfl
              have hFc := va_free (wc := [(za, (b13_0 0 z1 (nI z2) (nI z3) z4 z5 z6 z7 z8 z9 (nI z10) z11 z12 z13 z14 z15 (nI z16) z17 z18 z19))]) hD hS hA [0] rfl
              refine va_calli (va_runV (As := [.int 3]) (rest := []) ⟨hx, hb, hml, hown, hg⟩ (m_refused l D H_55.size za 0 z1 (nI z2) (nI z3) z4 z5 z6 z7 z8 z9 (nI z10) z11 z12 z13 z14 z15 (nI z16) z17 z18 z19 3) (cwV 1 hg (gV wd_725 wd_726 wd_727 wd_717 wd_728) rfl rfl rfl (by decide +kernel) ⟨(Nat.le_trans (Nat.le_of_ble_eq_true rfl) hRf), (Nat.le_trans (Nat.le_of_ble_eq_true rfl) hRl)⟩) ⟨Pr.blind, va_recv hK hP (ci := 13) (q0 := 0) rfl rfl, fun U hU hW => ⟨rfl, Pr.at hPc hKc hDc hN hU hW⟩⟩ rfl rfl hl.1 rfl (lv_room (Nat.le_of_ble_eq_true rfl)) dX13_term_143 ⟨(Nat.le_trans (Nat.le_of_ble_eq_true rfl) hRc), (Nat.le_trans (Nat.le_of_ble_eq_true rfl) hRs)⟩) hS (fun q _ h => hFc q h) hFc (fun r_95 M_96 t H_94 locs ht hvm hw hB hz1 hk1 hS => ?_)
              have hp_97 := hw
              obtain ⟨hP1, hK1, hD1⟩ := hB
              rw [ht] at hP1
              obtain ⟨hP, hD⟩ := va_joinQ (X := [(za, (b13_0 0 z1 (nI z2) (nI z3) z4 z5 z6 z7 z8 z9 (nI z10) z11 z12 z13 z14 z15 (nI z16) z17 z18 z19))]) (cx := [(za, (b13_0 0 z1 (nI z2) (nI z3) z4 z5 z6 z7 z8 z9 (nI z10) z11 z12 z13 z14 z15 (nI z16) z17 z18 z19))]) (wr := []) (w1 := [(za, (b13_0 0 z1 (nI z2) (nI z3) 3 (-1) z6 z7 z8 z9 (nI z10) z11 z12 z13 z14 z15 (nI z16) z17 z18 z19))]) (pl := va_pl L M) hP hD [0] [] rfl rfl (by decide) (by decide) hk1 hFc hP1 hD1
              have hP : va_P D vwCl ([(za, (b13_0 0 z1 (nI z2) (nI z3) 3 (-1) z6 z7 z8 z9 (nI z10) z11 z12 z13 z14 z15 (nI z16) z17 z18 z19))] ++ va_pl L M) H_94 := hP
              have hD : va_D A ([(za, (b13_0 0 z1 (nI z2) (nI z3) 3 (-1) z6 z7 z8 z9 (nI z10) z11 z12 z13 z14 z15 (nI z16) z17 z18 z19))] ++ va_pl L M) := hD
              have hq := Eq.symm hp_97
              subst hq
              have hI_98 : (0 : Int) ≤ (k1 : Int32).toInt := inltI rfl rfl c_7
              have hI_99 : (k1 : Int32).toInt < ((z2 : Nat) : Int) := inleI (nI_toInt (by omega)) rfl c_8
              have hI_100 : ((v17 : Nat) : Int) ≠ (0 : Int) := ineI (nI_toInt (by omega)) rfl c_18
              have hI_101 : (k3 : Int32).toInt = (4 : Int) := ieqI rfl rfl c_28
              have hI_102 : (k3 : Int32).toInt ≠ (0 : Int) := ineI rfl rfl c_29
              have hI_103 : (k3 : Int32).toInt ≠ (1 : Int) := ineI rfl rfl c_30
              have hI_104 : (k3 : Int32).toInt = (4 : Int) := ieqI rfl rfl c_31
              have hI_105 : (0 : Int) ≤ (k3 : Int32).toInt := inltI rfl rfl c_32
              have hI_106 : (k3 : Int32).toInt ≤ (4 : Int) := inltI rfl rfl c_33
              have hI_107 : (0 : Int) ≤ (k4 : Int32).toInt := inltI rfl rfl c_34
              have hI_108 : (k4 : Int32).toInt ≤ (500 : Int) := ileI rfl rfl c_49
              have hmo : mostI k3 = (500 : Int) := by unfold mostI; (repeat' split) <;> omega
              have hno : ¬ okTm z2 SX SY k1 k2 k3 k4 := fun q9 => by unfold okTm okH at q9; first | omega | (obtain ⟨⟨_, _⟩, _, _, _, _, _, _, _, _⟩ := q9; first | omega | contradiction)
              rw [hQ]
              exact W.iret (v := (-1)) hx hb hr (fun t ht hW9 => ⟨⟨(-1), M, rfl, ⟨hW, hF, hG, ⟨hGI, (by unfold syTm; rw [if_neg hno]; exact hZS)⟩, (by unfold anTm; rw [if_neg hno])⟩, ⟨3, by rw [ht]; exact hP, hD⟩⟩, hS.F ht⟩) hS.2.2 dX13_term_146
          · have hz := rfl (a := 0)
            have n_109 : ¬ k4 < 0 := gtN (c := 500) (by omega) (Int32.not_le.mp c_49)
            refine lv_aload_n hx hb dX13_term_102 rfl (lv_at hl 1 rfl) ?_
            refine lv_iconst (v := 2) hx hb dX13_term_103 (by decide) ?_
            have hPc := hP.sub (ws' := [(za, (b13_0 0 z1 (nI z2) (nI z3) z4 z5 z6 z7 z8 z9 (nI z10) z11 z12 z13 z14 z15 (nI z16) z17 z18 z19))]) [0] rfl
            have hDc := hD.sub (ws' := [(za, (b13_0 0 z1 (nI z2) (nI z3) z4 z5 z6 z7 z8 z9 (nI z10) z11 z12 z13 z14 z15 (nI z16) z17 z18 z19))]) [0] (by decide) rfl
            have hKc := hK.sub (tys' := []) [] rfl
            have hFc := va_free (wc := [(za, (b13_0 0 z1 (nI z2) (nI z3) z4 z5 z6 z7 z8 z9 (nI z10) z11 z12 z13 z14 z15 (nI z16) z17 z18 z19))]) hD hS hA [0] rfl
            refine va_calli (va_runV (As := [.int 2]) (rest := []) ⟨hx, hb, hml, hown, hg⟩ (m_refused l D H_2.size za 0 z1 (nI z2) (nI z3) z4 z5 z6 z7 z8 z9 (nI z10) z11 z12 z13 z14 z15 (nI z16) z17 z18 z19 2) (cwV 1 hg (gV wd_725 wd_726 wd_727 wd_717 wd_728) rfl rfl rfl (by decide +kernel) ⟨(Nat.le_trans (Nat.le_of_ble_eq_true rfl) hRf), (Nat.le_trans (Nat.le_of_ble_eq_true rfl) hRl)⟩) ⟨Pr.blind, va_recv hK hP (ci := 13) (q0 := 0) rfl rfl, fun U hU hW => ⟨rfl, Pr.at hPc hKc hDc hN hU hW⟩⟩ rfl rfl hl.1 rfl (lv_room (Nat.le_of_ble_eq_true rfl)) dX13_term_104 ⟨(Nat.le_trans (Nat.le_of_ble_eq_true rfl) hRc), (Nat.le_trans (Nat.le_of_ble_eq_true rfl) hRs)⟩) hS (fun q _ h => hFc q h) hFc (fun r_111 M_112 t H_110 locs ht hvm hw hB hz1 hk1 hS => ?_)
            have hp_113 := hw
            obtain ⟨hP1, hK1, hD1⟩ := hB
            rw [ht] at hP1
            obtain ⟨hP, hD⟩ := va_joinQ (X := [(za, (b13_0 0 z1 (nI z2) (nI z3) z4 z5 z6 z7 z8 z9 (nI z10) z11 z12 z13 z14 z15 (nI z16) z17 z18 z19))]) (cx := [(za, (b13_0 0 z1 (nI z2) (nI z3) z4 z5 z6 z7 z8 z9 (nI z10) z11 z12 z13 z14 z15 (nI z16) z17 z18 z19))]) (wr := []) (w1 := [(za, (b13_0 0 z1 (nI z2) (nI z3) 2 (-1) z6 z7 z8 z9 (nI z10) z11 z12 z13 z14 z15 (nI z16) z17 z18 z19))]) (pl := va_pl L M) hP hD [0] [] rfl rfl (by decide) (by decide) hk1 hFc hP1 hD1
            have hP : va_P D vwCl ([(za, (b13_0 0 z1 (nI z2) (nI z3) 2 (-1) z6 z7 z8 z9 (nI z10) z11 z12 z13 z14 z15 (nI z16) z17 z18 z19))] ++ va_pl L M) H_110 := hP
            have hD : va_D A ([(za, (b13_0 0 z1 (nI z2) (nI z3) 2 (-1) z6 z7 z8 z9 (nI z10) z11 z12 z13 z14 z15 (nI z16) z17 z18 z19))] ++ va_pl L M) := hD
            have hq := Eq.symm hp_113
            subst hq
            have hI_114 : (0 : Int) ≤ (k1 : Int32).toInt := inltI rfl rfl c_7
            have hI_115 : (k1 : Int32).toInt < ((z2 : Nat) : Int) := inleI (nI_toInt (by omega)) rfl c_8
            have hI_116 : ((v17 : Nat) : Int) ≠ (0 : Int) := ineI (nI_toInt (by omega)) rfl c_18
            have hI_117 : (k3 : Int32).toInt = (4 : Int) := ieqI rfl rfl c_28
            have hI_118 : (k3 : Int32).toInt ≠ (0 : Int) := ineI rfl rfl c_29
            have hI_119 : (k3 : Int32).toInt ≠ (1 : Int) := ineI rfl rfl c_30
            have hI_120 : (k3 : Int32).toInt = (4 : Int) := ieqI rfl rfl c_31
            have hI_121 : (0 : Int) ≤ (k3 : Int32).toInt := inltI rfl rfl c_32
            have hI_122 : (k3 : Int32).toInt ≤ (4 : Int) := inltI rfl rfl c_33
            have hI_123 : (0 : Int) ≤ (k4 : Int32).toInt := inltI rfl rfl c_34
            have hI_124 : (500 : Int) < (k4 : Int32).toInt := inleI rfl rfl c_49
            have hI_125 : (0 : Int) ≤ (k4 : Int32).toInt := inltI rfl rfl n_109
            have hmo : mostI k3 = (500 : Int) := by unfold mostI; (repeat' split) <;> omega
            have hno : ¬ okTm z2 SX SY k1 k2 k3 k4 := fun q9 => by unfold okTm okH at q9; first | omega | (obtain ⟨⟨_, _⟩, _, _, _, _, _, _, _, _⟩ := q9; first | omega | contradiction)
            rw [hQ]
            exact W.iret (v := (-1)) hx hb hr (fun t ht hW9 => ⟨⟨(-1), M, rfl, ⟨hW, hF, hG, ⟨hGI, (by unfold syTm; rw [if_neg hno]; exact hZS)⟩, (by unfold anTm; rw [if_neg hno])⟩, ⟨2, by rw [ht]; exact hP, hD⟩⟩, hS.F ht⟩) hS.2.2 dX13_term_107
      · have hz := rfl (a := 0)
        refine lv_iload_n hx hb dX13_term_30 rfl (lv_at hl 2 rfl) ?_
        refine lv_if_lt (tgt := 40) hx hb dX13_term_31 (by decide) (fun c_126 => ?_) (fun c_126 => ?_)
        · have hz := rfl (a := 0)
          refine lv_aload_n hx hb dX13_term_40 rfl (lv_at hl 0 rfl) ?_
          refine lv_iconst (v := 1) hx hb dX13_term_41 (by decide) ?_
          have hPc := hP.sub (ws' := [(za, (b13_0 0 z1 (nI z2) (nI z3) z4 z5 z6 z7 z8 z9 (nI z10) z11 z12 z13 z14 z15 (nI z16) z17 z18 z19))]) [0] rfl
          have hDc := hD.sub (ws' := [(za, (b13_0 0 z1 (nI z2) (nI z3) z4 z5 z6 z7 z8 z9 (nI z10) z11 z12 z13 z14 z15 (nI z16) z17 z18 z19))]) [0] (by decide) rfl
          have hKc := hK.sub (tys' := []) [] rfl
          have hFc := va_free (wc := [(za, (b13_0 0 z1 (nI z2) (nI z3) z4 z5 z6 z7 z8 z9 (nI z10) z11 z12 z13 z14 z15 (nI z16) z17 z18 z19))]) hD hS hA [0] rfl
          refine va_calli (va_runV (As := [.int 1]) (rest := []) ⟨hx, hb, hml, hown, hg⟩ (m_refused l D H_2.size za 0 z1 (nI z2) (nI z3) z4 z5 z6 z7 z8 z9 (nI z10) z11 z12 z13 z14 z15 (nI z16) z17 z18 z19 1) (cwV 1 hg (gV wd_725 wd_726 wd_727 wd_717 wd_728) rfl rfl rfl (by decide +kernel) ⟨(Nat.le_trans (Nat.le_of_ble_eq_true rfl) hRf), (Nat.le_trans (Nat.le_of_ble_eq_true rfl) hRl)⟩) ⟨Pr.blind, va_recv hK hP (ci := 13) (q0 := 0) rfl rfl, fun U hU hW => ⟨rfl, Pr.at hPc hKc hDc hN hU hW⟩⟩ rfl rfl hl.1 rfl (lv_room (Nat.le_of_ble_eq_true rfl)) dX13_term_42 ⟨(Nat.le_trans (Nat.le_of_ble_eq_true rfl) hRc), (Nat.le_trans (Nat.le_of_ble_eq_true rfl) hRs)⟩) hS (fun q _ h => hFc q h) hFc (fun r_128 M_129 t H_127 locs ht hvm hw hB hz1 hk1 hS => ?_)
          have hp_130 := hw
          obtain ⟨hP1, hK1, hD1⟩ := hB
          rw [ht] at hP1
          obtain ⟨hP, hD⟩ := va_joinQ (X := [(za, (b13_0 0 z1 (nI z2) (nI z3) z4 z5 z6 z7 z8 z9 (nI z10) z11 z12 z13 z14 z15 (nI z16) z17 z18 z19))]) (cx := [(za, (b13_0 0 z1 (nI z2) (nI z3) z4 z5 z6 z7 z8 z9 (nI z10) z11 z12 z13 z14 z15 (nI z16) z17 z18 z19))]) (wr := []) (w1 := [(za, (b13_0 0 z1 (nI z2) (nI z3) 1 (-1) z6 z7 z8 z9 (nI z10) z11 z12 z13 z14 z15 (nI z16) z17 z18 z19))]) (pl := va_pl L M) hP hD [0] [] rfl rfl (by decide) (by decide) hk1 hFc hP1 hD1
          have hP : va_P D vwCl ([(za, (b13_0 0 z1 (nI z2) (nI z3) 1 (-1) z6 z7 z8 z9 (nI z10) z11 z12 z13 z14 z15 (nI z16) z17 z18 z19))] ++ va_pl L M) H_127 := hP
          have hD : va_D A ([(za, (b13_0 0 z1 (nI z2) (nI z3) 1 (-1) z6 z7 z8 z9 (nI z10) z11 z12 z13 z14 z15 (nI z16) z17 z18 z19))] ++ va_pl L M) := hD
          have hq := Eq.symm hp_130
          subst hq
          have hI_131 : (0 : Int) ≤ (k1 : Int32).toInt := inltI rfl rfl c_7
          have hI_132 : (k1 : Int32).toInt < ((z2 : Nat) : Int) := inleI (nI_toInt (by omega)) rfl c_8
          have hI_133 : ((v17 : Nat) : Int) ≠ (0 : Int) := ineI (nI_toInt (by omega)) rfl c_18
          have hI_134 : (k3 : Int32).toInt ≠ (4 : Int) := ineI rfl rfl c_28
          have hI_135 : (k2 : Int32).toInt < (0 : Int) := iltI rfl rfl c_126
          have hno : ¬ okTm z2 SX SY k1 k2 k3 k4 := fun q9 => by unfold okTm okH at q9; first | omega | (obtain ⟨⟨_, _⟩, _, _, _, _, _, _, _, _⟩ := q9; first | omega | contradiction)
          rw [hQ]
          exact W.iret (v := (-1)) hx hb hr (fun t ht hW9 => ⟨⟨(-1), M, rfl, ⟨hW, hF, hG, ⟨hGI, (by unfold syTm; rw [if_neg hno]; exact hZS)⟩, (by unfold anTm; rw [if_neg hno])⟩, ⟨1, by rw [ht]; exact hP, hD⟩⟩, hS.F ht⟩) hS.2.2 dX13_term_45
        · have hz := rfl (a := 0)
          refine lv_iload_n hx hb dX13_term_34 rfl (lv_at hl 2 rfl) ?_
          refine lv_bipush (v := 6) hx hb dX13_term_35 (by decide) ?_
          refine lv_icmp_lt (tgt := 46) hx hb dX13_term_37 (by decide) (fun c_136 => ?_) (fun c_136 => ?_)
          · have hz := rfl (a := 0)
            refine lv_iload_n hx hb dX13_term_46 rfl (lv_at hl 3 rfl) ?_
            refine lv_if_ne (tgt := 55) hx hb dX13_term_47 (by decide) (fun c_137 => ?_) (fun c_137 => ?_)
            · have hz := rfl (a := 0)
              refine lv_iload_n hx hb dX13_term_55 rfl (lv_at hl 3 rfl) ?_
              refine lv_iconst (v := 1) hx hb dX13_term_56 (by decide) ?_
              refine lv_icmp_ne (tgt := 65) hx hb dX13_term_57 (by decide) (fun c_138 => ?_) (fun c_138 => ?_)
              · have hz := rfl (a := 0)
                refine lv_iload_n hx hb dX13_term_65 rfl (lv_at hl 3 rfl) ?_
                refine lv_iconst (v := 4) hx hb dX13_term_66 (by decide) ?_
                refine lv_icmp_ne (tgt := 76) hx hb dX13_term_67 (by decide) (fun c_139 => ?_) (fun c_139 => absurd c_139 c_28)
                refine lv_sipush (v := 1000) hx hb dX13_term_76 (by decide) ?_
                refine lv_istore (lv' := [(5, .int 1000), (0, .ref za), (1, .int k1), (2, .int k2), (3, .int k3), (4, .int k4)]) hx hb dX13_term_79 hl (by decide) rfl (fun ls hl => ?_)
                refine lv_iload_n hx hb dX13_term_81 rfl (lv_at hl 4 rfl) ?_
                refine lv_if_lt (tgt := 102) hx hb dX13_term_82 (by decide) (fun c_140 => ?_) (fun c_140 => ?_)
                · have hz := rfl (a := 0)
                  refine lv_aload_n hx hb dX13_term_102 rfl (lv_at hl 1 rfl) ?_
                  refine lv_iconst (v := 2) hx hb dX13_term_103 (by decide) ?_
                  have hPc := hP.sub (ws' := [(za, (b13_0 0 z1 (nI z2) (nI z3) z4 z5 z6 z7 z8 z9 (nI z10) z11 z12 z13 z14 z15 (nI z16) z17 z18 z19))]) [0] rfl
                  have hDc := hD.sub (ws' := [(za, (b13_0 0 z1 (nI z2) (nI z3) z4 z5 z6 z7 z8 z9 (nI z10) z11 z12 z13 z14 z15 (nI z16) z17 z18 z19))]) [0] (by decide) rfl
                  have hKc := hK.sub (tys' := []) [] rfl
                  have hFc := va_free (wc := [(za, (b13_0 0 z1 (nI z2) (nI z3) z4 z5 z6 z7 z8 z9 (nI z10) z11 z12 z13 z14 z15 (nI z16) z17 z18 z19))]) hD hS hA [0] rfl
                  refine va_calli (va_runV (As := [.int 2]) (rest := []) ⟨hx, hb, hml, hown, hg⟩ (m_refused l D H_2.size za 0 z1 (nI z2) (nI z3) z4 z5 z6 z7 z8 z9 (nI z10) z11 z12 z13 z14 z15 (nI z16) z17 z18 z19 2) (cwV 1 hg (gV wd_725 wd_726 wd_727 wd_717 wd_728) rfl rfl rfl (by decide +kernel) ⟨(Nat.le_trans (Nat.le_of_ble_eq_true rfl) hRf), (Nat.le_trans (Nat.le_of_ble_eq_true rfl) hRl)⟩) ⟨Pr.blind, va_recv hK hP (ci := 13) (q0 := 0) rfl rfl, fun U hU hW => ⟨rfl, Pr.at hPc hKc hDc hN hU hW⟩⟩ rfl rfl hl.1 rfl (lv_room (Nat.le_of_ble_eq_true rfl)) dX13_term_104 ⟨(Nat.le_trans (Nat.le_of_ble_eq_true rfl) hRc), (Nat.le_trans (Nat.le_of_ble_eq_true rfl) hRs)⟩) hS (fun q _ h => hFc q h) hFc (fun r_142 M_143 t H_141 locs ht hvm hw hB hz1 hk1 hS => ?_)
                  have hp_144 := hw
                  obtain ⟨hP1, hK1, hD1⟩ := hB
                  rw [ht] at hP1
                  obtain ⟨hP, hD⟩ := va_joinQ (X := [(za, (b13_0 0 z1 (nI z2) (nI z3) z4 z5 z6 z7 z8 z9 (nI z10) z11 z12 z13 z14 z15 (nI z16) z17 z18 z19))]) (cx := [(za, (b13_0 0 z1 (nI z2) (nI z3) z4 z5 z6 z7 z8 z9 (nI z10) z11 z12 z13 z14 z15 (nI z16) z17 z18 z19))]) (wr := []) (w1 := [(za, (b13_0 0 z1 (nI z2) (nI z3) 2 (-1) z6 z7 z8 z9 (nI z10) z11 z12 z13 z14 z15 (nI z16) z17 z18 z19))]) (pl := va_pl L M) hP hD [0] [] rfl rfl (by decide) (by decide) hk1 hFc hP1 hD1
                  have hP : va_P D vwCl ([(za, (b13_0 0 z1 (nI z2) (nI z3) 2 (-1) z6 z7 z8 z9 (nI z10) z11 z12 z13 z14 z15 (nI z16) z17 z18 z19))] ++ va_pl L M) H_141 := hP
                  have hD : va_D A ([(za, (b13_0 0 z1 (nI z2) (nI z3) 2 (-1) z6 z7 z8 z9 (nI z10) z11 z12 z13 z14 z15 (nI z16) z17 z18 z19))] ++ va_pl L M) := hD
                  have hq := Eq.symm hp_144
                  subst hq
                  have hI_145 : (0 : Int) ≤ (k1 : Int32).toInt := inltI rfl rfl c_7
                  have hI_146 : (k1 : Int32).toInt < ((z2 : Nat) : Int) := inleI (nI_toInt (by omega)) rfl c_8
                  have hI_147 : ((v17 : Nat) : Int) ≠ (0 : Int) := ineI (nI_toInt (by omega)) rfl c_18
                  have hI_148 : (k3 : Int32).toInt ≠ (4 : Int) := ineI rfl rfl c_28
                  have hI_149 : (0 : Int) ≤ (k2 : Int32).toInt := inltI rfl rfl c_126
                  have hI_150 : (k2 : Int32).toInt < (6 : Int) := iltI rfl rfl c_136
                  have hI_151 : (k3 : Int32).toInt ≠ (0 : Int) := ineI rfl rfl c_137
                  have hI_152 : (k3 : Int32).toInt ≠ (1 : Int) := ineI rfl rfl c_138
                  have hI_153 : (k3 : Int32).toInt ≠ (4 : Int) := ineI rfl rfl c_139
                  have hI_154 : (k3 : Int32).toInt < (0 : Int) := iltI rfl rfl c_140
                  have hmo : mostI k3 = (1000 : Int) := by unfold mostI; (repeat' split) <;> omega
                  have hno : ¬ okTm z2 SX SY k1 k2 k3 k4 := fun q9 => by unfold okTm okH at q9; first | omega | (obtain ⟨⟨_, _⟩, _, _, _, _, _, _, _, _⟩ := q9; first | omega | contradiction)
                  rw [hQ]
                  exact W.iret (v := (-1)) hx hb hr (fun t ht hW9 => ⟨⟨(-1), M, rfl, ⟨hW, hF, hG, ⟨hGI, (by unfold syTm; rw [if_neg hno]; exact hZS)⟩, (by unfold anTm; rw [if_neg hno])⟩, ⟨2, by rw [ht]; exact hP, hD⟩⟩, hS.F ht⟩) hS.2.2 dX13_term_107
                · have hz := rfl (a := 0)
                  refine lv_iload_n hx hb dX13_term_85 rfl (lv_at hl 4 rfl) ?_
                  refine lv_iconst (v := 4) hx hb dX13_term_86 (by decide) ?_
                  refine lv_icmp_gt (tgt := 102) hx hb dX13_term_87 (by decide) (fun c_155 => ?_) (fun c_155 => ?_)
                  · have hz := rfl (a := 0)
                    have n_156 : ¬ k3 < 0 := gtN (c := 4) (by omega) c_155
                    refine lv_aload_n hx hb dX13_term_102 rfl (lv_at hl 1 rfl) ?_
                    refine lv_iconst (v := 2) hx hb dX13_term_103 (by decide) ?_
                    have hPc := hP.sub (ws' := [(za, (b13_0 0 z1 (nI z2) (nI z3) z4 z5 z6 z7 z8 z9 (nI z10) z11 z12 z13 z14 z15 (nI z16) z17 z18 z19))]) [0] rfl
                    have hDc := hD.sub (ws' := [(za, (b13_0 0 z1 (nI z2) (nI z3) z4 z5 z6 z7 z8 z9 (nI z10) z11 z12 z13 z14 z15 (nI z16) z17 z18 z19))]) [0] (by decide) rfl
                    have hKc := hK.sub (tys' := []) [] rfl
                    have hFc := va_free (wc := [(za, (b13_0 0 z1 (nI z2) (nI z3) z4 z5 z6 z7 z8 z9 (nI z10) z11 z12 z13 z14 z15 (nI z16) z17 z18 z19))]) hD hS hA [0] rfl
                    refine va_calli (va_runV (As := [.int 2]) (rest := []) ⟨hx, hb, hml, hown, hg⟩ (m_refused l D H_2.size za 0 z1 (nI z2) (nI z3) z4 z5 z6 z7 z8 z9 (nI z10) z11 z12 z13 z14 z15 (nI z16) z17 z18 z19 2) (cwV 1 hg (gV wd_725 wd_726 wd_727 wd_717 wd_728) rfl rfl rfl (by decide +kernel) ⟨(Nat.le_trans (Nat.le_of_ble_eq_true rfl) hRf), (Nat.le_trans (Nat.le_of_ble_eq_true rfl) hRl)⟩) ⟨Pr.blind, va_recv hK hP (ci := 13) (q0 := 0) rfl rfl, fun U hU hW => ⟨rfl, Pr.at hPc hKc hDc hN hU hW⟩⟩ rfl rfl hl.1 rfl (lv_room (Nat.le_of_ble_eq_true rfl)) dX13_term_104 ⟨(Nat.le_trans (Nat.le_of_ble_eq_true rfl) hRc), (Nat.le_trans (Nat.le_of_ble_eq_true rfl) hRs)⟩) hS (fun q _ h => hFc q h) hFc (fun r_158 M_159 t H_157 locs ht hvm hw hB hz1 hk1 hS => ?_)
                    have hp_160 := hw
                    obtain ⟨hP1, hK1, hD1⟩ := hB
                    rw [ht] at hP1
                    obtain ⟨hP, hD⟩ := va_joinQ (X := [(za, (b13_0 0 z1 (nI z2) (nI z3) z4 z5 z6 z7 z8 z9 (nI z10) z11 z12 z13 z14 z15 (nI z16) z17 z18 z19))]) (cx := [(za, (b13_0 0 z1 (nI z2) (nI z3) z4 z5 z6 z7 z8 z9 (nI z10) z11 z12 z13 z14 z15 (nI z16) z17 z18 z19))]) (wr := []) (w1 := [(za, (b13_0 0 z1 (nI z2) (nI z3) 2 (-1) z6 z7 z8 z9 (nI z10) z11 z12 z13 z14 z15 (nI z16) z17 z18 z19))]) (pl := va_pl L M) hP hD [0] [] rfl rfl (by decide) (by decide) hk1 hFc hP1 hD1
                    have hP : va_P D vwCl ([(za, (b13_0 0 z1 (nI z2) (nI z3) 2 (-1) z6 z7 z8 z9 (nI z10) z11 z12 z13 z14 z15 (nI z16) z17 z18 z19))] ++ va_pl L M) H_157 := hP
                    have hD : va_D A ([(za, (b13_0 0 z1 (nI z2) (nI z3) 2 (-1) z6 z7 z8 z9 (nI z10) z11 z12 z13 z14 z15 (nI z16) z17 z18 z19))] ++ va_pl L M) := hD
                    have hq := Eq.symm hp_160
                    subst hq
                    have hI_161 : (0 : Int) ≤ (k1 : Int32).toInt := inltI rfl rfl c_7
                    have hI_162 : (k1 : Int32).toInt < ((z2 : Nat) : Int) := inleI (nI_toInt (by omega)) rfl c_8
                    have hI_163 : ((v17 : Nat) : Int) ≠ (0 : Int) := ineI (nI_toInt (by omega)) rfl c_18
                    have hI_164 : (k3 : Int32).toInt ≠ (4 : Int) := ineI rfl rfl c_28
                    have hI_165 : (0 : Int) ≤ (k2 : Int32).toInt := inltI rfl rfl c_126
                    have hI_166 : (k2 : Int32).toInt < (6 : Int) := iltI rfl rfl c_136
                    have hI_167 : (k3 : Int32).toInt ≠ (0 : Int) := ineI rfl rfl c_137
                    have hI_168 : (k3 : Int32).toInt ≠ (1 : Int) := ineI rfl rfl c_138
                    have hI_169 : (k3 : Int32).toInt ≠ (4 : Int) := ineI rfl rfl c_139
                    have hI_170 : (0 : Int) ≤ (k3 : Int32).toInt := inltI rfl rfl c_140
                    have hI_171 : (4 : Int) < (k3 : Int32).toInt := iltI rfl rfl c_155
                    have hI_172 : (0 : Int) ≤ (k3 : Int32).toInt := inltI rfl rfl n_156
                    have hmo : mostI k3 = (1000 : Int) := by unfold mostI; (repeat' split) <;> omega
                    have hno : ¬ okTm z2 SX SY k1 k2 k3 k4 := fun q9 => by unfold okTm okH at q9; first | omega | (obtain ⟨⟨_, _⟩, _, _, _, _, _, _, _, _⟩ := q9; first | omega | contradiction)
                    rw [hQ]
                    exact W.iret (v := (-1)) hx hb hr (fun t ht hW9 => ⟨⟨(-1), M, rfl, ⟨hW, hF, hG, ⟨hGI, (by unfold syTm; rw [if_neg hno]; exact hZS)⟩, (by unfold anTm; rw [if_neg hno])⟩, ⟨2, by rw [ht]; exact hP, hD⟩⟩, hS.F ht⟩) hS.2.2 dX13_term_107
                  · have hz := rfl (a := 0)
                    refine lv_iload hx hb dX13_term_90 (lv_at hl 5 rfl) ?_
                    refine lv_if_lt (tgt := 102) hx hb dX13_term_92 (by decide) (fun c_173 => ?_) (fun c_173 => ?_)
                    · have hz := rfl (a := 0)
                      refine lv_aload_n hx hb dX13_term_102 rfl (lv_at hl 1 rfl) ?_
                      refine lv_iconst (v := 2) hx hb dX13_term_103 (by decide) ?_
                      have hPc := hP.sub (ws' := [(za, (b13_0 0 z1 (nI z2) (nI z3) z4 z5 z6 z7 z8 z9 (nI z10) z11 z12 z13 z14 z15 (nI z16) z17 z18 z19))]) [0] rfl
                      have hDc := hD.sub (ws' := [(za, (b13_0 0 z1 (nI z2) (nI z3) z4 z5 z6 z7 z8 z9 (nI z10) z11 z12 z13 z14 z15 (nI z16) z17 z18 z19))]) [0] (by decide) rfl
                      have hKc := hK.sub (tys' := []) [] rfl
                      have hFc := va_free (wc := [(za, (b13_0 0 z1 (nI z2) (nI z3) z4 z5 z6 z7 z8 z9 (nI z10) z11 z12 z13 z14 z15 (nI z16) z17 z18 z19))]) hD hS hA [0] rfl
                      refine va_calli (va_runV (As := [.int 2]) (rest := []) ⟨hx, hb, hml, hown, hg⟩ (m_refused l D H_2.size za 0 z1 (nI z2) (nI z3) z4 z5 z6 z7 z8 z9 (nI z10) z11 z12 z13 z14 z15 (nI z16) z17 z18 z19 2) (cwV 1 hg (gV wd_725 wd_726 wd_727 wd_717 wd_728) rfl rfl rfl (by decide +kernel) ⟨(Nat.le_trans (Nat.le_of_ble_eq_true rfl) hRf), (Nat.le_trans (Nat.le_of_ble_eq_true rfl) hRl)⟩) ⟨Pr.blind, va_recv hK hP (ci := 13) (q0 := 0) rfl rfl, fun U hU hW => ⟨rfl, Pr.at hPc hKc hDc hN hU hW⟩⟩ rfl rfl hl.1 rfl (lv_room (Nat.le_of_ble_eq_true rfl)) dX13_term_104 ⟨(Nat.le_trans (Nat.le_of_ble_eq_true rfl) hRc), (Nat.le_trans (Nat.le_of_ble_eq_true rfl) hRs)⟩) hS (fun q _ h => hFc q h) hFc (fun r_175 M_176 t H_174 locs ht hvm hw hB hz1 hk1 hS => ?_)
                      have hp_177 := hw
                      obtain ⟨hP1, hK1, hD1⟩ := hB
                      rw [ht] at hP1
                      obtain ⟨hP, hD⟩ := va_joinQ (X := [(za, (b13_0 0 z1 (nI z2) (nI z3) z4 z5 z6 z7 z8 z9 (nI z10) z11 z12 z13 z14 z15 (nI z16) z17 z18 z19))]) (cx := [(za, (b13_0 0 z1 (nI z2) (nI z3) z4 z5 z6 z7 z8 z9 (nI z10) z11 z12 z13 z14 z15 (nI z16) z17 z18 z19))]) (wr := []) (w1 := [(za, (b13_0 0 z1 (nI z2) (nI z3) 2 (-1) z6 z7 z8 z9 (nI z10) z11 z12 z13 z14 z15 (nI z16) z17 z18 z19))]) (pl := va_pl L M) hP hD [0] [] rfl rfl (by decide) (by decide) hk1 hFc hP1 hD1
                      have hP : va_P D vwCl ([(za, (b13_0 0 z1 (nI z2) (nI z3) 2 (-1) z6 z7 z8 z9 (nI z10) z11 z12 z13 z14 z15 (nI z16) z17 z18 z19))] ++ va_pl L M) H_174 := hP
                      have hD : va_D A ([(za, (b13_0 0 z1 (nI z2) (nI z3) 2 (-1) z6 z7 z8 z9 (nI z10) z11 z12 z13 z14 z15 (nI z16) z17 z18 z19))] ++ va_pl L M) := hD
                      have hq := Eq.symm hp_177
                      subst hq
                      have hI_178 : (0 : Int) ≤ (k1 : Int32).toInt := inltI rfl rfl c_7
                      have hI_179 : (k1 : Int32).toInt < ((z2 : Nat) : Int) := inleI (nI_toInt (by omega)) rfl c_8
                      have hI_180 : ((v17 : Nat) : Int) ≠ (0 : Int) := ineI (nI_toInt (by omega)) rfl c_18
                      have hI_181 : (k3 : Int32).toInt ≠ (4 : Int) := ineI rfl rfl c_28
                      have hI_182 : (0 : Int) ≤ (k2 : Int32).toInt := inltI rfl rfl c_126
                      have hI_183 : (k2 : Int32).toInt < (6 : Int) := iltI rfl rfl c_136
                      have hI_184 : (k3 : Int32).toInt ≠ (0 : Int) := ineI rfl rfl c_137
                      have hI_185 : (k3 : Int32).toInt ≠ (1 : Int) := ineI rfl rfl c_138
                      have hI_186 : (k3 : Int32).toInt ≠ (4 : Int) := ineI rfl rfl c_139
                      have hI_187 : (0 : Int) ≤ (k3 : Int32).toInt := inltI rfl rfl c_140
                      have hI_188 : (k3 : Int32).toInt ≤ (4 : Int) := inltI rfl rfl c_155
                      have hI_189 : (k4 : Int32).toInt < (0 : Int) := iltI rfl rfl c_173
                      have hmo : mostI k3 = (1000 : Int) := by unfold mostI; (repeat' split) <;> omega
                      have hno : ¬ okTm z2 SX SY k1 k2 k3 k4 := fun q9 => by unfold okTm okH at q9; first | omega | (obtain ⟨⟨_, _⟩, _, _, _, _, _, _, _, _⟩ := q9; first | omega | contradiction)
                      rw [hQ]
                      exact W.iret (v := (-1)) hx hb hr (fun t ht hW9 => ⟨⟨(-1), M, rfl, ⟨hW, hF, hG, ⟨hGI, (by unfold syTm; rw [if_neg hno]; exact hZS)⟩, (by unfold anTm; rw [if_neg hno])⟩, ⟨2, by rw [ht]; exact hP, hD⟩⟩, hS.F ht⟩) hS.2.2 dX13_term_107
                    · have hz := rfl (a := 0)
                      refine lv_iload hx hb dX13_term_95 (lv_at hl 5 rfl) ?_
                      refine lv_iload hx hb dX13_term_97 (lv_at hl 0 rfl) ?_
                      refine lv_icmp_le (tgt := 108) hx hb dX13_term_99 (by decide) (fun c_190 => ?_) (fun c_190 => ?_)
                      · have hz := rfl (a := 0)
                        refine lv_aload_n hx hb dX13_term_108 rfl (lv_at hl 1 rfl) ?_
                        refine va_get (D := D) (ci := 13) (v := .ref z1) (C := RX13) (T := TX13) (N := 20) hx hb hg inG13 hown hK hP 0 rfl rfl 1 (by decide) (hg _ wd_739) (fun _ h9 => h9) rfl dX13_term_109 ?_
                        refine lv_iload_n hx hb dX13_term_112 rfl (lv_at hl 2 rfl) ?_
                        have hi_191 : vp_in k1 8 := (inbW (a := z2) (by omega) (inb k1 z2 (by omega) c_7 c_8))
                        refine pg_aldq hx hb hK hP i1.1 9 hM11 rfl hi_191 dX13_term_113 ?_
                        rw [show f11 (k1 : Int32).toNatClampNeg = some b13 from eb_14]
                        refine lv_astore (lv' := [(6, .ref b13), (5, .int 1000), (0, .ref za), (1, .int k1), (2, .int k2), (3, .int k3), (4, .int k4)]) hx hb dX13_term_114 hl (by decide) rfl (fun ls hl => ?_)
                        refine lv_aload hx hb dX13_term_116 (lv_at hl 0 rfl) ?_
                        refine pg_getN (D := D) (ci := 12) (v := .int (nI v17)) (C := RX12) (T := TX12) (N := 51) hx hb hg inG12 hown hK hP hb_15.1 hM16 rfl 11 (by decide) (hN.use (Cond.fieldLinkNest RX13 142 RX12 "rules" "I" RX13) 20 rfl rfl) (fun _ h9 => h9) hv17 dX13_term_118 ?_
                        refine lv_iconst (v := 1) hx hb dX13_term_121 (by decide) ?_
                        refine lv_isub hx hb dX13_term_122 ?_
                        refine lv_topi (fun f_192 ef_192 => ?_)
                        obtain rfl : f_192 = (nI (v17 - 1)) := ef_192.trans (nI_prd (by omega))
                        refine lv_istore (lv' := [(7, .int (nI (v17 - 1))), (6, .ref b13), (5, .int 1000), (0, .ref za), (1, .int k1), (2, .int k2), (3, .int k3), (4, .int k4)]) hx hb dX13_term_123 hl (by decide) rfl (fun ls hl => ?_)
                        refine lv_aload hx hb dX13_term_125 (lv_at hl 1 rfl) ?_
                        refine lv_aload hx hb dX13_term_127 (lv_at hl 1 rfl) ?_
                        obtain ⟨v193, hv193, hc193⟩ : ∃ v : Nat, fs16[34]? = some (.ref v : Value) ∧ isk K L v 43 16 := hl16 34 (by decide)
                        refine pg_getN (D := D) (ci := 12) (v := .ref v193) (C := RX12) (T := TX12) (N := 51) hx hb hg inG12 hown hK hP hb_15.1 hM16 rfl 34 (by decide) (hN.use (Cond.fieldLinkNest RX13 145 RX12 "ruleDay" "[I" RX13) 43 rfl rfl) (fun _ h9 => h9) hv193 dX13_term_129 ?_
                        refine lv_iload hx hb dX13_term_132 (lv_at hl 0 rfl) ?_
                        obtain ⟨f194, hM194⟩ := hW.open_43 hc193
                        refine pg_iald hx hb hK hP hc193.1 0 hM194 rfl (inbN (v17 - 1) 16 (by omega) (by omega)) dX13_term_134 ?_
                        refine lv_topi (fun f_195 ef_195 => ?_)
                        have hp34e : SY (k1 : Int32).toNatClampNeg 34 ((nI (v17 - 1)) : Int32).toNatClampNeg = f_195 := by rw [← hZk.2, ax_of hM16 (by decide) hv193 hM194]; exact ef_195.symm
                        have hp34 : (SY (k1 : Int32).toNatClampNeg 34 ((nI (v17 - 1)) : Int32).toNatClampNeg).toInt = (f_195 : Int32).toInt := congrArg Int32.toInt hp34e
                        have hi11 : (SX (k1 : Int32).toNatClampNeg 11 - 1).toNat = (v17 - 1) := by omega
                        have hp34b : (SY (k1 : Int32).toNatClampNeg 34 (SX (k1 : Int32).toNatClampNeg 11 - 1).toNat).toInt = (SY (k1 : Int32).toNatClampNeg 34 (nI (v17 - 1)).toNatClampNeg).toInt := by rw [hi11, nI_cl (by omega)]
                        have hPc : va_P D vwCl ([] ++ va_pl L M) H_2 := hP.part (cx := []) [] rfl
                        have hDc : va_D A ([] ++ va_pl L M) := hD.part (cx := []) [] (by decide) rfl
                        have hFc : ∀ q, va_A ([] ++ va_pl L M) H_2.size q → A q := pg_free hDc hS hA
                        refine va_calli (va_runV (As := [.int f_195]) (rest := []) ⟨hx, hb, hml, hown, hg⟩ (f_isFree l D cy K L M H_2.size b13 f_195  hW hb_15) (cwV 1 hg (gV wd_807 wd_808 wd_809 wd_737 wd_810) rfl rfl rfl (by decide +kernel) ⟨(Nat.le_trans (Nat.le_of_ble_eq_true rfl) hRf), (Nat.le_trans (Nat.le_of_ble_eq_true rfl) hRl)⟩) ⟨PG.blind, pg_recv hK hP hb_15.1 hM16 rfl, fun U hU hW => ⟨rfl, PG.at hPc hK hDc hN hU hW⟩⟩ rfl rfl hl.1 rfl (lv_room (Nat.le_of_ble_eq_true rfl)) dX13_term_135 ⟨(Nat.le_trans (Nat.le_of_ble_eq_true rfl) hRc), (Nat.le_trans (Nat.le_of_ble_eq_true rfl) hRs)⟩) hS (fun q _ h => hFc q h) hFc (fun r_197 M_198 t H_196 locs ht hvm hw hB hz1 hk1 hS => ?_)
                        have hp_199 := hw
                        obtain ⟨hP1, hD1⟩ := hB
                        rw [ht] at hP1
                        obtain ⟨hP, hD⟩ := va_joinP (X := [(za, (b13_0 0 z1 (nI z2) (nI z3) z4 z5 z6 z7 z8 z9 (nI z10) z11 z12 z13 z14 z15 (nI z16) z17 z18 z19))]) (cx := []) (wr := [(za, (b13_0 0 z1 (nI z2) (nI z3) z4 z5 z6 z7 z8 z9 (nI z10) z11 z12 z13 z14 z15 (nI z16) z17 z18 z19))]) (rx := []) (pl := va_pl L M) (pl1 := va_pl L M) hP hD [] [0] rfl rfl (by decide) (by decide) hk1 hFc hP1 hD1
                        have hP : va_P D vwCl ([(za, (b13_0 0 z1 (nI z2) (nI z3) z4 z5 z6 z7 z8 z9 (nI z10) z11 z12 z13 z14 z15 (nI z16) z17 z18 z19))] ++ va_pl L M) H_196 := hP
                        have hD : va_D A ([(za, (b13_0 0 z1 (nI z2) (nI z3) z4 z5 z6 z7 z8 z9 (nI z10) z11 z12 z13 z14 z15 (nI z16) z17 z18 z19))] ++ va_pl L M) := hD
                        rcases hp_199 with ⟨rfl, c_200, c_201, c_202⟩ | ⟨rfl, c_203⟩
                        · have hz := rfl (a := 0)
                          refine lv_if_ne (tgt := 147) hx hb dX13_term_138 (by decide) (fun _ => ?_) (fun c_204 => absurd c_204 (by decide))
                          refine lv_iload_n hx hb dX13_term_147 rfl (lv_at hl 6 rfl) ?_
                          refine lv_iconst (v := 4) hx hb dX13_term_148 (by decide) ?_
                          refine lv_icmp_ne (tgt := 175) hx hb dX13_term_149 (by decide) (fun c_205 => ?_) (fun c_205 => absurd c_205 c_28)
                          refine lv_aload hx hb dX13_term_175 (lv_at hl 1 rfl) ?_
                          refine lv_iload hx hb dX13_term_177 (lv_at hl 0 rfl) ?_
                          refine lv_iload_n hx hb dX13_term_179 rfl (lv_at hl 6 rfl) ?_
                          refine lv_iload_n hx hb dX13_term_180 rfl (lv_at hl 5 rfl) ?_
                          obtain ⟨j_206, hj_207, rfl⟩ := i32nat 4 (by decide) c_140 (neLe c_155 c_205)
                          obtain ⟨j_208, hj_209, rfl⟩ := i32nat 6 (by decide) c_126 (Int32.not_le.mpr c_136)
                          have hPc : va_P D vwCl ([] ++ va_pl L M) H_196 := hP.part (cx := []) [] rfl
                          have hDc : va_D A ([] ++ va_pl L M) := hD.part (cx := []) [] (by decide) rfl
                          have hFc : ∀ q, va_A ([] ++ va_pl L M) H_196.size q → A q := pg_free hDc hS hA
                          refine va_calli (va_runV (As := [.int (nI (v17 - 1)), .int (nI j_206), .int (nI j_208)]) (rest := []) ⟨hx, hb, hml, hown, hg⟩ (f_term l D cy K L M H_196.size b13 (v17 - 1) j_206 j_208  hW hb_15 (by omega) (by omega) (by omega)) (cwV 3 hg (gV wd_770 wd_771 wd_772 wd_737 wd_773) rfl rfl rfl (by decide +kernel) ⟨(Nat.le_trans (Nat.le_of_ble_eq_true rfl) hRf), (Nat.le_trans (Nat.le_of_ble_eq_true rfl) hRl)⟩) ⟨PG.blind, pg_recv hK hP hb_15.1 hM16 rfl, fun U hU hW => ⟨rfl, PG.at hPc hK hDc hN hU hW⟩⟩ rfl rfl hl.1 rfl (lv_room (Nat.le_of_ble_eq_true rfl)) dX13_term_181 ⟨(Nat.le_trans (Nat.le_of_ble_eq_true rfl) hRc), (Nat.le_trans (Nat.le_of_ble_eq_true rfl) hRs)⟩) hS (fun q _ h => hFc q h) hFc (fun r_211 M_212 t H_210 locs ht hvm hw hB hz1 hk1 hS => ?_)
                          have hp_213 := hw
                          obtain ⟨hP1, hD1⟩ := hB
                          rw [ht] at hP1
                          obtain ⟨hP, hD⟩ := va_joinP (X := [(za, (b13_0 0 z1 (nI z2) (nI z3) z4 z5 z6 z7 z8 z9 (nI z10) z11 z12 z13 z14 z15 (nI z16) z17 z18 z19))]) (cx := []) (wr := [(za, (b13_0 0 z1 (nI z2) (nI z3) z4 z5 z6 z7 z8 z9 (nI z10) z11 z12 z13 z14 z15 (nI z16) z17 z18 z19))]) (rx := []) (pl := va_pl L M) (pl1 := va_pl L M) hP hD [] [0] rfl rfl (by decide) (by decide) hk1 hFc hP1 hD1
                          have hP : va_P D vwCl ([(za, (b13_0 0 z1 (nI z2) (nI z3) z4 z5 z6 z7 z8 z9 (nI z10) z11 z12 z13 z14 z15 (nI z16) z17 z18 z19))] ++ va_pl L M) H_210 := hP
                          have hD : va_D A ([(za, (b13_0 0 z1 (nI z2) (nI z3) z4 z5 z6 z7 z8 z9 (nI z10) z11 z12 z13 z14 z15 (nI z16) z17 z18 z19))] ++ va_pl L M) := hD
                          obtain rfl := hp_213
                          refine lv_istore (lv' := [(8, .int (ax M b13 36 ((4 * (v17 - 1) + j_206) * 6 + j_208))), (7, .int (nI (v17 - 1))), (6, .ref b13), (5, .int 1000), (0, .ref za), (1, .int k1), (2, .int (nI j_208)), (3, .int (nI j_206)), (4, .int k4)]) hx hb dX13_term_184 hl (by decide) rfl (fun ls hl => ?_)
                          refine lv_aload hx hb dX13_term_186 (lv_at hl 2 rfl) ?_
                          obtain ⟨v214, hv214, hc214⟩ : ∃ v : Nat, fs16[36]? = some (.ref v : Value) ∧ isk K L v 78 384 := hl16 36 (by decide)
                          refine pg_getN (D := D) (ci := 12) (v := .ref v214) (C := RX12) (T := TX12) (N := 51) hx hb hg inG12 hown hK hP hb_15.1 hM16 rfl 36 (by decide) (hN.use (Cond.fieldLinkNest RX13 148 RX12 "term" "[I" RX13) 45 rfl rfl) (fun _ h9 => h9) hv214 dX13_term_188 ?_
                          refine lv_iconst (v := 4) hx hb dX13_term_191 (by decide) ?_
                          refine lv_iload hx hb dX13_term_192 (lv_at hl 1 rfl) ?_
                          refine lv_imul hx hb dX13_term_194 ?_
                          refine lv_topi (fun f_215 ef_215 => ?_)
                          obtain rfl : f_215 = (nI (4 * (v17 - 1))) := ef_215.trans (nI_mul 4 (v17 - 1))
                          refine lv_iload_n hx hb dX13_term_195 rfl (lv_at hl 7 rfl) ?_
                          refine lv_iadd hx hb dX13_term_196 ?_
                          refine lv_topi (fun f_216 ef_216 => ?_)
                          obtain rfl : f_216 = (nI ((4 * (v17 - 1)) + j_206)) := ef_216.trans (nI_add (4 * (v17 - 1)) j_206)
                          refine lv_bipush (v := 6) hx hb dX13_term_197 (by decide) ?_
                          refine lv_imul hx hb dX13_term_199 ?_
                          refine lv_topi (fun f_217 ef_217 => ?_)
                          obtain rfl : f_217 = (nI (((4 * (v17 - 1)) + j_206) * 6)) := ef_217.trans (nI_mul ((4 * (v17 - 1)) + j_206) 6)
                          refine lv_iload_n hx hb dX13_term_200 rfl (lv_at hl 6 rfl) ?_
                          refine lv_iadd hx hb dX13_term_201 ?_
                          refine lv_topi (fun f_218 ef_218 => ?_)
                          obtain rfl : f_218 = (nI ((((4 * (v17 - 1)) + j_206) * 6) + j_208)) := ef_218.trans (nI_add (((4 * (v17 - 1)) + j_206) * 6) j_208)
                          refine lv_iload hx hb dX13_term_202 (lv_at hl 8 rfl) ?_
                          obtain ⟨f219, hM219⟩ := hW.open_78 hc214
                          refine pg_iast hx hb hK hP hD hS hc214.1 0 hM219 rfl (inbN ((((4 * (v17 - 1)) + j_206) * 6) + j_208) 384 (by omega) (by omega)) dX13_term_204 (fun H_220 locs hP hD hS => ?_)
                          obtain ⟨M_221, eM_221⟩ : ∃ M1 : Hp, M1 = va_up M v214 (.inl (cy 14, 384, .inl (upd f219 ((nI ((((4 * (v17 - 1)) + j_206) * 6) + j_208)) : Int32).toNatClampNeg k4))) := ⟨_, rfl⟩
                          have hy36 : (ax M b13 36) = f219 := (congrFun hV.2.2.1 36).symm.trans (ax_of hM16 (by decide) hv214 hM219)
                          have hV : VW K L M M_221 b13 (fx M b13) (va_up (ax M b13) 36 (upd (ax M b13 36) ((nI ((((4 * (v17 - 1)) + j_206) * 6) + j_208)) : Int32).toNatClampNeg k4)) := by rw [eM_221]; exact hV.ast (j := 36) hW hb_15 hM16 (by decide) hv214 hc214 hM219
                          have hP : va_P D vwCl ([(za, (b13_0 0 z1 (nI z2) (nI z3) z4 z5 z6 z7 z8 z9 (nI z10) z11 z12 z13 z14 z15 (nI z16) z17 z18 z19))] ++ va_pl L M_221) H_220 := by rw [eM_221]; exact hP
                          have hD : va_D A ([(za, (b13_0 0 z1 (nI z2) (nI z3) z4 z5 z6 z7 z8 z9 (nI z10) z11 z12 z13 z14 z15 (nI z16) z17 z18 z19))] ++ va_pl L M_221) := by rw [eM_221]; exact hD
                          have hW : WOM cy K L M_221 := by rw [eM_221]; exact hW.up_78 hc214 ⟨_, rfl⟩
                          have hF : fr K L [77, 78] M M_221 := by rw [eM_221]; exact hF.up hc214 (by decide)
                          have hG : fG K L [] M M_221 := by rw [eM_221]; exact hG.arr hc214 (by decide)
                          have hM_222 : M_221 v214 = .inl (cy 14, 384, .inl (upd f219 ((nI ((((4 * (v17 - 1)) + j_206) * 6) + j_208)) : Int32).toNatClampNeg k4)) := by rw [eM_221]; exact va_up_self _ _ _
                          have hM_223 : M_221 z1 = .inl (cy 23, 8, .inr (.inr (.inr (.inr (f11))))) := by rw [eM_221, va_up_ne _ _ (i1.neT hc214 (by decide))]; exact hM11
                          have hM_224 : M_221 b13 = .inr (12, fs16) := by rw [eM_221, va_up_ne _ _ (hb_15.neT hc214 (by decide))]; exact hM16
                          have hM_225 : M_221 v193 = .inl (cy 14, 16, .inl (f194)) := by rw [eM_221, va_up_ne _ _ (hc193.neT hc214 (by decide))]; exact hM194
                          obtain ⟨f_226, ef_226⟩ : ∃ f : Nat → Int32, f = upd f219 ((nI ((((4 * (v17 - 1)) + j_206) * 6) + j_208)) : Int32).toNatClampNeg k4 := ⟨_, rfl⟩
                          rw [← ef_226] at hM_222
                          refine lv_aload_n hx hb dX13_term_205 rfl (lv_at hl 4 rfl) ?_
                          refine lv_iload hx hb dX13_term_206 (lv_at hl 0 rfl) ?_
                          have hPc := hP.sub (ws' := [(za, (b13_0 0 z1 (nI z2) (nI z3) z4 z5 z6 z7 z8 z9 (nI z10) z11 z12 z13 z14 z15 (nI z16) z17 z18 z19))]) [0] rfl
                          have hDc := hD.sub (ws' := [(za, (b13_0 0 z1 (nI z2) (nI z3) z4 z5 z6 z7 z8 z9 (nI z10) z11 z12 z13 z14 z15 (nI z16) z17 z18 z19))]) [0] (by decide) rfl
                          have hKc := hK.sub (tys' := []) [] rfl
                          have hFc := va_free (wc := [(za, (b13_0 0 z1 (nI z2) (nI z3) z4 z5 z6 z7 z8 z9 (nI z10) z11 z12 z13 z14 z15 (nI z16) z17 z18 z19))]) hD hS hA [0] rfl
                          refine va_calli (va_runV (As := [.int (ax M b13 36 ((4 * (v17 - 1) + j_206) * 6 + j_208))]) (rest := []) ⟨hx, hb, hml, hown, hg⟩ (m_done l D H_220.size za 0 z1 (nI z2) (nI z3) z4 z5 z6 z7 z8 z9 (nI z10) z11 z12 z13 z14 z15 (nI z16) z17 z18 z19 (ax M b13 36 ((4 * (v17 - 1) + j_206) * 6 + j_208))) (cwV 1 hg (gV wd_730 wd_731 wd_732 wd_717 wd_733) rfl rfl rfl (by decide +kernel) ⟨(Nat.le_trans (Nat.le_of_ble_eq_true rfl) hRf), (Nat.le_trans (Nat.le_of_ble_eq_true rfl) hRl)⟩) ⟨Pr.blind, va_recv hK hP (ci := 13) (q0 := 0) rfl rfl, fun U hU hW => ⟨rfl, Pr.at hPc hKc hDc hN hU hW⟩⟩ rfl rfl hl.1 rfl (lv_room (Nat.le_of_ble_eq_true rfl)) dX13_term_208 ⟨(Nat.le_trans (Nat.le_of_ble_eq_true rfl) hRc), (Nat.le_trans (Nat.le_of_ble_eq_true rfl) hRs)⟩) hS (fun q _ h => hFc q h) hFc (fun r_228 M_229 t H_227 locs ht hvm hw hB hz1 hk1 hS => ?_)
                          have hp_230 := hw
                          obtain ⟨hP1, hK1, hD1⟩ := hB
                          rw [ht] at hP1
                          obtain ⟨hP, hD⟩ := va_joinQ (X := [(za, (b13_0 0 z1 (nI z2) (nI z3) z4 z5 z6 z7 z8 z9 (nI z10) z11 z12 z13 z14 z15 (nI z16) z17 z18 z19))]) (cx := [(za, (b13_0 0 z1 (nI z2) (nI z3) z4 z5 z6 z7 z8 z9 (nI z10) z11 z12 z13 z14 z15 (nI z16) z17 z18 z19))]) (wr := []) (w1 := [(za, (b13_0 0 z1 (nI z2) (nI z3) 0 (-1) z6 z7 z8 z9 (nI z10) z11 z12 z13 z14 z15 (nI z16) z17 z18 z19))]) (pl := va_pl L M_221) hP hD [0] [] rfl rfl (by decide) (by decide) hk1 hFc hP1 hD1
                          have hP : va_P D vwCl ([(za, (b13_0 0 z1 (nI z2) (nI z3) 0 (-1) z6 z7 z8 z9 (nI z10) z11 z12 z13 z14 z15 (nI z16) z17 z18 z19))] ++ va_pl L M_221) H_227 := hP
                          have hD : va_D A ([(za, (b13_0 0 z1 (nI z2) (nI z3) 0 (-1) z6 z7 z8 z9 (nI z10) z11 z12 z13 z14 z15 (nI z16) z17 z18 z19))] ++ va_pl L M_221) := hD
                          have hq := Eq.symm hp_230
                          subst hq
                          have hI_231 : (0 : Int) ≤ (k1 : Int32).toInt := inltI rfl rfl c_7
                          have hI_232 : (k1 : Int32).toInt < ((z2 : Nat) : Int) := inleI (nI_toInt (by omega)) rfl c_8
                          have hI_233 : ((v17 : Nat) : Int) ≠ (0 : Int) := ineI (nI_toInt (by omega)) rfl c_18
                          have hI_234 : ((j_206 : Nat) : Int) ≠ (4 : Int) := ineI (nI_toInt (by omega)) rfl c_28
                          have hI_235 : (0 : Int) ≤ ((j_208 : Nat) : Int) := inltI (nI_toInt (by omega)) rfl c_126
                          have hI_236 : ((j_208 : Nat) : Int) < (6 : Int) := iltI (nI_toInt (by omega)) rfl c_136
                          have hI_237 : ((j_206 : Nat) : Int) ≠ (0 : Int) := ineI (nI_toInt (by omega)) rfl c_137
                          have hI_238 : ((j_206 : Nat) : Int) ≠ (1 : Int) := ineI (nI_toInt (by omega)) rfl c_138
                          have hI_239 : ((j_206 : Nat) : Int) ≠ (4 : Int) := ineI (nI_toInt (by omega)) rfl c_139
                          have hI_240 : (0 : Int) ≤ ((j_206 : Nat) : Int) := inltI (nI_toInt (by omega)) rfl c_140
                          have hI_241 : ((j_206 : Nat) : Int) ≤ (4 : Int) := inltI rfl (nI_toInt (by omega)) c_155
                          have hI_242 : (0 : Int) ≤ (k4 : Int32).toInt := inltI rfl rfl c_173
                          have hI_243 : (k4 : Int32).toInt ≤ (1000 : Int) := ileI rfl rfl c_190
                          have hI_244 : (0 : Int) ≤ (f_195 : Int32).toInt := inltI rfl rfl c_201
                          have hI_245 : (f_195 : Int32).toInt < (1000 : Int) := inleI rfl rfl c_202
                          have hI_246 : ((j_206 : Nat) : Int) ≠ (4 : Int) := ineI (nI_toInt (by omega)) rfl c_205
                          have hn92 : ((nI j_208) : Int32).toInt = ((j_208 : Nat) : Int) := nI_toInt (by omega)
                          have hn93 : ((nI j_206) : Int32).toInt = ((j_206 : Nat) : Int) := nI_toInt (by omega)
                          have hmo : mostI (nI j_206) = (1000 : Int) := by unfold mostI; (repeat' split) <;> omega
                          have hyes : okTm z2 SX SY k1 (nI j_208) (nI j_206) k4 := by unfold okTm okH; refine ⟨⟨?_, ?_⟩, ?_, ?_, ?_, ?_, ?_, ?_, ?_, ?_⟩ <;> first | omega | assumption
                          have hA9 : HA (ax M b13 2) (ax M b13 3) := hAT.1
                          have hB9 : HB (fx M b13 16) (fx M b13 14) (ax M b13 3) (ax M b13 43) := hAT.2.1
                          have hC9 : HC (fx M b13 10) (ax M b13 22) (ax M b13 23) := hAT.2.2.1
                          have hD9 : HD (fx M b13 0) (fx M b13 11) (fx M b13 15) (ax M b13 34) (ax M b13 41) := hAT.2.2.2.1
                          have hE9 : HE (fx M b13 0) (fx M b13 1) (fx M b13 12) (fx M b13 13) (ax M b13 37) := hAT.2.2.2.2
                          have hH9 : HI (fx M b13) (va_up (ax M b13) 36 (upd (ax M b13 36) ((nI ((((4 * (v17 - 1)) + j_206) * 6) + j_208)) : Int32).toNatClampNeg k4)) := ⟨hA9, hB9, hC9, hD9, hE9⟩
                          have hGI9 : GI K L z1 z2 M_221 := GI.fin hW0 i1 b2 hGI hact hV (hF.at i1 (by decide)) hH9
                          rw [hQ]
                          exact W.iret (v := (ax M b13 36 ((4 * (v17 - 1) + j_206) * 6 + j_208))) hx hb hr (fun t ht hW9 => ⟨⟨(ax M b13 36 ((4 * (v17 - 1) + j_206) * 6 + j_208)), M_221, rfl, ⟨hW, hF, hG, ⟨hGI9, (by unfold syTm; rw [if_pos hyes, if_neg (by omega), hi11, nI_cl (t := j_206) (by omega), nI_cl (t := j_208) (by omega), show 24 * (v17 - 1) + (6 * j_206 + j_208) = (4 * (v17 - 1) + j_206) * 6 + j_208 by omega]; have hQ9 := ZSx.fin hW0 i1 b2 hZS hGI.1 hkn hb9 hV (hF.at i1 (by decide)) hZk.1 (by rw [hZk.2, nI_cl (by omega)]); rw [va_upJ] at hQ9; exact hQ9)⟩, (by unfold anTm; rw [if_pos hyes, if_neg (by omega), hi11, nI_cl (t := j_206) (by omega), nI_cl (t := j_208) (by omega), ← hZk.2]; congr 1; omega)⟩, ⟨0, by rw [ht]; exact hP, hD⟩⟩, hS.F ht⟩) hS.2.2 dX13_term_211
                        · have hz := rfl (a := 0)
                          refine lv_if_ne (tgt := 147) hx hb dX13_term_138 (by decide) (fun c_247 => absurd c_247 (by decide)) (fun _ => ?_)
                          refine lv_aload_n hx hb dX13_term_141 rfl (lv_at hl 3 rfl) ?_
                          refine lv_iconst (v := 3) hx hb dX13_term_142 (by decide) ?_
                          have hPc := hP.sub (ws' := [(za, (b13_0 0 z1 (nI z2) (nI z3) z4 z5 z6 z7 z8 z9 (nI z10) z11 z12 z13 z14 z15 (nI z16) z17 z18 z19))]) [0] rfl
                          have hDc := hD.sub (ws' := [(za, (b13_0 0 z1 (nI z2) (nI z3) z4 z5 z6 z7 z8 z9 (nI z10) z11 z12 z13 z14 z15 (nI z16) z17 z18 z19))]) [0] (by decide) rfl
                          have hKc := hK.sub (tys' := []) [] rfl
                          have hFc := va_free (wc := [(za, (b13_0 0 z1 (nI z2) (nI z3) z4 z5 z6 z7 z8 z9 (nI z10) z11 z12 z13 z14 z15 (nI z16) z17 z18 z19))]) hD hS hA [0] rfl
                          refine va_calli (va_runV (As := [.int 3]) (rest := []) ⟨hx, hb, hml, hown, hg⟩ (m_refused l D H_196.size za 0 z1 (nI z2) (nI z3) z4 z5 z6 z7 z8 z9 (nI z10) z11 z12 z13 z14 z15 (nI z16) z17 z18 z19 3) (cwV 1 hg (gV wd_725 wd_726 wd_727 wd_717 wd_728) rfl rfl rfl (by decide +kernel) ⟨(Nat.le_trans (Nat.le_of_ble_eq_true rfl) hRf), (Nat.le_trans (Nat.le_of_ble_eq_true rfl) hRl)⟩) ⟨Pr.blind, va_recv hK hP (ci := 13) (q0 := 0) rfl rfl, fun U hU hW => ⟨rfl, Pr.at hPc hKc hDc hN hU hW⟩⟩ rfl rfl hl.1 rfl (lv_room (Nat.le_of_ble_eq_true rfl)) dX13_term_143 ⟨(Nat.le_trans (Nat.le_of_ble_eq_true rfl) hRc), (Nat.le_trans (Nat.le_of_ble_eq_true rfl) hRs)⟩) hS (fun q _ h => hFc q h) hFc (fun r_249 M_250 t H_248 locs ht hvm hw hB hz1 hk1 hS => ?_)
                          have hp_251 := hw
                          obtain ⟨hP1, hK1, hD1⟩ := hB
                          rw [ht] at hP1
                          obtain ⟨hP, hD⟩ := va_joinQ (X := [(za, (b13_0 0 z1 (nI z2) (nI z3) z4 z5 z6 z7 z8 z9 (nI z10) z11 z12 z13 z14 z15 (nI z16) z17 z18 z19))]) (cx := [(za, (b13_0 0 z1 (nI z2) (nI z3) z4 z5 z6 z7 z8 z9 (nI z10) z11 z12 z13 z14 z15 (nI z16) z17 z18 z19))]) (wr := []) (w1 := [(za, (b13_0 0 z1 (nI z2) (nI z3) 3 (-1) z6 z7 z8 z9 (nI z10) z11 z12 z13 z14 z15 (nI z16) z17 z18 z19))]) (pl := va_pl L M) hP hD [0] [] rfl rfl (by decide) (by decide) hk1 hFc hP1 hD1
                          have hP : va_P D vwCl ([(za, (b13_0 0 z1 (nI z2) (nI z3) 3 (-1) z6 z7 z8 z9 (nI z10) z11 z12 z13 z14 z15 (nI z16) z17 z18 z19))] ++ va_pl L M) H_248 := hP
                          have hD : va_D A ([(za, (b13_0 0 z1 (nI z2) (nI z3) 3 (-1) z6 z7 z8 z9 (nI z10) z11 z12 z13 z14 z15 (nI z16) z17 z18 z19))] ++ va_pl L M) := hD
                          have hq := Eq.symm hp_251
                          subst hq
                          have hI_252 : (0 : Int) ≤ (k1 : Int32).toInt := inltI rfl rfl c_7
                          have hI_253 : (k1 : Int32).toInt < ((z2 : Nat) : Int) := inleI (nI_toInt (by omega)) rfl c_8
                          have hI_254 : ((v17 : Nat) : Int) ≠ (0 : Int) := ineI (nI_toInt (by omega)) rfl c_18
                          have hI_255 : (k3 : Int32).toInt ≠ (4 : Int) := ineI rfl rfl c_28
                          have hI_256 : (0 : Int) ≤ (k2 : Int32).toInt := inltI rfl rfl c_126
                          have hI_257 : (k2 : Int32).toInt < (6 : Int) := iltI rfl rfl c_136
                          have hI_258 : (k3 : Int32).toInt ≠ (0 : Int) := ineI rfl rfl c_137
                          have hI_259 : (k3 : Int32).toInt ≠ (1 : Int) := ineI rfl rfl c_138
                          have hI_260 : (k3 : Int32).toInt ≠ (4 : Int) := ineI rfl rfl c_139
                          have hI_261 : (0 : Int) ≤ (k3 : Int32).toInt := inltI rfl rfl c_140
                          have hI_262 : (k3 : Int32).toInt ≤ (4 : Int) := inltI rfl rfl c_155
                          have hI_263 : (0 : Int) ≤ (k4 : Int32).toInt := inltI rfl rfl c_173
                          have hI_264 : (k4 : Int32).toInt ≤ (1000 : Int) := ileI rfl rfl c_190
                          have hmo : mostI k3 = (1000 : Int) := by unfold mostI; (repeat' split) <;> omega
                          have hno : ¬ okTm z2 SX SY k1 k2 k3 k4 := fun q9 => by unfold okTm okH at q9; first | omega | (obtain ⟨⟨_, _⟩, _, _, _, _, _, _, _, _⟩ := q9; first | omega | contradiction)
                          rw [hQ]
                          exact W.iret (v := (-1)) hx hb hr (fun t ht hW9 => ⟨⟨(-1), M, rfl, ⟨hW, hF, hG, ⟨hGI, (by unfold syTm; rw [if_neg hno]; exact hZS)⟩, (by unfold anTm; rw [if_neg hno])⟩, ⟨3, by rw [ht]; exact hP, hD⟩⟩, hS.F ht⟩) hS.2.2 dX13_term_146
                      · have hz := rfl (a := 0)
                        have n_265 : ¬ k4 < 0 := gtN (c := 1000) (by omega) (Int32.not_le.mp c_190)
                        refine lv_aload_n hx hb dX13_term_102 rfl (lv_at hl 1 rfl) ?_
                        refine lv_iconst (v := 2) hx hb dX13_term_103 (by decide) ?_
                        have hPc := hP.sub (ws' := [(za, (b13_0 0 z1 (nI z2) (nI z3) z4 z5 z6 z7 z8 z9 (nI z10) z11 z12 z13 z14 z15 (nI z16) z17 z18 z19))]) [0] rfl
                        have hDc := hD.sub (ws' := [(za, (b13_0 0 z1 (nI z2) (nI z3) z4 z5 z6 z7 z8 z9 (nI z10) z11 z12 z13 z14 z15 (nI z16) z17 z18 z19))]) [0] (by decide) rfl
                        have hKc := hK.sub (tys' := []) [] rfl
                        have hFc := va_free (wc := [(za, (b13_0 0 z1 (nI z2) (nI z3) z4 z5 z6 z7 z8 z9 (nI z10) z11 z12 z13 z14 z15 (nI z16) z17 z18 z19))]) hD hS hA [0] rfl
                        refine va_calli (va_runV (As := [.int 2]) (rest := []) ⟨hx, hb, hml, hown, hg⟩ (m_refused l D H_2.size za 0 z1 (nI z2) (nI z3) z4 z5 z6 z7 z8 z9 (nI z10) z11 z12 z13 z14 z15 (nI z16) z17 z18 z19 2) (cwV 1 hg (gV wd_725 wd_726 wd_727 wd_717 wd_728) rfl rfl rfl (by decide +kernel) ⟨(Nat.le_trans (Nat.le_of_ble_eq_true rfl) hRf), (Nat.le_trans (Nat.le_of_ble_eq_true rfl) hRl)⟩) ⟨Pr.blind, va_recv hK hP (ci := 13) (q0 := 0) rfl rfl, fun U hU hW => ⟨rfl, Pr.at hPc hKc hDc hN hU hW⟩⟩ rfl rfl hl.1 rfl (lv_room (Nat.le_of_ble_eq_true rfl)) dX13_term_104 ⟨(Nat.le_trans (Nat.le_of_ble_eq_true rfl) hRc), (Nat.le_trans (Nat.le_of_ble_eq_true rfl) hRs)⟩) hS (fun q _ h => hFc q h) hFc (fun r_267 M_268 t H_266 locs ht hvm hw hB hz1 hk1 hS => ?_)
                        have hp_269 := hw
                        obtain ⟨hP1, hK1, hD1⟩ := hB
                        rw [ht] at hP1
                        obtain ⟨hP, hD⟩ := va_joinQ (X := [(za, (b13_0 0 z1 (nI z2) (nI z3) z4 z5 z6 z7 z8 z9 (nI z10) z11 z12 z13 z14 z15 (nI z16) z17 z18 z19))]) (cx := [(za, (b13_0 0 z1 (nI z2) (nI z3) z4 z5 z6 z7 z8 z9 (nI z10) z11 z12 z13 z14 z15 (nI z16) z17 z18 z19))]) (wr := []) (w1 := [(za, (b13_0 0 z1 (nI z2) (nI z3) 2 (-1) z6 z7 z8 z9 (nI z10) z11 z12 z13 z14 z15 (nI z16) z17 z18 z19))]) (pl := va_pl L M) hP hD [0] [] rfl rfl (by decide) (by decide) hk1 hFc hP1 hD1
                        have hP : va_P D vwCl ([(za, (b13_0 0 z1 (nI z2) (nI z3) 2 (-1) z6 z7 z8 z9 (nI z10) z11 z12 z13 z14 z15 (nI z16) z17 z18 z19))] ++ va_pl L M) H_266 := hP
                        have hD : va_D A ([(za, (b13_0 0 z1 (nI z2) (nI z3) 2 (-1) z6 z7 z8 z9 (nI z10) z11 z12 z13 z14 z15 (nI z16) z17 z18 z19))] ++ va_pl L M) := hD
                        have hq := Eq.symm hp_269
                        subst hq
                        have hI_270 : (0 : Int) ≤ (k1 : Int32).toInt := inltI rfl rfl c_7
                        have hI_271 : (k1 : Int32).toInt < ((z2 : Nat) : Int) := inleI (nI_toInt (by omega)) rfl c_8
                        have hI_272 : ((v17 : Nat) : Int) ≠ (0 : Int) := ineI (nI_toInt (by omega)) rfl c_18
                        have hI_273 : (k3 : Int32).toInt ≠ (4 : Int) := ineI rfl rfl c_28
                        have hI_274 : (0 : Int) ≤ (k2 : Int32).toInt := inltI rfl rfl c_126
                        have hI_275 : (k2 : Int32).toInt < (6 : Int) := iltI rfl rfl c_136
                        have hI_276 : (k3 : Int32).toInt ≠ (0 : Int) := ineI rfl rfl c_137
                        have hI_277 : (k3 : Int32).toInt ≠ (1 : Int) := ineI rfl rfl c_138
                        have hI_278 : (k3 : Int32).toInt ≠ (4 : Int) := ineI rfl rfl c_139
                        have hI_279 : (0 : Int) ≤ (k3 : Int32).toInt := inltI rfl rfl c_140
                        have hI_280 : (k3 : Int32).toInt ≤ (4 : Int) := inltI rfl rfl c_155
                        have hI_281 : (0 : Int) ≤ (k4 : Int32).toInt := inltI rfl rfl c_173
                        have hI_282 : (1000 : Int) < (k4 : Int32).toInt := inleI rfl rfl c_190
                        have hI_283 : (0 : Int) ≤ (k4 : Int32).toInt := inltI rfl rfl n_265
                        have hmo : mostI k3 = (1000 : Int) := by unfold mostI; (repeat' split) <;> omega
                        have hno : ¬ okTm z2 SX SY k1 k2 k3 k4 := fun q9 => by unfold okTm okH at q9; first | omega | (obtain ⟨⟨_, _⟩, _, _, _, _, _, _, _, _⟩ := q9; first | omega | contradiction)
                        rw [hQ]
                        exact W.iret (v := (-1)) hx hb hr (fun t ht hW9 => ⟨⟨(-1), M, rfl, ⟨hW, hF, hG, ⟨hGI, (by unfold syTm; rw [if_neg hno]; exact hZS)⟩, (by unfold anTm; rw [if_neg hno])⟩, ⟨2, by rw [ht]; exact hP, hD⟩⟩, hS.F ht⟩) hS.2.2 dX13_term_107
              · have hz := rfl (a := 0)
                refine lv_ldc (v := 1000000000) hx hb hown (hg _ wd_712) dX13_term_60 ?_
                refine lv_goto (tgt := 79) hx hb dX13_term_62 (by decide) ?_
                refine lv_istore (lv' := [(5, .int 1000000000), (0, .ref za), (1, .int k1), (2, .int k2), (3, .int k3), (4, .int k4)]) hx hb dX13_term_79 hl (by decide) rfl (fun ls hl => ?_)
                refine lv_iload_n hx hb dX13_term_81 rfl (lv_at hl 4 rfl) ?_
                refine lv_if_lt (tgt := 102) hx hb dX13_term_82 (by decide) (fun c_284 => absurd c_284 (by rw [c_138]; decide)) (fun c_284 => ?_)
                refine lv_iload_n hx hb dX13_term_85 rfl (lv_at hl 4 rfl) ?_
                refine lv_iconst (v := 4) hx hb dX13_term_86 (by decide) ?_
                refine lv_icmp_gt (tgt := 102) hx hb dX13_term_87 (by decide) (fun c_285 => absurd c_285 (by rw [c_138]; decide)) (fun c_285 => ?_)
                refine lv_iload hx hb dX13_term_90 (lv_at hl 5 rfl) ?_
                refine lv_if_lt (tgt := 102) hx hb dX13_term_92 (by decide) (fun c_286 => ?_) (fun c_286 => ?_)
                · have hz := rfl (a := 0)
                  refine lv_aload_n hx hb dX13_term_102 rfl (lv_at hl 1 rfl) ?_
                  refine lv_iconst (v := 2) hx hb dX13_term_103 (by decide) ?_
                  have hPc := hP.sub (ws' := [(za, (b13_0 0 z1 (nI z2) (nI z3) z4 z5 z6 z7 z8 z9 (nI z10) z11 z12 z13 z14 z15 (nI z16) z17 z18 z19))]) [0] rfl
                  have hDc := hD.sub (ws' := [(za, (b13_0 0 z1 (nI z2) (nI z3) z4 z5 z6 z7 z8 z9 (nI z10) z11 z12 z13 z14 z15 (nI z16) z17 z18 z19))]) [0] (by decide) rfl
                  have hKc := hK.sub (tys' := []) [] rfl
                  have hFc := va_free (wc := [(za, (b13_0 0 z1 (nI z2) (nI z3) z4 z5 z6 z7 z8 z9 (nI z10) z11 z12 z13 z14 z15 (nI z16) z17 z18 z19))]) hD hS hA [0] rfl
                  refine va_calli (va_runV (As := [.int 2]) (rest := []) ⟨hx, hb, hml, hown, hg⟩ (m_refused l D H_2.size za 0 z1 (nI z2) (nI z3) z4 z5 z6 z7 z8 z9 (nI z10) z11 z12 z13 z14 z15 (nI z16) z17 z18 z19 2) (cwV 1 hg (gV wd_725 wd_726 wd_727 wd_717 wd_728) rfl rfl rfl (by decide +kernel) ⟨(Nat.le_trans (Nat.le_of_ble_eq_true rfl) hRf), (Nat.le_trans (Nat.le_of_ble_eq_true rfl) hRl)⟩) ⟨Pr.blind, va_recv hK hP (ci := 13) (q0 := 0) rfl rfl, fun U hU hW => ⟨rfl, Pr.at hPc hKc hDc hN hU hW⟩⟩ rfl rfl hl.1 rfl (lv_room (Nat.le_of_ble_eq_true rfl)) dX13_term_104 ⟨(Nat.le_trans (Nat.le_of_ble_eq_true rfl) hRc), (Nat.le_trans (Nat.le_of_ble_eq_true rfl) hRs)⟩) hS (fun q _ h => hFc q h) hFc (fun r_288 M_289 t H_287 locs ht hvm hw hB hz1 hk1 hS => ?_)
                  have hp_290 := hw
                  obtain ⟨hP1, hK1, hD1⟩ := hB
                  rw [ht] at hP1
                  obtain ⟨hP, hD⟩ := va_joinQ (X := [(za, (b13_0 0 z1 (nI z2) (nI z3) z4 z5 z6 z7 z8 z9 (nI z10) z11 z12 z13 z14 z15 (nI z16) z17 z18 z19))]) (cx := [(za, (b13_0 0 z1 (nI z2) (nI z3) z4 z5 z6 z7 z8 z9 (nI z10) z11 z12 z13 z14 z15 (nI z16) z17 z18 z19))]) (wr := []) (w1 := [(za, (b13_0 0 z1 (nI z2) (nI z3) 2 (-1) z6 z7 z8 z9 (nI z10) z11 z12 z13 z14 z15 (nI z16) z17 z18 z19))]) (pl := va_pl L M) hP hD [0] [] rfl rfl (by decide) (by decide) hk1 hFc hP1 hD1
                  have hP : va_P D vwCl ([(za, (b13_0 0 z1 (nI z2) (nI z3) 2 (-1) z6 z7 z8 z9 (nI z10) z11 z12 z13 z14 z15 (nI z16) z17 z18 z19))] ++ va_pl L M) H_287 := hP
                  have hD : va_D A ([(za, (b13_0 0 z1 (nI z2) (nI z3) 2 (-1) z6 z7 z8 z9 (nI z10) z11 z12 z13 z14 z15 (nI z16) z17 z18 z19))] ++ va_pl L M) := hD
                  have hq := Eq.symm hp_290
                  subst hq
                  have hI_291 : (0 : Int) ≤ (k1 : Int32).toInt := inltI rfl rfl c_7
                  have hI_292 : (k1 : Int32).toInt < ((z2 : Nat) : Int) := inleI (nI_toInt (by omega)) rfl c_8
                  have hI_293 : ((v17 : Nat) : Int) ≠ (0 : Int) := ineI (nI_toInt (by omega)) rfl c_18
                  have hI_294 : (k3 : Int32).toInt ≠ (4 : Int) := ineI rfl rfl c_28
                  have hI_295 : (0 : Int) ≤ (k2 : Int32).toInt := inltI rfl rfl c_126
                  have hI_296 : (k2 : Int32).toInt < (6 : Int) := iltI rfl rfl c_136
                  have hI_297 : (k3 : Int32).toInt ≠ (0 : Int) := ineI rfl rfl c_137
                  have hI_298 : (k3 : Int32).toInt = (1 : Int) := ieqI rfl rfl c_138
                  have hI_299 : (0 : Int) ≤ (k3 : Int32).toInt := inltI rfl rfl c_284
                  have hI_300 : (k3 : Int32).toInt ≤ (4 : Int) := inltI rfl rfl c_285
                  have hI_301 : (k4 : Int32).toInt < (0 : Int) := iltI rfl rfl c_286
                  have hmo : mostI k3 = (1000000000 : Int) := by unfold mostI; (repeat' split) <;> omega
                  have hno : ¬ okTm z2 SX SY k1 k2 k3 k4 := fun q9 => by unfold okTm okH at q9; first | omega | (obtain ⟨⟨_, _⟩, _, _, _, _, _, _, _, _⟩ := q9; first | omega | contradiction)
                  rw [hQ]
                  exact W.iret (v := (-1)) hx hb hr (fun t ht hW9 => ⟨⟨(-1), M, rfl, ⟨hW, hF, hG, ⟨hGI, (by unfold syTm; rw [if_neg hno]; exact hZS)⟩, (by unfold anTm; rw [if_neg hno])⟩, ⟨2, by rw [ht]; exact hP, hD⟩⟩, hS.F ht⟩) hS.2.2 dX13_term_107
                · have hz := rfl (a := 0)
                  refine lv_iload hx hb dX13_term_95 (lv_at hl 5 rfl) ?_
                  refine lv_iload hx hb dX13_term_97 (lv_at hl 0 rfl) ?_
                  refine lv_icmp_le (tgt := 108) hx hb dX13_term_99 (by decide) (fun c_302 => ?_) (fun c_302 => ?_)
                  · have hz := rfl (a := 0)
                    refine lv_aload_n hx hb dX13_term_108 rfl (lv_at hl 1 rfl) ?_
                    refine va_get (D := D) (ci := 13) (v := .ref z1) (C := RX13) (T := TX13) (N := 20) hx hb hg inG13 hown hK hP 0 rfl rfl 1 (by decide) (hg _ wd_739) (fun _ h9 => h9) rfl dX13_term_109 ?_
                    refine lv_iload_n hx hb dX13_term_112 rfl (lv_at hl 2 rfl) ?_
                    have hi_303 : vp_in k1 8 := (inbW (a := z2) (by omega) (inb k1 z2 (by omega) c_7 c_8))
                    refine pg_aldq hx hb hK hP i1.1 9 hM11 rfl hi_303 dX13_term_113 ?_
                    rw [show f11 (k1 : Int32).toNatClampNeg = some b13 from eb_14]
                    refine lv_astore (lv' := [(6, .ref b13), (5, .int 1000000000), (0, .ref za), (1, .int k1), (2, .int k2), (3, .int k3), (4, .int k4)]) hx hb dX13_term_114 hl (by decide) rfl (fun ls hl => ?_)
                    refine lv_aload hx hb dX13_term_116 (lv_at hl 0 rfl) ?_
                    refine pg_getN (D := D) (ci := 12) (v := .int (nI v17)) (C := RX12) (T := TX12) (N := 51) hx hb hg inG12 hown hK hP hb_15.1 hM16 rfl 11 (by decide) (hN.use (Cond.fieldLinkNest RX13 142 RX12 "rules" "I" RX13) 20 rfl rfl) (fun _ h9 => h9) hv17 dX13_term_118 ?_
                    refine lv_iconst (v := 1) hx hb dX13_term_121 (by decide) ?_
                    refine lv_isub hx hb dX13_term_122 ?_
                    refine lv_topi (fun f_304 ef_304 => ?_)
                    obtain rfl : f_304 = (nI (v17 - 1)) := ef_304.trans (nI_prd (by omega))
                    refine lv_istore (lv' := [(7, .int (nI (v17 - 1))), (6, .ref b13), (5, .int 1000000000), (0, .ref za), (1, .int k1), (2, .int k2), (3, .int k3), (4, .int k4)]) hx hb dX13_term_123 hl (by decide) rfl (fun ls hl => ?_)
                    refine lv_aload hx hb dX13_term_125 (lv_at hl 1 rfl) ?_
                    refine lv_aload hx hb dX13_term_127 (lv_at hl 1 rfl) ?_
                    obtain ⟨v305, hv305, hc305⟩ : ∃ v : Nat, fs16[34]? = some (.ref v : Value) ∧ isk K L v 43 16 := hl16 34 (by decide)
                    refine pg_getN (D := D) (ci := 12) (v := .ref v305) (C := RX12) (T := TX12) (N := 51) hx hb hg inG12 hown hK hP hb_15.1 hM16 rfl 34 (by decide) (hN.use (Cond.fieldLinkNest RX13 145 RX12 "ruleDay" "[I" RX13) 43 rfl rfl) (fun _ h9 => h9) hv305 dX13_term_129 ?_
                    refine lv_iload hx hb dX13_term_132 (lv_at hl 0 rfl) ?_
                    obtain ⟨f306, hM306⟩ := hW.open_43 hc305
                    refine pg_iald hx hb hK hP hc305.1 0 hM306 rfl (inbN (v17 - 1) 16 (by omega) (by omega)) dX13_term_134 ?_
                    refine lv_topi (fun f_307 ef_307 => ?_)
                    have hp34e : SY (k1 : Int32).toNatClampNeg 34 ((nI (v17 - 1)) : Int32).toNatClampNeg = f_307 := by rw [← hZk.2, ax_of hM16 (by decide) hv305 hM306]; exact ef_307.symm
                    have hp34 : (SY (k1 : Int32).toNatClampNeg 34 ((nI (v17 - 1)) : Int32).toNatClampNeg).toInt = (f_307 : Int32).toInt := congrArg Int32.toInt hp34e
                    have hi11 : (SX (k1 : Int32).toNatClampNeg 11 - 1).toNat = (v17 - 1) := by omega
                    have hp34b : (SY (k1 : Int32).toNatClampNeg 34 (SX (k1 : Int32).toNatClampNeg 11 - 1).toNat).toInt = (SY (k1 : Int32).toNatClampNeg 34 (nI (v17 - 1)).toNatClampNeg).toInt := by rw [hi11, nI_cl (by omega)]
                    have hPc : va_P D vwCl ([] ++ va_pl L M) H_2 := hP.part (cx := []) [] rfl
                    have hDc : va_D A ([] ++ va_pl L M) := hD.part (cx := []) [] (by decide) rfl
                    have hFc : ∀ q, va_A ([] ++ va_pl L M) H_2.size q → A q := pg_free hDc hS hA
                    refine va_calli (va_runV (As := [.int f_307]) (rest := []) ⟨hx, hb, hml, hown, hg⟩ (f_isFree l D cy K L M H_2.size b13 f_307  hW hb_15) (cwV 1 hg (gV wd_807 wd_808 wd_809 wd_737 wd_810) rfl rfl rfl (by decide +kernel) ⟨(Nat.le_trans (Nat.le_of_ble_eq_true rfl) hRf), (Nat.le_trans (Nat.le_of_ble_eq_true rfl) hRl)⟩) ⟨PG.blind, pg_recv hK hP hb_15.1 hM16 rfl, fun U hU hW => ⟨rfl, PG.at hPc hK hDc hN hU hW⟩⟩ rfl rfl hl.1 rfl (lv_room (Nat.le_of_ble_eq_true rfl)) dX13_term_135 ⟨(Nat.le_trans (Nat.le_of_ble_eq_true rfl) hRc), (Nat.le_trans (Nat.le_of_ble_eq_true rfl) hRs)⟩) hS (fun q _ h => hFc q h) hFc (fun r_309 M_310 t H_308 locs ht hvm hw hB hz1 hk1 hS => ?_)
                    have hp_311 := hw
                    obtain ⟨hP1, hD1⟩ := hB
                    rw [ht] at hP1
                    obtain ⟨hP, hD⟩ := va_joinP (X := [(za, (b13_0 0 z1 (nI z2) (nI z3) z4 z5 z6 z7 z8 z9 (nI z10) z11 z12 z13 z14 z15 (nI z16) z17 z18 z19))]) (cx := []) (wr := [(za, (b13_0 0 z1 (nI z2) (nI z3) z4 z5 z6 z7 z8 z9 (nI z10) z11 z12 z13 z14 z15 (nI z16) z17 z18 z19))]) (rx := []) (pl := va_pl L M) (pl1 := va_pl L M) hP hD [] [0] rfl rfl (by decide) (by decide) hk1 hFc hP1 hD1
                    have hP : va_P D vwCl ([(za, (b13_0 0 z1 (nI z2) (nI z3) z4 z5 z6 z7 z8 z9 (nI z10) z11 z12 z13 z14 z15 (nI z16) z17 z18 z19))] ++ va_pl L M) H_308 := hP
                    have hD : va_D A ([(za, (b13_0 0 z1 (nI z2) (nI z3) z4 z5 z6 z7 z8 z9 (nI z10) z11 z12 z13 z14 z15 (nI z16) z17 z18 z19))] ++ va_pl L M) := hD
                    rcases hp_311 with ⟨rfl, c_312, c_313, c_314⟩ | ⟨rfl, c_315⟩
                    · have hz := rfl (a := 0)
                      refine lv_if_ne (tgt := 147) hx hb dX13_term_138 (by decide) (fun _ => ?_) (fun c_316 => absurd c_316 (by decide))
                      refine lv_iload_n hx hb dX13_term_147 rfl (lv_at hl 6 rfl) ?_
                      refine lv_iconst (v := 4) hx hb dX13_term_148 (by decide) ?_
                      refine lv_icmp_ne (tgt := 175) hx hb dX13_term_149 (by decide) (fun c_317 => ?_) (fun c_317 => absurd c_317 c_28)
                      refine lv_aload hx hb dX13_term_175 (lv_at hl 1 rfl) ?_
                      refine lv_iload hx hb dX13_term_177 (lv_at hl 0 rfl) ?_
                      refine lv_iload_n hx hb dX13_term_179 rfl (lv_at hl 6 rfl) ?_
                      refine lv_iload_n hx hb dX13_term_180 rfl (lv_at hl 5 rfl) ?_
                      obtain ⟨j_318, hj_319, rfl⟩ := i32nat 4 (by decide) c_284 (neLe c_285 c_317)
                      obtain ⟨j_320, hj_321, rfl⟩ := i32nat 6 (by decide) c_126 (Int32.not_le.mpr c_136)
                      have hPc : va_P D vwCl ([] ++ va_pl L M) H_308 := hP.part (cx := []) [] rfl
                      have hDc : va_D A ([] ++ va_pl L M) := hD.part (cx := []) [] (by decide) rfl
                      have hFc : ∀ q, va_A ([] ++ va_pl L M) H_308.size q → A q := pg_free hDc hS hA
                      refine va_calli (va_runV (As := [.int (nI (v17 - 1)), .int (nI j_318), .int (nI j_320)]) (rest := []) ⟨hx, hb, hml, hown, hg⟩ (f_term l D cy K L M H_308.size b13 (v17 - 1) j_318 j_320  hW hb_15 (by omega) (by omega) (by omega)) (cwV 3 hg (gV wd_770 wd_771 wd_772 wd_737 wd_773) rfl rfl rfl (by decide +kernel) ⟨(Nat.le_trans (Nat.le_of_ble_eq_true rfl) hRf), (Nat.le_trans (Nat.le_of_ble_eq_true rfl) hRl)⟩) ⟨PG.blind, pg_recv hK hP hb_15.1 hM16 rfl, fun U hU hW => ⟨rfl, PG.at hPc hK hDc hN hU hW⟩⟩ rfl rfl hl.1 rfl (lv_room (Nat.le_of_ble_eq_true rfl)) dX13_term_181 ⟨(Nat.le_trans (Nat.le_of_ble_eq_true rfl) hRc), (Nat.le_trans (Nat.le_of_ble_eq_true rfl) hRs)⟩) hS (fun q _ h => hFc q h) hFc (fun r_323 M_324 t H_322 locs ht hvm hw hB hz1 hk1 hS => ?_)
                      have hp_325 := hw
                      obtain ⟨hP1, hD1⟩ := hB
                      rw [ht] at hP1
                      obtain ⟨hP, hD⟩ := va_joinP (X := [(za, (b13_0 0 z1 (nI z2) (nI z3) z4 z5 z6 z7 z8 z9 (nI z10) z11 z12 z13 z14 z15 (nI z16) z17 z18 z19))]) (cx := []) (wr := [(za, (b13_0 0 z1 (nI z2) (nI z3) z4 z5 z6 z7 z8 z9 (nI z10) z11 z12 z13 z14 z15 (nI z16) z17 z18 z19))]) (rx := []) (pl := va_pl L M) (pl1 := va_pl L M) hP hD [] [0] rfl rfl (by decide) (by decide) hk1 hFc hP1 hD1
                      have hP : va_P D vwCl ([(za, (b13_0 0 z1 (nI z2) (nI z3) z4 z5 z6 z7 z8 z9 (nI z10) z11 z12 z13 z14 z15 (nI z16) z17 z18 z19))] ++ va_pl L M) H_322 := hP
                      have hD : va_D A ([(za, (b13_0 0 z1 (nI z2) (nI z3) z4 z5 z6 z7 z8 z9 (nI z10) z11 z12 z13 z14 z15 (nI z16) z17 z18 z19))] ++ va_pl L M) := hD
                      obtain rfl := hp_325
                      refine lv_istore (lv' := [(8, .int (ax M b13 36 ((4 * (v17 - 1) + j_318) * 6 + j_320))), (7, .int (nI (v17 - 1))), (6, .ref b13), (5, .int 1000000000), (0, .ref za), (1, .int k1), (2, .int (nI j_320)), (3, .int (nI j_318)), (4, .int k4)]) hx hb dX13_term_184 hl (by decide) rfl (fun ls hl => ?_)
                      refine lv_aload hx hb dX13_term_186 (lv_at hl 2 rfl) ?_
                      obtain ⟨v326, hv326, hc326⟩ : ∃ v : Nat, fs16[36]? = some (.ref v : Value) ∧ isk K L v 78 384 := hl16 36 (by decide)
                      refine pg_getN (D := D) (ci := 12) (v := .ref v326) (C := RX12) (T := TX12) (N := 51) hx hb hg inG12 hown hK hP hb_15.1 hM16 rfl 36 (by decide) (hN.use (Cond.fieldLinkNest RX13 148 RX12 "term" "[I" RX13) 45 rfl rfl) (fun _ h9 => h9) hv326 dX13_term_188 ?_
                      refine lv_iconst (v := 4) hx hb dX13_term_191 (by decide) ?_
                      refine lv_iload hx hb dX13_term_192 (lv_at hl 1 rfl) ?_
                      refine lv_imul hx hb dX13_term_194 ?_
                      refine lv_topi (fun f_327 ef_327 => ?_)
                      obtain rfl : f_327 = (nI (4 * (v17 - 1))) := ef_327.trans (nI_mul 4 (v17 - 1))
                      refine lv_iload_n hx hb dX13_term_195 rfl (lv_at hl 7 rfl) ?_
                      refine lv_iadd hx hb dX13_term_196 ?_
                      refine lv_topi (fun f_328 ef_328 => ?_)
                      obtain rfl : f_328 = (nI ((4 * (v17 - 1)) + j_318)) := ef_328.trans (nI_add (4 * (v17 - 1)) j_318)
                      refine lv_bipush (v := 6) hx hb dX13_term_197 (by decide) ?_
                      refine lv_imul hx hb dX13_term_199 ?_
                      refine lv_topi (fun f_329 ef_329 => ?_)
                      obtain rfl : f_329 = (nI (((4 * (v17 - 1)) + j_318) * 6)) := ef_329.trans (nI_mul ((4 * (v17 - 1)) + j_318) 6)
                      refine lv_iload_n hx hb dX13_term_200 rfl (lv_at hl 6 rfl) ?_
                      refine lv_iadd hx hb dX13_term_201 ?_
                      refine lv_topi (fun f_330 ef_330 => ?_)
                      obtain rfl : f_330 = (nI ((((4 * (v17 - 1)) + j_318) * 6) + j_320)) := ef_330.trans (nI_add (((4 * (v17 - 1)) + j_318) * 6) j_320)
                      refine lv_iload hx hb dX13_term_202 (lv_at hl 8 rfl) ?_
                      obtain ⟨f331, hM331⟩ := hW.open_78 hc326
                      refine pg_iast hx hb hK hP hD hS hc326.1 0 hM331 rfl (inbN ((((4 * (v17 - 1)) + j_318) * 6) + j_320) 384 (by omega) (by omega)) dX13_term_204 (fun H_332 locs hP hD hS => ?_)
                      obtain ⟨M_333, eM_333⟩ : ∃ M1 : Hp, M1 = va_up M v326 (.inl (cy 14, 384, .inl (upd f331 ((nI ((((4 * (v17 - 1)) + j_318) * 6) + j_320)) : Int32).toNatClampNeg k4))) := ⟨_, rfl⟩
                      have hy36 : (ax M b13 36) = f331 := (congrFun hV.2.2.1 36).symm.trans (ax_of hM16 (by decide) hv326 hM331)
                      have hV : VW K L M M_333 b13 (fx M b13) (va_up (ax M b13) 36 (upd (ax M b13 36) ((nI ((((4 * (v17 - 1)) + j_318) * 6) + j_320)) : Int32).toNatClampNeg k4)) := by rw [eM_333]; exact hV.ast (j := 36) hW hb_15 hM16 (by decide) hv326 hc326 hM331
                      have hP : va_P D vwCl ([(za, (b13_0 0 z1 (nI z2) (nI z3) z4 z5 z6 z7 z8 z9 (nI z10) z11 z12 z13 z14 z15 (nI z16) z17 z18 z19))] ++ va_pl L M_333) H_332 := by rw [eM_333]; exact hP
                      have hD : va_D A ([(za, (b13_0 0 z1 (nI z2) (nI z3) z4 z5 z6 z7 z8 z9 (nI z10) z11 z12 z13 z14 z15 (nI z16) z17 z18 z19))] ++ va_pl L M_333) := by rw [eM_333]; exact hD
                      have hW : WOM cy K L M_333 := by rw [eM_333]; exact hW.up_78 hc326 ⟨_, rfl⟩
                      have hF : fr K L [77, 78] M M_333 := by rw [eM_333]; exact hF.up hc326 (by decide)
                      have hG : fG K L [] M M_333 := by rw [eM_333]; exact hG.arr hc326 (by decide)
                      have hM_334 : M_333 v326 = .inl (cy 14, 384, .inl (upd f331 ((nI ((((4 * (v17 - 1)) + j_318) * 6) + j_320)) : Int32).toNatClampNeg k4)) := by rw [eM_333]; exact va_up_self _ _ _
                      have hM_335 : M_333 z1 = .inl (cy 23, 8, .inr (.inr (.inr (.inr (f11))))) := by rw [eM_333, va_up_ne _ _ (i1.neT hc326 (by decide))]; exact hM11
                      have hM_336 : M_333 b13 = .inr (12, fs16) := by rw [eM_333, va_up_ne _ _ (hb_15.neT hc326 (by decide))]; exact hM16
                      have hM_337 : M_333 v305 = .inl (cy 14, 16, .inl (f306)) := by rw [eM_333, va_up_ne _ _ (hc305.neT hc326 (by decide))]; exact hM306
                      obtain ⟨f_338, ef_338⟩ : ∃ f : Nat → Int32, f = upd f331 ((nI ((((4 * (v17 - 1)) + j_318) * 6) + j_320)) : Int32).toNatClampNeg k4 := ⟨_, rfl⟩
                      rw [← ef_338] at hM_334
                      refine lv_aload_n hx hb dX13_term_205 rfl (lv_at hl 4 rfl) ?_
                      refine lv_iload hx hb dX13_term_206 (lv_at hl 0 rfl) ?_
                      have hPc := hP.sub (ws' := [(za, (b13_0 0 z1 (nI z2) (nI z3) z4 z5 z6 z7 z8 z9 (nI z10) z11 z12 z13 z14 z15 (nI z16) z17 z18 z19))]) [0] rfl
                      have hDc := hD.sub (ws' := [(za, (b13_0 0 z1 (nI z2) (nI z3) z4 z5 z6 z7 z8 z9 (nI z10) z11 z12 z13 z14 z15 (nI z16) z17 z18 z19))]) [0] (by decide) rfl
                      have hKc := hK.sub (tys' := []) [] rfl
                      have hFc := va_free (wc := [(za, (b13_0 0 z1 (nI z2) (nI z3) z4 z5 z6 z7 z8 z9 (nI z10) z11 z12 z13 z14 z15 (nI z16) z17 z18 z19))]) hD hS hA [0] rfl
                      refine va_calli (va_runV (As := [.int (ax M b13 36 ((4 * (v17 - 1) + j_318) * 6 + j_320))]) (rest := []) ⟨hx, hb, hml, hown, hg⟩ (m_done l D H_332.size za 0 z1 (nI z2) (nI z3) z4 z5 z6 z7 z8 z9 (nI z10) z11 z12 z13 z14 z15 (nI z16) z17 z18 z19 (ax M b13 36 ((4 * (v17 - 1) + j_318) * 6 + j_320))) (cwV 1 hg (gV wd_730 wd_731 wd_732 wd_717 wd_733) rfl rfl rfl (by decide +kernel) ⟨(Nat.le_trans (Nat.le_of_ble_eq_true rfl) hRf), (Nat.le_trans (Nat.le_of_ble_eq_true rfl) hRl)⟩) ⟨Pr.blind, va_recv hK hP (ci := 13) (q0 := 0) rfl rfl, fun U hU hW => ⟨rfl, Pr.at hPc hKc hDc hN hU hW⟩⟩ rfl rfl hl.1 rfl (lv_room (Nat.le_of_ble_eq_true rfl)) dX13_term_208 ⟨(Nat.le_trans (Nat.le_of_ble_eq_true rfl) hRc), (Nat.le_trans (Nat.le_of_ble_eq_true rfl) hRs)⟩) hS (fun q _ h => hFc q h) hFc (fun r_340 M_341 t H_339 locs ht hvm hw hB hz1 hk1 hS => ?_)
                      have hp_342 := hw
                      obtain ⟨hP1, hK1, hD1⟩ := hB
                      rw [ht] at hP1
                      obtain ⟨hP, hD⟩ := va_joinQ (X := [(za, (b13_0 0 z1 (nI z2) (nI z3) z4 z5 z6 z7 z8 z9 (nI z10) z11 z12 z13 z14 z15 (nI z16) z17 z18 z19))]) (cx := [(za, (b13_0 0 z1 (nI z2) (nI z3) z4 z5 z6 z7 z8 z9 (nI z10) z11 z12 z13 z14 z15 (nI z16) z17 z18 z19))]) (wr := []) (w1 := [(za, (b13_0 0 z1 (nI z2) (nI z3) 0 (-1) z6 z7 z8 z9 (nI z10) z11 z12 z13 z14 z15 (nI z16) z17 z18 z19))]) (pl := va_pl L M_333) hP hD [0] [] rfl rfl (by decide) (by decide) hk1 hFc hP1 hD1
                      have hP : va_P D vwCl ([(za, (b13_0 0 z1 (nI z2) (nI z3) 0 (-1) z6 z7 z8 z9 (nI z10) z11 z12 z13 z14 z15 (nI z16) z17 z18 z19))] ++ va_pl L M_333) H_339 := hP
                      have hD : va_D A ([(za, (b13_0 0 z1 (nI z2) (nI z3) 0 (-1) z6 z7 z8 z9 (nI z10) z11 z12 z13 z14 z15 (nI z16) z17 z18 z19))] ++ va_pl L M_333) := hD
                      have hq := Eq.symm hp_342
                      subst hq
                      have hI_343 : (0 : Int) ≤ (k1 : Int32).toInt := inltI rfl rfl c_7
                      have hI_344 : (k1 : Int32).toInt < ((z2 : Nat) : Int) := inleI (nI_toInt (by omega)) rfl c_8
                      have hI_345 : ((v17 : Nat) : Int) ≠ (0 : Int) := ineI (nI_toInt (by omega)) rfl c_18
                      have hI_346 : ((j_318 : Nat) : Int) ≠ (4 : Int) := ineI (nI_toInt (by omega)) rfl c_28
                      have hI_347 : (0 : Int) ≤ ((j_320 : Nat) : Int) := inltI (nI_toInt (by omega)) rfl c_126
                      have hI_348 : ((j_320 : Nat) : Int) < (6 : Int) := iltI (nI_toInt (by omega)) rfl c_136
                      have hI_349 : ((j_318 : Nat) : Int) ≠ (0 : Int) := ineI (nI_toInt (by omega)) rfl c_137
                      have hI_350 : ((j_318 : Nat) : Int) = (1 : Int) := ieqI (nI_toInt (by omega)) rfl c_138
                      have hI_351 : (0 : Int) ≤ ((j_318 : Nat) : Int) := inltI (nI_toInt (by omega)) rfl c_284
                      have hI_352 : ((j_318 : Nat) : Int) ≤ (4 : Int) := inltI rfl (nI_toInt (by omega)) c_285
                      have hI_353 : (0 : Int) ≤ (k4 : Int32).toInt := inltI rfl rfl c_286
                      have hI_354 : (k4 : Int32).toInt ≤ (1000000000 : Int) := ileI rfl rfl c_302
                      have hI_355 : (0 : Int) ≤ (f_307 : Int32).toInt := inltI rfl rfl c_313
                      have hI_356 : (f_307 : Int32).toInt < (1000 : Int) := inleI rfl rfl c_314
                      have hI_357 : ((j_318 : Nat) : Int) ≠ (4 : Int) := ineI (nI_toInt (by omega)) rfl c_317
                      have hn92 : ((nI j_320) : Int32).toInt = ((j_320 : Nat) : Int) := nI_toInt (by omega)
                      have hn93 : ((nI j_318) : Int32).toInt = ((j_318 : Nat) : Int) := nI_toInt (by omega)
                      have hmo : mostI (nI j_318) = (1000000000 : Int) := by unfold mostI; (repeat' split) <;> omega
                      have hyes : okTm z2 SX SY k1 (nI j_320) (nI j_318) k4 := by unfold okTm okH; refine ⟨⟨?_, ?_⟩, ?_, ?_, ?_, ?_, ?_, ?_, ?_, ?_⟩ <;> first | omega | assumption
                      have hA9 : HA (ax M b13 2) (ax M b13 3) := hAT.1
                      have hB9 : HB (fx M b13 16) (fx M b13 14) (ax M b13 3) (ax M b13 43) := hAT.2.1
                      have hC9 : HC (fx M b13 10) (ax M b13 22) (ax M b13 23) := hAT.2.2.1
                      have hD9 : HD (fx M b13 0) (fx M b13 11) (fx M b13 15) (ax M b13 34) (ax M b13 41) := hAT.2.2.2.1
                      have hE9 : HE (fx M b13 0) (fx M b13 1) (fx M b13 12) (fx M b13 13) (ax M b13 37) := hAT.2.2.2.2
                      have hH9 : HI (fx M b13) (va_up (ax M b13) 36 (upd (ax M b13 36) ((nI ((((4 * (v17 - 1)) + j_318) * 6) + j_320)) : Int32).toNatClampNeg k4)) := ⟨hA9, hB9, hC9, hD9, hE9⟩
                      have hGI9 : GI K L z1 z2 M_333 := GI.fin hW0 i1 b2 hGI hact hV (hF.at i1 (by decide)) hH9
                      rw [hQ]
                      exact W.iret (v := (ax M b13 36 ((4 * (v17 - 1) + j_318) * 6 + j_320))) hx hb hr (fun t ht hW9 => ⟨⟨(ax M b13 36 ((4 * (v17 - 1) + j_318) * 6 + j_320)), M_333, rfl, ⟨hW, hF, hG, ⟨hGI9, (by unfold syTm; rw [if_pos hyes, if_neg (by omega), hi11, nI_cl (t := j_318) (by omega), nI_cl (t := j_320) (by omega), show 24 * (v17 - 1) + (6 * j_318 + j_320) = (4 * (v17 - 1) + j_318) * 6 + j_320 by omega]; have hQ9 := ZSx.fin hW0 i1 b2 hZS hGI.1 hkn hb9 hV (hF.at i1 (by decide)) hZk.1 (by rw [hZk.2, nI_cl (by omega)]); rw [va_upJ] at hQ9; exact hQ9)⟩, (by unfold anTm; rw [if_pos hyes, if_neg (by omega), hi11, nI_cl (t := j_318) (by omega), nI_cl (t := j_320) (by omega), ← hZk.2]; congr 1; omega)⟩, ⟨0, by rw [ht]; exact hP, hD⟩⟩, hS.F ht⟩) hS.2.2 dX13_term_211
                    · have hz := rfl (a := 0)
                      refine lv_if_ne (tgt := 147) hx hb dX13_term_138 (by decide) (fun c_358 => absurd c_358 (by decide)) (fun _ => ?_)
                      refine lv_aload_n hx hb dX13_term_141 rfl (lv_at hl 3 rfl) ?_
                      refine lv_iconst (v := 3) hx hb dX13_term_142 (by decide) ?_
                      have hPc := hP.sub (ws' := [(za, (b13_0 0 z1 (nI z2) (nI z3) z4 z5 z6 z7 z8 z9 (nI z10) z11 z12 z13 z14 z15 (nI z16) z17 z18 z19))]) [0] rfl
                      have hDc := hD.sub (ws' := [(za, (b13_0 0 z1 (nI z2) (nI z3) z4 z5 z6 z7 z8 z9 (nI z10) z11 z12 z13 z14 z15 (nI z16) z17 z18 z19))]) [0] (by decide) rfl
                      have hKc := hK.sub (tys' := []) [] rfl
                      have hFc := va_free (wc := [(za, (b13_0 0 z1 (nI z2) (nI z3) z4 z5 z6 z7 z8 z9 (nI z10) z11 z12 z13 z14 z15 (nI z16) z17 z18 z19))]) hD hS hA [0] rfl
                      refine va_calli (va_runV (As := [.int 3]) (rest := []) ⟨hx, hb, hml, hown, hg⟩ (m_refused l D H_308.size za 0 z1 (nI z2) (nI z3) z4 z5 z6 z7 z8 z9 (nI z10) z11 z12 z13 z14 z15 (nI z16) z17 z18 z19 3) (cwV 1 hg (gV wd_725 wd_726 wd_727 wd_717 wd_728) rfl rfl rfl (by decide +kernel) ⟨(Nat.le_trans (Nat.le_of_ble_eq_true rfl) hRf), (Nat.le_trans (Nat.le_of_ble_eq_true rfl) hRl)⟩) ⟨Pr.blind, va_recv hK hP (ci := 13) (q0 := 0) rfl rfl, fun U hU hW => ⟨rfl, Pr.at hPc hKc hDc hN hU hW⟩⟩ rfl rfl hl.1 rfl (lv_room (Nat.le_of_ble_eq_true rfl)) dX13_term_143 ⟨(Nat.le_trans (Nat.le_of_ble_eq_true rfl) hRc), (Nat.le_trans (Nat.le_of_ble_eq_true rfl) hRs)⟩) hS (fun q _ h => hFc q h) hFc (fun r_360 M_361 t H_359 locs ht hvm hw hB hz1 hk1 hS => ?_)
                      have hp_362 := hw
                      obtain ⟨hP1, hK1, hD1⟩ := hB
                      rw [ht] at hP1
                      obtain ⟨hP, hD⟩ := va_joinQ (X := [(za, (b13_0 0 z1 (nI z2) (nI z3) z4 z5 z6 z7 z8 z9 (nI z10) z11 z12 z13 z14 z15 (nI z16) z17 z18 z19))]) (cx := [(za, (b13_0 0 z1 (nI z2) (nI z3) z4 z5 z6 z7 z8 z9 (nI z10) z11 z12 z13 z14 z15 (nI z16) z17 z18 z19))]) (wr := []) (w1 := [(za, (b13_0 0 z1 (nI z2) (nI z3) 3 (-1) z6 z7 z8 z9 (nI z10) z11 z12 z13 z14 z15 (nI z16) z17 z18 z19))]) (pl := va_pl L M) hP hD [0] [] rfl rfl (by decide) (by decide) hk1 hFc hP1 hD1
                      have hP : va_P D vwCl ([(za, (b13_0 0 z1 (nI z2) (nI z3) 3 (-1) z6 z7 z8 z9 (nI z10) z11 z12 z13 z14 z15 (nI z16) z17 z18 z19))] ++ va_pl L M) H_359 := hP
                      have hD : va_D A ([(za, (b13_0 0 z1 (nI z2) (nI z3) 3 (-1) z6 z7 z8 z9 (nI z10) z11 z12 z13 z14 z15 (nI z16) z17 z18 z19))] ++ va_pl L M) := hD
                      have hq := Eq.symm hp_362
                      subst hq
                      have hI_363 : (0 : Int) ≤ (k1 : Int32).toInt := inltI rfl rfl c_7
                      have hI_364 : (k1 : Int32).toInt < ((z2 : Nat) : Int) := inleI (nI_toInt (by omega)) rfl c_8
                      have hI_365 : ((v17 : Nat) : Int) ≠ (0 : Int) := ineI (nI_toInt (by omega)) rfl c_18
                      have hI_366 : (k3 : Int32).toInt ≠ (4 : Int) := ineI rfl rfl c_28
                      have hI_367 : (0 : Int) ≤ (k2 : Int32).toInt := inltI rfl rfl c_126
                      have hI_368 : (k2 : Int32).toInt < (6 : Int) := iltI rfl rfl c_136
                      have hI_369 : (k3 : Int32).toInt ≠ (0 : Int) := ineI rfl rfl c_137
                      have hI_370 : (k3 : Int32).toInt = (1 : Int) := ieqI rfl rfl c_138
                      have hI_371 : (0 : Int) ≤ (k3 : Int32).toInt := inltI rfl rfl c_284
                      have hI_372 : (k3 : Int32).toInt ≤ (4 : Int) := inltI rfl rfl c_285
                      have hI_373 : (0 : Int) ≤ (k4 : Int32).toInt := inltI rfl rfl c_286
                      have hI_374 : (k4 : Int32).toInt ≤ (1000000000 : Int) := ileI rfl rfl c_302
                      have hmo : mostI k3 = (1000000000 : Int) := by unfold mostI; (repeat' split) <;> omega
                      have hno : ¬ okTm z2 SX SY k1 k2 k3 k4 := fun q9 => by unfold okTm okH at q9; first | omega | (obtain ⟨⟨_, _⟩, _, _, _, _, _, _, _, _⟩ := q9; first | omega | contradiction)
                      rw [hQ]
                      exact W.iret (v := (-1)) hx hb hr (fun t ht hW9 => ⟨⟨(-1), M, rfl, ⟨hW, hF, hG, ⟨hGI, (by unfold syTm; rw [if_neg hno]; exact hZS)⟩, (by unfold anTm; rw [if_neg hno])⟩, ⟨3, by rw [ht]; exact hP, hD⟩⟩, hS.F ht⟩) hS.2.2 dX13_term_146
                  · have hz := rfl (a := 0)
                    have n_375 : ¬ k4 < 0 := gtN (c := 1000000000) (by omega) (Int32.not_le.mp c_302)
                    refine lv_aload_n hx hb dX13_term_102 rfl (lv_at hl 1 rfl) ?_
                    refine lv_iconst (v := 2) hx hb dX13_term_103 (by decide) ?_
                    have hPc := hP.sub (ws' := [(za, (b13_0 0 z1 (nI z2) (nI z3) z4 z5 z6 z7 z8 z9 (nI z10) z11 z12 z13 z14 z15 (nI z16) z17 z18 z19))]) [0] rfl
                    have hDc := hD.sub (ws' := [(za, (b13_0 0 z1 (nI z2) (nI z3) z4 z5 z6 z7 z8 z9 (nI z10) z11 z12 z13 z14 z15 (nI z16) z17 z18 z19))]) [0] (by decide) rfl
                    have hKc := hK.sub (tys' := []) [] rfl
                    have hFc := va_free (wc := [(za, (b13_0 0 z1 (nI z2) (nI z3) z4 z5 z6 z7 z8 z9 (nI z10) z11 z12 z13 z14 z15 (nI z16) z17 z18 z19))]) hD hS hA [0] rfl
                    refine va_calli (va_runV (As := [.int 2]) (rest := []) ⟨hx, hb, hml, hown, hg⟩ (m_refused l D H_2.size za 0 z1 (nI z2) (nI z3) z4 z5 z6 z7 z8 z9 (nI z10) z11 z12 z13 z14 z15 (nI z16) z17 z18 z19 2) (cwV 1 hg (gV wd_725 wd_726 wd_727 wd_717 wd_728) rfl rfl rfl (by decide +kernel) ⟨(Nat.le_trans (Nat.le_of_ble_eq_true rfl) hRf), (Nat.le_trans (Nat.le_of_ble_eq_true rfl) hRl)⟩) ⟨Pr.blind, va_recv hK hP (ci := 13) (q0 := 0) rfl rfl, fun U hU hW => ⟨rfl, Pr.at hPc hKc hDc hN hU hW⟩⟩ rfl rfl hl.1 rfl (lv_room (Nat.le_of_ble_eq_true rfl)) dX13_term_104 ⟨(Nat.le_trans (Nat.le_of_ble_eq_true rfl) hRc), (Nat.le_trans (Nat.le_of_ble_eq_true rfl) hRs)⟩) hS (fun q _ h => hFc q h) hFc (fun r_377 M_378 t H_376 locs ht hvm hw hB hz1 hk1 hS => ?_)
                    have hp_379 := hw
                    obtain ⟨hP1, hK1, hD1⟩ := hB
                    rw [ht] at hP1
                    obtain ⟨hP, hD⟩ := va_joinQ (X := [(za, (b13_0 0 z1 (nI z2) (nI z3) z4 z5 z6 z7 z8 z9 (nI z10) z11 z12 z13 z14 z15 (nI z16) z17 z18 z19))]) (cx := [(za, (b13_0 0 z1 (nI z2) (nI z3) z4 z5 z6 z7 z8 z9 (nI z10) z11 z12 z13 z14 z15 (nI z16) z17 z18 z19))]) (wr := []) (w1 := [(za, (b13_0 0 z1 (nI z2) (nI z3) 2 (-1) z6 z7 z8 z9 (nI z10) z11 z12 z13 z14 z15 (nI z16) z17 z18 z19))]) (pl := va_pl L M) hP hD [0] [] rfl rfl (by decide) (by decide) hk1 hFc hP1 hD1
                    have hP : va_P D vwCl ([(za, (b13_0 0 z1 (nI z2) (nI z3) 2 (-1) z6 z7 z8 z9 (nI z10) z11 z12 z13 z14 z15 (nI z16) z17 z18 z19))] ++ va_pl L M) H_376 := hP
                    have hD : va_D A ([(za, (b13_0 0 z1 (nI z2) (nI z3) 2 (-1) z6 z7 z8 z9 (nI z10) z11 z12 z13 z14 z15 (nI z16) z17 z18 z19))] ++ va_pl L M) := hD
                    have hq := Eq.symm hp_379
                    subst hq
                    have hI_380 : (0 : Int) ≤ (k1 : Int32).toInt := inltI rfl rfl c_7
                    have hI_381 : (k1 : Int32).toInt < ((z2 : Nat) : Int) := inleI (nI_toInt (by omega)) rfl c_8
                    have hI_382 : ((v17 : Nat) : Int) ≠ (0 : Int) := ineI (nI_toInt (by omega)) rfl c_18
                    have hI_383 : (k3 : Int32).toInt ≠ (4 : Int) := ineI rfl rfl c_28
                    have hI_384 : (0 : Int) ≤ (k2 : Int32).toInt := inltI rfl rfl c_126
                    have hI_385 : (k2 : Int32).toInt < (6 : Int) := iltI rfl rfl c_136
                    have hI_386 : (k3 : Int32).toInt ≠ (0 : Int) := ineI rfl rfl c_137
                    have hI_387 : (k3 : Int32).toInt = (1 : Int) := ieqI rfl rfl c_138
                    have hI_388 : (0 : Int) ≤ (k3 : Int32).toInt := inltI rfl rfl c_284
                    have hI_389 : (k3 : Int32).toInt ≤ (4 : Int) := inltI rfl rfl c_285
                    have hI_390 : (0 : Int) ≤ (k4 : Int32).toInt := inltI rfl rfl c_286
                    have hI_391 : (1000000000 : Int) < (k4 : Int32).toInt := inleI rfl rfl c_302
                    have hI_392 : (0 : Int) ≤ (k4 : Int32).toInt := inltI rfl rfl n_375
                    have hmo : mostI k3 = (1000000000 : Int) := by unfold mostI; (repeat' split) <;> omega
                    have hno : ¬ okTm z2 SX SY k1 k2 k3 k4 := fun q9 => by unfold okTm okH at q9; first | omega | (obtain ⟨⟨_, _⟩, _, _, _, _, _, _, _, _⟩ := q9; first | omega | contradiction)
                    rw [hQ]
                    exact W.iret (v := (-1)) hx hb hr (fun t ht hW9 => ⟨⟨(-1), M, rfl, ⟨hW, hF, hG, ⟨hGI, (by unfold syTm; rw [if_neg hno]; exact hZS)⟩, (by unfold anTm; rw [if_neg hno])⟩, ⟨2, by rw [ht]; exact hP, hD⟩⟩, hS.F ht⟩) hS.2.2 dX13_term_107
            · have hz := rfl (a := 0)
              refine lv_ldc (v := 1000000) hx hb hown (hg _ wd_778) dX13_term_50 ?_
              refine lv_goto (tgt := 79) hx hb dX13_term_52 (by decide) ?_
              refine lv_istore (lv' := [(5, .int 1000000), (0, .ref za), (1, .int k1), (2, .int k2), (3, .int k3), (4, .int k4)]) hx hb dX13_term_79 hl (by decide) rfl (fun ls hl => ?_)
              refine lv_iload_n hx hb dX13_term_81 rfl (lv_at hl 4 rfl) ?_
              refine lv_if_lt (tgt := 102) hx hb dX13_term_82 (by decide) (fun c_393 => absurd c_393 (by rw [c_137]; decide)) (fun c_393 => ?_)
              refine lv_iload_n hx hb dX13_term_85 rfl (lv_at hl 4 rfl) ?_
              refine lv_iconst (v := 4) hx hb dX13_term_86 (by decide) ?_
              refine lv_icmp_gt (tgt := 102) hx hb dX13_term_87 (by decide) (fun c_394 => absurd c_394 (by rw [c_137]; decide)) (fun c_394 => ?_)
              refine lv_iload hx hb dX13_term_90 (lv_at hl 5 rfl) ?_
              refine lv_if_lt (tgt := 102) hx hb dX13_term_92 (by decide) (fun c_395 => ?_) (fun c_395 => ?_)
              · have hz := rfl (a := 0)
                refine lv_aload_n hx hb dX13_term_102 rfl (lv_at hl 1 rfl) ?_
                refine lv_iconst (v := 2) hx hb dX13_term_103 (by decide) ?_
                have hPc := hP.sub (ws' := [(za, (b13_0 0 z1 (nI z2) (nI z3) z4 z5 z6 z7 z8 z9 (nI z10) z11 z12 z13 z14 z15 (nI z16) z17 z18 z19))]) [0] rfl
                have hDc := hD.sub (ws' := [(za, (b13_0 0 z1 (nI z2) (nI z3) z4 z5 z6 z7 z8 z9 (nI z10) z11 z12 z13 z14 z15 (nI z16) z17 z18 z19))]) [0] (by decide) rfl
                have hKc := hK.sub (tys' := []) [] rfl
                have hFc := va_free (wc := [(za, (b13_0 0 z1 (nI z2) (nI z3) z4 z5 z6 z7 z8 z9 (nI z10) z11 z12 z13 z14 z15 (nI z16) z17 z18 z19))]) hD hS hA [0] rfl
                refine va_calli (va_runV (As := [.int 2]) (rest := []) ⟨hx, hb, hml, hown, hg⟩ (m_refused l D H_2.size za 0 z1 (nI z2) (nI z3) z4 z5 z6 z7 z8 z9 (nI z10) z11 z12 z13 z14 z15 (nI z16) z17 z18 z19 2) (cwV 1 hg (gV wd_725 wd_726 wd_727 wd_717 wd_728) rfl rfl rfl (by decide +kernel) ⟨(Nat.le_trans (Nat.le_of_ble_eq_true rfl) hRf), (Nat.le_trans (Nat.le_of_ble_eq_true rfl) hRl)⟩) ⟨Pr.blind, va_recv hK hP (ci := 13) (q0 := 0) rfl rfl, fun U hU hW => ⟨rfl, Pr.at hPc hKc hDc hN hU hW⟩⟩ rfl rfl hl.1 rfl (lv_room (Nat.le_of_ble_eq_true rfl)) dX13_term_104 ⟨(Nat.le_trans (Nat.le_of_ble_eq_true rfl) hRc), (Nat.le_trans (Nat.le_of_ble_eq_true rfl) hRs)⟩) hS (fun q _ h => hFc q h) hFc (fun r_397 M_398 t H_396 locs ht hvm hw hB hz1 hk1 hS => ?_)
                have hp_399 := hw
                obtain ⟨hP1, hK1, hD1⟩ := hB
                rw [ht] at hP1
                obtain ⟨hP, hD⟩ := va_joinQ (X := [(za, (b13_0 0 z1 (nI z2) (nI z3) z4 z5 z6 z7 z8 z9 (nI z10) z11 z12 z13 z14 z15 (nI z16) z17 z18 z19))]) (cx := [(za, (b13_0 0 z1 (nI z2) (nI z3) z4 z5 z6 z7 z8 z9 (nI z10) z11 z12 z13 z14 z15 (nI z16) z17 z18 z19))]) (wr := []) (w1 := [(za, (b13_0 0 z1 (nI z2) (nI z3) 2 (-1) z6 z7 z8 z9 (nI z10) z11 z12 z13 z14 z15 (nI z16) z17 z18 z19))]) (pl := va_pl L M) hP hD [0] [] rfl rfl (by decide) (by decide) hk1 hFc hP1 hD1
                have hP : va_P D vwCl ([(za, (b13_0 0 z1 (nI z2) (nI z3) 2 (-1) z6 z7 z8 z9 (nI z10) z11 z12 z13 z14 z15 (nI z16) z17 z18 z19))] ++ va_pl L M) H_396 := hP
                have hD : va_D A ([(za, (b13_0 0 z1 (nI z2) (nI z3) 2 (-1) z6 z7 z8 z9 (nI z10) z11 z12 z13 z14 z15 (nI z16) z17 z18 z19))] ++ va_pl L M) := hD
                have hq := Eq.symm hp_399
                subst hq
                have hI_400 : (0 : Int) ≤ (k1 : Int32).toInt := inltI rfl rfl c_7
                have hI_401 : (k1 : Int32).toInt < ((z2 : Nat) : Int) := inleI (nI_toInt (by omega)) rfl c_8
                have hI_402 : ((v17 : Nat) : Int) ≠ (0 : Int) := ineI (nI_toInt (by omega)) rfl c_18
                have hI_403 : (k3 : Int32).toInt ≠ (4 : Int) := ineI rfl rfl c_28
                have hI_404 : (0 : Int) ≤ (k2 : Int32).toInt := inltI rfl rfl c_126
                have hI_405 : (k2 : Int32).toInt < (6 : Int) := iltI rfl rfl c_136
                have hI_406 : (k3 : Int32).toInt = (0 : Int) := ieqI rfl rfl c_137
                have hI_407 : (0 : Int) ≤ (k3 : Int32).toInt := inltI rfl rfl c_393
                have hI_408 : (k3 : Int32).toInt ≤ (4 : Int) := inltI rfl rfl c_394
                have hI_409 : (k4 : Int32).toInt < (0 : Int) := iltI rfl rfl c_395
                have hmo : mostI k3 = (1000000 : Int) := by unfold mostI; (repeat' split) <;> omega
                have hno : ¬ okTm z2 SX SY k1 k2 k3 k4 := fun q9 => by unfold okTm okH at q9; first | omega | (obtain ⟨⟨_, _⟩, _, _, _, _, _, _, _, _⟩ := q9; first | omega | contradiction)
                rw [hQ]
                exact W.iret (v := (-1)) hx hb hr (fun t ht hW9 => ⟨⟨(-1), M, rfl, ⟨hW, hF, hG, ⟨hGI, (by unfold syTm; rw [if_neg hno]; exact hZS)⟩, (by unfold anTm; rw [if_neg hno])⟩, ⟨2, by rw [ht]; exact hP, hD⟩⟩, hS.F ht⟩) hS.2.2 dX13_term_107
              · have hz := rfl (a := 0)
                refine lv_iload hx hb dX13_term_95 (lv_at hl 5 rfl) ?_
                refine lv_iload hx hb dX13_term_97 (lv_at hl 0 rfl) ?_
                refine lv_icmp_le (tgt := 108) hx hb dX13_term_99 (by decide) (fun c_410 => ?_) (fun c_410 => ?_)
                · have hz := rfl (a := 0)
                  refine lv_aload_n hx hb dX13_term_108 rfl (lv_at hl 1 rfl) ?_
                  refine va_get (D := D) (ci := 13) (v := .ref z1) (C := RX13) (T := TX13) (N := 20) hx hb hg inG13 hown hK hP 0 rfl rfl 1 (by decide) (hg _ wd_739) (fun _ h9 => h9) rfl dX13_term_109 ?_
                  refine lv_iload_n hx hb dX13_term_112 rfl (lv_at hl 2 rfl) ?_
                  have hi_411 : vp_in k1 8 := (inbW (a := z2) (by omega) (inb k1 z2 (by omega) c_7 c_8))
                  refine pg_aldq hx hb hK hP i1.1 9 hM11 rfl hi_411 dX13_term_113 ?_
                  rw [show f11 (k1 : Int32).toNatClampNeg = some b13 from eb_14]
                  refine lv_astore (lv' := [(6, .ref b13), (5, .int 1000000), (0, .ref za), (1, .int k1), (2, .int k2), (3, .int k3), (4, .int k4)]) hx hb dX13_term_114 hl (by decide) rfl (fun ls hl => ?_)
                  refine lv_aload hx hb dX13_term_116 (lv_at hl 0 rfl) ?_
                  refine pg_getN (D := D) (ci := 12) (v := .int (nI v17)) (C := RX12) (T := TX12) (N := 51) hx hb hg inG12 hown hK hP hb_15.1 hM16 rfl 11 (by decide) (hN.use (Cond.fieldLinkNest RX13 142 RX12 "rules" "I" RX13) 20 rfl rfl) (fun _ h9 => h9) hv17 dX13_term_118 ?_
                  refine lv_iconst (v := 1) hx hb dX13_term_121 (by decide) ?_
                  refine lv_isub hx hb dX13_term_122 ?_
                  refine lv_topi (fun f_412 ef_412 => ?_)
                  obtain rfl : f_412 = (nI (v17 - 1)) := ef_412.trans (nI_prd (by omega))
                  refine lv_istore (lv' := [(7, .int (nI (v17 - 1))), (6, .ref b13), (5, .int 1000000), (0, .ref za), (1, .int k1), (2, .int k2), (3, .int k3), (4, .int k4)]) hx hb dX13_term_123 hl (by decide) rfl (fun ls hl => ?_)
                  refine lv_aload hx hb dX13_term_125 (lv_at hl 1 rfl) ?_
                  refine lv_aload hx hb dX13_term_127 (lv_at hl 1 rfl) ?_
                  obtain ⟨v413, hv413, hc413⟩ : ∃ v : Nat, fs16[34]? = some (.ref v : Value) ∧ isk K L v 43 16 := hl16 34 (by decide)
                  refine pg_getN (D := D) (ci := 12) (v := .ref v413) (C := RX12) (T := TX12) (N := 51) hx hb hg inG12 hown hK hP hb_15.1 hM16 rfl 34 (by decide) (hN.use (Cond.fieldLinkNest RX13 145 RX12 "ruleDay" "[I" RX13) 43 rfl rfl) (fun _ h9 => h9) hv413 dX13_term_129 ?_
                  refine lv_iload hx hb dX13_term_132 (lv_at hl 0 rfl) ?_
                  obtain ⟨f414, hM414⟩ := hW.open_43 hc413
                  refine pg_iald hx hb hK hP hc413.1 0 hM414 rfl (inbN (v17 - 1) 16 (by omega) (by omega)) dX13_term_134 ?_
                  refine lv_topi (fun f_415 ef_415 => ?_)
                  have hp34e : SY (k1 : Int32).toNatClampNeg 34 ((nI (v17 - 1)) : Int32).toNatClampNeg = f_415 := by rw [← hZk.2, ax_of hM16 (by decide) hv413 hM414]; exact ef_415.symm
                  have hp34 : (SY (k1 : Int32).toNatClampNeg 34 ((nI (v17 - 1)) : Int32).toNatClampNeg).toInt = (f_415 : Int32).toInt := congrArg Int32.toInt hp34e
                  have hi11 : (SX (k1 : Int32).toNatClampNeg 11 - 1).toNat = (v17 - 1) := by omega
                  have hp34b : (SY (k1 : Int32).toNatClampNeg 34 (SX (k1 : Int32).toNatClampNeg 11 - 1).toNat).toInt = (SY (k1 : Int32).toNatClampNeg 34 (nI (v17 - 1)).toNatClampNeg).toInt := by rw [hi11, nI_cl (by omega)]
                  have hPc : va_P D vwCl ([] ++ va_pl L M) H_2 := hP.part (cx := []) [] rfl
                  have hDc : va_D A ([] ++ va_pl L M) := hD.part (cx := []) [] (by decide) rfl
                  have hFc : ∀ q, va_A ([] ++ va_pl L M) H_2.size q → A q := pg_free hDc hS hA
                  refine va_calli (va_runV (As := [.int f_415]) (rest := []) ⟨hx, hb, hml, hown, hg⟩ (f_isFree l D cy K L M H_2.size b13 f_415  hW hb_15) (cwV 1 hg (gV wd_807 wd_808 wd_809 wd_737 wd_810) rfl rfl rfl (by decide +kernel) ⟨(Nat.le_trans (Nat.le_of_ble_eq_true rfl) hRf), (Nat.le_trans (Nat.le_of_ble_eq_true rfl) hRl)⟩) ⟨PG.blind, pg_recv hK hP hb_15.1 hM16 rfl, fun U hU hW => ⟨rfl, PG.at hPc hK hDc hN hU hW⟩⟩ rfl rfl hl.1 rfl (lv_room (Nat.le_of_ble_eq_true rfl)) dX13_term_135 ⟨(Nat.le_trans (Nat.le_of_ble_eq_true rfl) hRc), (Nat.le_trans (Nat.le_of_ble_eq_true rfl) hRs)⟩) hS (fun q _ h => hFc q h) hFc (fun r_417 M_418 t H_416 locs ht hvm hw hB hz1 hk1 hS => ?_)
                  have hp_419 := hw
                  obtain ⟨hP1, hD1⟩ := hB
                  rw [ht] at hP1
                  obtain ⟨hP, hD⟩ := va_joinP (X := [(za, (b13_0 0 z1 (nI z2) (nI z3) z4 z5 z6 z7 z8 z9 (nI z10) z11 z12 z13 z14 z15 (nI z16) z17 z18 z19))]) (cx := []) (wr := [(za, (b13_0 0 z1 (nI z2) (nI z3) z4 z5 z6 z7 z8 z9 (nI z10) z11 z12 z13 z14 z15 (nI z16) z17 z18 z19))]) (rx := []) (pl := va_pl L M) (pl1 := va_pl L M) hP hD [] [0] rfl rfl (by decide) (by decide) hk1 hFc hP1 hD1
                  have hP : va_P D vwCl ([(za, (b13_0 0 z1 (nI z2) (nI z3) z4 z5 z6 z7 z8 z9 (nI z10) z11 z12 z13 z14 z15 (nI z16) z17 z18 z19))] ++ va_pl L M) H_416 := hP
                  have hD : va_D A ([(za, (b13_0 0 z1 (nI z2) (nI z3) z4 z5 z6 z7 z8 z9 (nI z10) z11 z12 z13 z14 z15 (nI z16) z17 z18 z19))] ++ va_pl L M) := hD
                  rcases hp_419 with ⟨rfl, c_420, c_421, c_422⟩ | ⟨rfl, c_423⟩
                  · have hz := rfl (a := 0)
                    refine lv_if_ne (tgt := 147) hx hb dX13_term_138 (by decide) (fun _ => ?_) (fun c_424 => absurd c_424 (by decide))
                    refine lv_iload_n hx hb dX13_term_147 rfl (lv_at hl 6 rfl) ?_
                    refine lv_iconst (v := 4) hx hb dX13_term_148 (by decide) ?_
                    refine lv_icmp_ne (tgt := 175) hx hb dX13_term_149 (by decide) (fun c_425 => ?_) (fun c_425 => absurd c_425 c_28)
                    refine lv_aload hx hb dX13_term_175 (lv_at hl 1 rfl) ?_
                    refine lv_iload hx hb dX13_term_177 (lv_at hl 0 rfl) ?_
                    refine lv_iload_n hx hb dX13_term_179 rfl (lv_at hl 6 rfl) ?_
                    refine lv_iload_n hx hb dX13_term_180 rfl (lv_at hl 5 rfl) ?_
                    obtain ⟨j_426, hj_427, rfl⟩ := i32nat 4 (by decide) c_393 (neLe c_394 c_425)
                    obtain ⟨j_428, hj_429, rfl⟩ := i32nat 6 (by decide) c_126 (Int32.not_le.mpr c_136)
                    have hPc : va_P D vwCl ([] ++ va_pl L M) H_416 := hP.part (cx := []) [] rfl
                    have hDc : va_D A ([] ++ va_pl L M) := hD.part (cx := []) [] (by decide) rfl
                    have hFc : ∀ q, va_A ([] ++ va_pl L M) H_416.size q → A q := pg_free hDc hS hA
                    refine va_calli (va_runV (As := [.int (nI (v17 - 1)), .int (nI j_426), .int (nI j_428)]) (rest := []) ⟨hx, hb, hml, hown, hg⟩ (f_term l D cy K L M H_416.size b13 (v17 - 1) j_426 j_428  hW hb_15 (by omega) (by omega) (by omega)) (cwV 3 hg (gV wd_770 wd_771 wd_772 wd_737 wd_773) rfl rfl rfl (by decide +kernel) ⟨(Nat.le_trans (Nat.le_of_ble_eq_true rfl) hRf), (Nat.le_trans (Nat.le_of_ble_eq_true rfl) hRl)⟩) ⟨PG.blind, pg_recv hK hP hb_15.1 hM16 rfl, fun U hU hW => ⟨rfl, PG.at hPc hK hDc hN hU hW⟩⟩ rfl rfl hl.1 rfl (lv_room (Nat.le_of_ble_eq_true rfl)) dX13_term_181 ⟨(Nat.le_trans (Nat.le_of_ble_eq_true rfl) hRc), (Nat.le_trans (Nat.le_of_ble_eq_true rfl) hRs)⟩) hS (fun q _ h => hFc q h) hFc (fun r_431 M_432 t H_430 locs ht hvm hw hB hz1 hk1 hS => ?_)
                    have hp_433 := hw
                    obtain ⟨hP1, hD1⟩ := hB
                    rw [ht] at hP1
                    obtain ⟨hP, hD⟩ := va_joinP (X := [(za, (b13_0 0 z1 (nI z2) (nI z3) z4 z5 z6 z7 z8 z9 (nI z10) z11 z12 z13 z14 z15 (nI z16) z17 z18 z19))]) (cx := []) (wr := [(za, (b13_0 0 z1 (nI z2) (nI z3) z4 z5 z6 z7 z8 z9 (nI z10) z11 z12 z13 z14 z15 (nI z16) z17 z18 z19))]) (rx := []) (pl := va_pl L M) (pl1 := va_pl L M) hP hD [] [0] rfl rfl (by decide) (by decide) hk1 hFc hP1 hD1
                    have hP : va_P D vwCl ([(za, (b13_0 0 z1 (nI z2) (nI z3) z4 z5 z6 z7 z8 z9 (nI z10) z11 z12 z13 z14 z15 (nI z16) z17 z18 z19))] ++ va_pl L M) H_430 := hP
                    have hD : va_D A ([(za, (b13_0 0 z1 (nI z2) (nI z3) z4 z5 z6 z7 z8 z9 (nI z10) z11 z12 z13 z14 z15 (nI z16) z17 z18 z19))] ++ va_pl L M) := hD
                    obtain rfl := hp_433
                    refine lv_istore (lv' := [(8, .int (ax M b13 36 ((4 * (v17 - 1) + j_426) * 6 + j_428))), (7, .int (nI (v17 - 1))), (6, .ref b13), (5, .int 1000000), (0, .ref za), (1, .int k1), (2, .int (nI j_428)), (3, .int (nI j_426)), (4, .int k4)]) hx hb dX13_term_184 hl (by decide) rfl (fun ls hl => ?_)
                    refine lv_aload hx hb dX13_term_186 (lv_at hl 2 rfl) ?_
                    obtain ⟨v434, hv434, hc434⟩ : ∃ v : Nat, fs16[36]? = some (.ref v : Value) ∧ isk K L v 78 384 := hl16 36 (by decide)
                    refine pg_getN (D := D) (ci := 12) (v := .ref v434) (C := RX12) (T := TX12) (N := 51) hx hb hg inG12 hown hK hP hb_15.1 hM16 rfl 36 (by decide) (hN.use (Cond.fieldLinkNest RX13 148 RX12 "term" "[I" RX13) 45 rfl rfl) (fun _ h9 => h9) hv434 dX13_term_188 ?_
                    refine lv_iconst (v := 4) hx hb dX13_term_191 (by decide) ?_
                    refine lv_iload hx hb dX13_term_192 (lv_at hl 1 rfl) ?_
                    refine lv_imul hx hb dX13_term_194 ?_
                    refine lv_topi (fun f_435 ef_435 => ?_)
                    obtain rfl : f_435 = (nI (4 * (v17 - 1))) := ef_435.trans (nI_mul 4 (v17 - 1))
                    refine lv_iload_n hx hb dX13_term_195 rfl (lv_at hl 7 rfl) ?_
                    refine lv_iadd hx hb dX13_term_196 ?_
                    refine lv_topi (fun f_436 ef_436 => ?_)
                    obtain rfl : f_436 = (nI ((4 * (v17 - 1)) + j_426)) := ef_436.trans (nI_add (4 * (v17 - 1)) j_426)
                    refine lv_bipush (v := 6) hx hb dX13_term_197 (by decide) ?_
                    refine lv_imul hx hb dX13_term_199 ?_
                    refine lv_topi (fun f_437 ef_437 => ?_)
                    obtain rfl : f_437 = (nI (((4 * (v17 - 1)) + j_426) * 6)) := ef_437.trans (nI_mul ((4 * (v17 - 1)) + j_426) 6)
                    refine lv_iload_n hx hb dX13_term_200 rfl (lv_at hl 6 rfl) ?_
                    refine lv_iadd hx hb dX13_term_201 ?_
                    refine lv_topi (fun f_438 ef_438 => ?_)
                    obtain rfl : f_438 = (nI ((((4 * (v17 - 1)) + j_426) * 6) + j_428)) := ef_438.trans (nI_add (((4 * (v17 - 1)) + j_426) * 6) j_428)
                    refine lv_iload hx hb dX13_term_202 (lv_at hl 8 rfl) ?_
                    obtain ⟨f439, hM439⟩ := hW.open_78 hc434
                    refine pg_iast hx hb hK hP hD hS hc434.1 0 hM439 rfl (inbN ((((4 * (v17 - 1)) + j_426) * 6) + j_428) 384 (by omega) (by omega)) dX13_term_204 (fun H_440 locs hP hD hS => ?_)
                    obtain ⟨M_441, eM_441⟩ : ∃ M1 : Hp, M1 = va_up M v434 (.inl (cy 14, 384, .inl (upd f439 ((nI ((((4 * (v17 - 1)) + j_426) * 6) + j_428)) : Int32).toNatClampNeg k4))) := ⟨_, rfl⟩
                    have hy36 : (ax M b13 36) = f439 := (congrFun hV.2.2.1 36).symm.trans (ax_of hM16 (by decide) hv434 hM439)
                    have hV : VW K L M M_441 b13 (fx M b13) (va_up (ax M b13) 36 (upd (ax M b13 36) ((nI ((((4 * (v17 - 1)) + j_426) * 6) + j_428)) : Int32).toNatClampNeg k4)) := by rw [eM_441]; exact hV.ast (j := 36) hW hb_15 hM16 (by decide) hv434 hc434 hM439
                    have hP : va_P D vwCl ([(za, (b13_0 0 z1 (nI z2) (nI z3) z4 z5 z6 z7 z8 z9 (nI z10) z11 z12 z13 z14 z15 (nI z16) z17 z18 z19))] ++ va_pl L M_441) H_440 := by rw [eM_441]; exact hP
                    have hD : va_D A ([(za, (b13_0 0 z1 (nI z2) (nI z3) z4 z5 z6 z7 z8 z9 (nI z10) z11 z12 z13 z14 z15 (nI z16) z17 z18 z19))] ++ va_pl L M_441) := by rw [eM_441]; exact hD
                    have hW : WOM cy K L M_441 := by rw [eM_441]; exact hW.up_78 hc434 ⟨_, rfl⟩
                    have hF : fr K L [77, 78] M M_441 := by rw [eM_441]; exact hF.up hc434 (by decide)
                    have hG : fG K L [] M M_441 := by rw [eM_441]; exact hG.arr hc434 (by decide)
                    have hM_442 : M_441 v434 = .inl (cy 14, 384, .inl (upd f439 ((nI ((((4 * (v17 - 1)) + j_426) * 6) + j_428)) : Int32).toNatClampNeg k4)) := by rw [eM_441]; exact va_up_self _ _ _
                    have hM_443 : M_441 z1 = .inl (cy 23, 8, .inr (.inr (.inr (.inr (f11))))) := by rw [eM_441, va_up_ne _ _ (i1.neT hc434 (by decide))]; exact hM11
                    have hM_444 : M_441 b13 = .inr (12, fs16) := by rw [eM_441, va_up_ne _ _ (hb_15.neT hc434 (by decide))]; exact hM16
                    have hM_445 : M_441 v413 = .inl (cy 14, 16, .inl (f414)) := by rw [eM_441, va_up_ne _ _ (hc413.neT hc434 (by decide))]; exact hM414
                    obtain ⟨f_446, ef_446⟩ : ∃ f : Nat → Int32, f = upd f439 ((nI ((((4 * (v17 - 1)) + j_426) * 6) + j_428)) : Int32).toNatClampNeg k4 := ⟨_, rfl⟩
                    rw [← ef_446] at hM_442
                    refine lv_aload_n hx hb dX13_term_205 rfl (lv_at hl 4 rfl) ?_
                    refine lv_iload hx hb dX13_term_206 (lv_at hl 0 rfl) ?_
                    have hPc := hP.sub (ws' := [(za, (b13_0 0 z1 (nI z2) (nI z3) z4 z5 z6 z7 z8 z9 (nI z10) z11 z12 z13 z14 z15 (nI z16) z17 z18 z19))]) [0] rfl
                    have hDc := hD.sub (ws' := [(za, (b13_0 0 z1 (nI z2) (nI z3) z4 z5 z6 z7 z8 z9 (nI z10) z11 z12 z13 z14 z15 (nI z16) z17 z18 z19))]) [0] (by decide) rfl
                    have hKc := hK.sub (tys' := []) [] rfl
                    have hFc := va_free (wc := [(za, (b13_0 0 z1 (nI z2) (nI z3) z4 z5 z6 z7 z8 z9 (nI z10) z11 z12 z13 z14 z15 (nI z16) z17 z18 z19))]) hD hS hA [0] rfl
                    refine va_calli (va_runV (As := [.int (ax M b13 36 ((4 * (v17 - 1) + j_426) * 6 + j_428))]) (rest := []) ⟨hx, hb, hml, hown, hg⟩ (m_done l D H_440.size za 0 z1 (nI z2) (nI z3) z4 z5 z6 z7 z8 z9 (nI z10) z11 z12 z13 z14 z15 (nI z16) z17 z18 z19 (ax M b13 36 ((4 * (v17 - 1) + j_426) * 6 + j_428))) (cwV 1 hg (gV wd_730 wd_731 wd_732 wd_717 wd_733) rfl rfl rfl (by decide +kernel) ⟨(Nat.le_trans (Nat.le_of_ble_eq_true rfl) hRf), (Nat.le_trans (Nat.le_of_ble_eq_true rfl) hRl)⟩) ⟨Pr.blind, va_recv hK hP (ci := 13) (q0 := 0) rfl rfl, fun U hU hW => ⟨rfl, Pr.at hPc hKc hDc hN hU hW⟩⟩ rfl rfl hl.1 rfl (lv_room (Nat.le_of_ble_eq_true rfl)) dX13_term_208 ⟨(Nat.le_trans (Nat.le_of_ble_eq_true rfl) hRc), (Nat.le_trans (Nat.le_of_ble_eq_true rfl) hRs)⟩) hS (fun q _ h => hFc q h) hFc (fun r_448 M_449 t H_447 locs ht hvm hw hB hz1 hk1 hS => ?_)
                    have hp_450 := hw
                    obtain ⟨hP1, hK1, hD1⟩ := hB
                    rw [ht] at hP1
                    obtain ⟨hP, hD⟩ := va_joinQ (X := [(za, (b13_0 0 z1 (nI z2) (nI z3) z4 z5 z6 z7 z8 z9 (nI z10) z11 z12 z13 z14 z15 (nI z16) z17 z18 z19))]) (cx := [(za, (b13_0 0 z1 (nI z2) (nI z3) z4 z5 z6 z7 z8 z9 (nI z10) z11 z12 z13 z14 z15 (nI z16) z17 z18 z19))]) (wr := []) (w1 := [(za, (b13_0 0 z1 (nI z2) (nI z3) 0 (-1) z6 z7 z8 z9 (nI z10) z11 z12 z13 z14 z15 (nI z16) z17 z18 z19))]) (pl := va_pl L M_441) hP hD [0] [] rfl rfl (by decide) (by decide) hk1 hFc hP1 hD1
                    have hP : va_P D vwCl ([(za, (b13_0 0 z1 (nI z2) (nI z3) 0 (-1) z6 z7 z8 z9 (nI z10) z11 z12 z13 z14 z15 (nI z16) z17 z18 z19))] ++ va_pl L M_441) H_447 := hP
                    have hD : va_D A ([(za, (b13_0 0 z1 (nI z2) (nI z3) 0 (-1) z6 z7 z8 z9 (nI z10) z11 z12 z13 z14 z15 (nI z16) z17 z18 z19))] ++ va_pl L M_441) := hD
                    have hq := Eq.symm hp_450
                    subst hq
                    have hI_451 : (0 : Int) ≤ (k1 : Int32).toInt := inltI rfl rfl c_7
                    have hI_452 : (k1 : Int32).toInt < ((z2 : Nat) : Int) := inleI (nI_toInt (by omega)) rfl c_8
                    have hI_453 : ((v17 : Nat) : Int) ≠ (0 : Int) := ineI (nI_toInt (by omega)) rfl c_18
                    have hI_454 : ((j_426 : Nat) : Int) ≠ (4 : Int) := ineI (nI_toInt (by omega)) rfl c_28
                    have hI_455 : (0 : Int) ≤ ((j_428 : Nat) : Int) := inltI (nI_toInt (by omega)) rfl c_126
                    have hI_456 : ((j_428 : Nat) : Int) < (6 : Int) := iltI (nI_toInt (by omega)) rfl c_136
                    have hI_457 : ((j_426 : Nat) : Int) = (0 : Int) := ieqI (nI_toInt (by omega)) rfl c_137
                    have hI_458 : (0 : Int) ≤ ((j_426 : Nat) : Int) := inltI (nI_toInt (by omega)) rfl c_393
                    have hI_459 : ((j_426 : Nat) : Int) ≤ (4 : Int) := inltI rfl (nI_toInt (by omega)) c_394
                    have hI_460 : (0 : Int) ≤ (k4 : Int32).toInt := inltI rfl rfl c_395
                    have hI_461 : (k4 : Int32).toInt ≤ (1000000 : Int) := ileI rfl rfl c_410
                    have hI_462 : (0 : Int) ≤ (f_415 : Int32).toInt := inltI rfl rfl c_421
                    have hI_463 : (f_415 : Int32).toInt < (1000 : Int) := inleI rfl rfl c_422
                    have hI_464 : ((j_426 : Nat) : Int) ≠ (4 : Int) := ineI (nI_toInt (by omega)) rfl c_425
                    have hn92 : ((nI j_428) : Int32).toInt = ((j_428 : Nat) : Int) := nI_toInt (by omega)
                    have hn93 : ((nI j_426) : Int32).toInt = ((j_426 : Nat) : Int) := nI_toInt (by omega)
                    have hmo : mostI (nI j_426) = (1000000 : Int) := by unfold mostI; (repeat' split) <;> omega
                    have hyes : okTm z2 SX SY k1 (nI j_428) (nI j_426) k4 := by unfold okTm okH; refine ⟨⟨?_, ?_⟩, ?_, ?_, ?_, ?_, ?_, ?_, ?_, ?_⟩ <;> first | omega | assumption
                    have hA9 : HA (ax M b13 2) (ax M b13 3) := hAT.1
                    have hB9 : HB (fx M b13 16) (fx M b13 14) (ax M b13 3) (ax M b13 43) := hAT.2.1
                    have hC9 : HC (fx M b13 10) (ax M b13 22) (ax M b13 23) := hAT.2.2.1
                    have hD9 : HD (fx M b13 0) (fx M b13 11) (fx M b13 15) (ax M b13 34) (ax M b13 41) := hAT.2.2.2.1
                    have hE9 : HE (fx M b13 0) (fx M b13 1) (fx M b13 12) (fx M b13 13) (ax M b13 37) := hAT.2.2.2.2
                    have hH9 : HI (fx M b13) (va_up (ax M b13) 36 (upd (ax M b13 36) ((nI ((((4 * (v17 - 1)) + j_426) * 6) + j_428)) : Int32).toNatClampNeg k4)) := ⟨hA9, hB9, hC9, hD9, hE9⟩
                    have hGI9 : GI K L z1 z2 M_441 := GI.fin hW0 i1 b2 hGI hact hV (hF.at i1 (by decide)) hH9
                    rw [hQ]
                    exact W.iret (v := (ax M b13 36 ((4 * (v17 - 1) + j_426) * 6 + j_428))) hx hb hr (fun t ht hW9 => ⟨⟨(ax M b13 36 ((4 * (v17 - 1) + j_426) * 6 + j_428)), M_441, rfl, ⟨hW, hF, hG, ⟨hGI9, (by unfold syTm; rw [if_pos hyes, if_neg (by omega), hi11, nI_cl (t := j_426) (by omega), nI_cl (t := j_428) (by omega), show 24 * (v17 - 1) + (6 * j_426 + j_428) = (4 * (v17 - 1) + j_426) * 6 + j_428 by omega]; have hQ9 := ZSx.fin hW0 i1 b2 hZS hGI.1 hkn hb9 hV (hF.at i1 (by decide)) hZk.1 (by rw [hZk.2, nI_cl (by omega)]); rw [va_upJ] at hQ9; exact hQ9)⟩, (by unfold anTm; rw [if_pos hyes, if_neg (by omega), hi11, nI_cl (t := j_426) (by omega), nI_cl (t := j_428) (by omega), ← hZk.2]; congr 1; omega)⟩, ⟨0, by rw [ht]; exact hP, hD⟩⟩, hS.F ht⟩) hS.2.2 dX13_term_211
                  · have hz := rfl (a := 0)
                    refine lv_if_ne (tgt := 147) hx hb dX13_term_138 (by decide) (fun c_465 => absurd c_465 (by decide)) (fun _ => ?_)
                    refine lv_aload_n hx hb dX13_term_141 rfl (lv_at hl 3 rfl) ?_
                    refine lv_iconst (v := 3) hx hb dX13_term_142 (by decide) ?_
                    have hPc := hP.sub (ws' := [(za, (b13_0 0 z1 (nI z2) (nI z3) z4 z5 z6 z7 z8 z9 (nI z10) z11 z12 z13 z14 z15 (nI z16) z17 z18 z19))]) [0] rfl
                    have hDc := hD.sub (ws' := [(za, (b13_0 0 z1 (nI z2) (nI z3) z4 z5 z6 z7 z8 z9 (nI z10) z11 z12 z13 z14 z15 (nI z16) z17 z18 z19))]) [0] (by decide) rfl
                    have hKc := hK.sub (tys' := []) [] rfl
                    have hFc := va_free (wc := [(za, (b13_0 0 z1 (nI z2) (nI z3) z4 z5 z6 z7 z8 z9 (nI z10) z11 z12 z13 z14 z15 (nI z16) z17 z18 z19))]) hD hS hA [0] rfl
                    refine va_calli (va_runV (As := [.int 3]) (rest := []) ⟨hx, hb, hml, hown, hg⟩ (m_refused l D H_416.size za 0 z1 (nI z2) (nI z3) z4 z5 z6 z7 z8 z9 (nI z10) z11 z12 z13 z14 z15 (nI z16) z17 z18 z19 3) (cwV 1 hg (gV wd_725 wd_726 wd_727 wd_717 wd_728) rfl rfl rfl (by decide +kernel) ⟨(Nat.le_trans (Nat.le_of_ble_eq_true rfl) hRf), (Nat.le_trans (Nat.le_of_ble_eq_true rfl) hRl)⟩) ⟨Pr.blind, va_recv hK hP (ci := 13) (q0 := 0) rfl rfl, fun U hU hW => ⟨rfl, Pr.at hPc hKc hDc hN hU hW⟩⟩ rfl rfl hl.1 rfl (lv_room (Nat.le_of_ble_eq_true rfl)) dX13_term_143 ⟨(Nat.le_trans (Nat.le_of_ble_eq_true rfl) hRc), (Nat.le_trans (Nat.le_of_ble_eq_true rfl) hRs)⟩) hS (fun q _ h => hFc q h) hFc (fun r_467 M_468 t H_466 locs ht hvm hw hB hz1 hk1 hS => ?_)
                    have hp_469 := hw
                    obtain ⟨hP1, hK1, hD1⟩ := hB
                    rw [ht] at hP1
                    obtain ⟨hP, hD⟩ := va_joinQ (X := [(za, (b13_0 0 z1 (nI z2) (nI z3) z4 z5 z6 z7 z8 z9 (nI z10) z11 z12 z13 z14 z15 (nI z16) z17 z18 z19))]) (cx := [(za, (b13_0 0 z1 (nI z2) (nI z3) z4 z5 z6 z7 z8 z9 (nI z10) z11 z12 z13 z14 z15 (nI z16) z17 z18 z19))]) (wr := []) (w1 := [(za, (b13_0 0 z1 (nI z2) (nI z3) 3 (-1) z6 z7 z8 z9 (nI z10) z11 z12 z13 z14 z15 (nI z16) z17 z18 z19))]) (pl := va_pl L M) hP hD [0] [] rfl rfl (by decide) (by decide) hk1 hFc hP1 hD1
                    have hP : va_P D vwCl ([(za, (b13_0 0 z1 (nI z2) (nI z3) 3 (-1) z6 z7 z8 z9 (nI z10) z11 z12 z13 z14 z15 (nI z16) z17 z18 z19))] ++ va_pl L M) H_466 := hP
                    have hD : va_D A ([(za, (b13_0 0 z1 (nI z2) (nI z3) 3 (-1) z6 z7 z8 z9 (nI z10) z11 z12 z13 z14 z15 (nI z16) z17 z18 z19))] ++ va_pl L M) := hD
                    have hq := Eq.symm hp_469
                    subst hq
                    have hI_470 : (0 : Int) ≤ (k1 : Int32).toInt := inltI rfl rfl c_7
                    have hI_471 : (k1 : Int32).toInt < ((z2 : Nat) : Int) := inleI (nI_toInt (by omega)) rfl c_8
                    have hI_472 : ((v17 : Nat) : Int) ≠ (0 : Int) := ineI (nI_toInt (by omega)) rfl c_18
                    have hI_473 : (k3 : Int32).toInt ≠ (4 : Int) := ineI rfl rfl c_28
                    have hI_474 : (0 : Int) ≤ (k2 : Int32).toInt := inltI rfl rfl c_126
                    have hI_475 : (k2 : Int32).toInt < (6 : Int) := iltI rfl rfl c_136
                    have hI_476 : (k3 : Int32).toInt = (0 : Int) := ieqI rfl rfl c_137
                    have hI_477 : (0 : Int) ≤ (k3 : Int32).toInt := inltI rfl rfl c_393
                    have hI_478 : (k3 : Int32).toInt ≤ (4 : Int) := inltI rfl rfl c_394
                    have hI_479 : (0 : Int) ≤ (k4 : Int32).toInt := inltI rfl rfl c_395
                    have hI_480 : (k4 : Int32).toInt ≤ (1000000 : Int) := ileI rfl rfl c_410
                    have hmo : mostI k3 = (1000000 : Int) := by unfold mostI; (repeat' split) <;> omega
                    have hno : ¬ okTm z2 SX SY k1 k2 k3 k4 := fun q9 => by unfold okTm okH at q9; first | omega | (obtain ⟨⟨_, _⟩, _, _, _, _, _, _, _, _⟩ := q9; first | omega | contradiction)
                    rw [hQ]
                    exact W.iret (v := (-1)) hx hb hr (fun t ht hW9 => ⟨⟨(-1), M, rfl, ⟨hW, hF, hG, ⟨hGI, (by unfold syTm; rw [if_neg hno]; exact hZS)⟩, (by unfold anTm; rw [if_neg hno])⟩, ⟨3, by rw [ht]; exact hP, hD⟩⟩, hS.F ht⟩) hS.2.2 dX13_term_146
                · have hz := rfl (a := 0)
                  have n_481 : ¬ k4 < 0 := gtN (c := 1000000) (by omega) (Int32.not_le.mp c_410)
                  refine lv_aload_n hx hb dX13_term_102 rfl (lv_at hl 1 rfl) ?_
                  refine lv_iconst (v := 2) hx hb dX13_term_103 (by decide) ?_
                  have hPc := hP.sub (ws' := [(za, (b13_0 0 z1 (nI z2) (nI z3) z4 z5 z6 z7 z8 z9 (nI z10) z11 z12 z13 z14 z15 (nI z16) z17 z18 z19))]) [0] rfl
                  have hDc := hD.sub (ws' := [(za, (b13_0 0 z1 (nI z2) (nI z3) z4 z5 z6 z7 z8 z9 (nI z10) z11 z12 z13 z14 z15 (nI z16) z17 z18 z19))]) [0] (by decide) rfl
                  have hKc := hK.sub (tys' := []) [] rfl
                  have hFc := va_free (wc := [(za, (b13_0 0 z1 (nI z2) (nI z3) z4 z5 z6 z7 z8 z9 (nI z10) z11 z12 z13 z14 z15 (nI z16) z17 z18 z19))]) hD hS hA [0] rfl
                  refine va_calli (va_runV (As := [.int 2]) (rest := []) ⟨hx, hb, hml, hown, hg⟩ (m_refused l D H_2.size za 0 z1 (nI z2) (nI z3) z4 z5 z6 z7 z8 z9 (nI z10) z11 z12 z13 z14 z15 (nI z16) z17 z18 z19 2) (cwV 1 hg (gV wd_725 wd_726 wd_727 wd_717 wd_728) rfl rfl rfl (by decide +kernel) ⟨(Nat.le_trans (Nat.le_of_ble_eq_true rfl) hRf), (Nat.le_trans (Nat.le_of_ble_eq_true rfl) hRl)⟩) ⟨Pr.blind, va_recv hK hP (ci := 13) (q0 := 0) rfl rfl, fun U hU hW => ⟨rfl, Pr.at hPc hKc hDc hN hU hW⟩⟩ rfl rfl hl.1 rfl (lv_room (Nat.le_of_ble_eq_true rfl)) dX13_term_104 ⟨(Nat.le_trans (Nat.le_of_ble_eq_true rfl) hRc), (Nat.le_trans (Nat.le_of_ble_eq_true rfl) hRs)⟩) hS (fun q _ h => hFc q h) hFc (fun r_483 M_484 t H_482 locs ht hvm hw hB hz1 hk1 hS => ?_)
                  have hp_485 := hw
                  obtain ⟨hP1, hK1, hD1⟩ := hB
                  rw [ht] at hP1
                  obtain ⟨hP, hD⟩ := va_joinQ (X := [(za, (b13_0 0 z1 (nI z2) (nI z3) z4 z5 z6 z7 z8 z9 (nI z10) z11 z12 z13 z14 z15 (nI z16) z17 z18 z19))]) (cx := [(za, (b13_0 0 z1 (nI z2) (nI z3) z4 z5 z6 z7 z8 z9 (nI z10) z11 z12 z13 z14 z15 (nI z16) z17 z18 z19))]) (wr := []) (w1 := [(za, (b13_0 0 z1 (nI z2) (nI z3) 2 (-1) z6 z7 z8 z9 (nI z10) z11 z12 z13 z14 z15 (nI z16) z17 z18 z19))]) (pl := va_pl L M) hP hD [0] [] rfl rfl (by decide) (by decide) hk1 hFc hP1 hD1
                  have hP : va_P D vwCl ([(za, (b13_0 0 z1 (nI z2) (nI z3) 2 (-1) z6 z7 z8 z9 (nI z10) z11 z12 z13 z14 z15 (nI z16) z17 z18 z19))] ++ va_pl L M) H_482 := hP
                  have hD : va_D A ([(za, (b13_0 0 z1 (nI z2) (nI z3) 2 (-1) z6 z7 z8 z9 (nI z10) z11 z12 z13 z14 z15 (nI z16) z17 z18 z19))] ++ va_pl L M) := hD
                  have hq := Eq.symm hp_485
                  subst hq
                  have hI_486 : (0 : Int) ≤ (k1 : Int32).toInt := inltI rfl rfl c_7
                  have hI_487 : (k1 : Int32).toInt < ((z2 : Nat) : Int) := inleI (nI_toInt (by omega)) rfl c_8
                  have hI_488 : ((v17 : Nat) : Int) ≠ (0 : Int) := ineI (nI_toInt (by omega)) rfl c_18
                  have hI_489 : (k3 : Int32).toInt ≠ (4 : Int) := ineI rfl rfl c_28
                  have hI_490 : (0 : Int) ≤ (k2 : Int32).toInt := inltI rfl rfl c_126
                  have hI_491 : (k2 : Int32).toInt < (6 : Int) := iltI rfl rfl c_136
                  have hI_492 : (k3 : Int32).toInt = (0 : Int) := ieqI rfl rfl c_137
                  have hI_493 : (0 : Int) ≤ (k3 : Int32).toInt := inltI rfl rfl c_393
                  have hI_494 : (k3 : Int32).toInt ≤ (4 : Int) := inltI rfl rfl c_394
                  have hI_495 : (0 : Int) ≤ (k4 : Int32).toInt := inltI rfl rfl c_395
                  have hI_496 : (1000000 : Int) < (k4 : Int32).toInt := inleI rfl rfl c_410
                  have hI_497 : (0 : Int) ≤ (k4 : Int32).toInt := inltI rfl rfl n_481
                  have hmo : mostI k3 = (1000000 : Int) := by unfold mostI; (repeat' split) <;> omega
                  have hno : ¬ okTm z2 SX SY k1 k2 k3 k4 := fun q9 => by unfold okTm okH at q9; first | omega | (obtain ⟨⟨_, _⟩, _, _, _, _, _, _, _, _⟩ := q9; first | omega | contradiction)
                  rw [hQ]
                  exact W.iret (v := (-1)) hx hb hr (fun t ht hW9 => ⟨⟨(-1), M, rfl, ⟨hW, hF, hG, ⟨hGI, (by unfold syTm; rw [if_neg hno]; exact hZS)⟩, (by unfold anTm; rw [if_neg hno])⟩, ⟨2, by rw [ht]; exact hP, hD⟩⟩, hS.F ht⟩) hS.2.2 dX13_term_107
          · have hz := rfl (a := 0)
            refine lv_aload_n hx hb dX13_term_40 rfl (lv_at hl 0 rfl) ?_
            refine lv_iconst (v := 1) hx hb dX13_term_41 (by decide) ?_
            have hPc := hP.sub (ws' := [(za, (b13_0 0 z1 (nI z2) (nI z3) z4 z5 z6 z7 z8 z9 (nI z10) z11 z12 z13 z14 z15 (nI z16) z17 z18 z19))]) [0] rfl
            have hDc := hD.sub (ws' := [(za, (b13_0 0 z1 (nI z2) (nI z3) z4 z5 z6 z7 z8 z9 (nI z10) z11 z12 z13 z14 z15 (nI z16) z17 z18 z19))]) [0] (by decide) rfl
            have hKc := hK.sub (tys' := []) [] rfl
            have hFc := va_free (wc := [(za, (b13_0 0 z1 (nI z2) (nI z3) z4 z5 z6 z7 z8 z9 (nI z10) z11 z12 z13 z14 z15 (nI z16) z17 z18 z19))]) hD hS hA [0] rfl
            refine va_calli (va_runV (As := [.int 1]) (rest := []) ⟨hx, hb, hml, hown, hg⟩ (m_refused l D H_2.size za 0 z1 (nI z2) (nI z3) z4 z5 z6 z7 z8 z9 (nI z10) z11 z12 z13 z14 z15 (nI z16) z17 z18 z19 1) (cwV 1 hg (gV wd_725 wd_726 wd_727 wd_717 wd_728) rfl rfl rfl (by decide +kernel) ⟨(Nat.le_trans (Nat.le_of_ble_eq_true rfl) hRf), (Nat.le_trans (Nat.le_of_ble_eq_true rfl) hRl)⟩) ⟨Pr.blind, va_recv hK hP (ci := 13) (q0 := 0) rfl rfl, fun U hU hW => ⟨rfl, Pr.at hPc hKc hDc hN hU hW⟩⟩ rfl rfl hl.1 rfl (lv_room (Nat.le_of_ble_eq_true rfl)) dX13_term_42 ⟨(Nat.le_trans (Nat.le_of_ble_eq_true rfl) hRc), (Nat.le_trans (Nat.le_of_ble_eq_true rfl) hRs)⟩) hS (fun q _ h => hFc q h) hFc (fun r_499 M_500 t H_498 locs ht hvm hw hB hz1 hk1 hS => ?_)
            have hp_501 := hw
            obtain ⟨hP1, hK1, hD1⟩ := hB
            rw [ht] at hP1
            obtain ⟨hP, hD⟩ := va_joinQ (X := [(za, (b13_0 0 z1 (nI z2) (nI z3) z4 z5 z6 z7 z8 z9 (nI z10) z11 z12 z13 z14 z15 (nI z16) z17 z18 z19))]) (cx := [(za, (b13_0 0 z1 (nI z2) (nI z3) z4 z5 z6 z7 z8 z9 (nI z10) z11 z12 z13 z14 z15 (nI z16) z17 z18 z19))]) (wr := []) (w1 := [(za, (b13_0 0 z1 (nI z2) (nI z3) 1 (-1) z6 z7 z8 z9 (nI z10) z11 z12 z13 z14 z15 (nI z16) z17 z18 z19))]) (pl := va_pl L M) hP hD [0] [] rfl rfl (by decide) (by decide) hk1 hFc hP1 hD1
            have hP : va_P D vwCl ([(za, (b13_0 0 z1 (nI z2) (nI z3) 1 (-1) z6 z7 z8 z9 (nI z10) z11 z12 z13 z14 z15 (nI z16) z17 z18 z19))] ++ va_pl L M) H_498 := hP
            have hD : va_D A ([(za, (b13_0 0 z1 (nI z2) (nI z3) 1 (-1) z6 z7 z8 z9 (nI z10) z11 z12 z13 z14 z15 (nI z16) z17 z18 z19))] ++ va_pl L M) := hD
            have hq := Eq.symm hp_501
            subst hq
            have hI_502 : (0 : Int) ≤ (k1 : Int32).toInt := inltI rfl rfl c_7
            have hI_503 : (k1 : Int32).toInt < ((z2 : Nat) : Int) := inleI (nI_toInt (by omega)) rfl c_8
            have hI_504 : ((v17 : Nat) : Int) ≠ (0 : Int) := ineI (nI_toInt (by omega)) rfl c_18
            have hI_505 : (k3 : Int32).toInt ≠ (4 : Int) := ineI rfl rfl c_28
            have hI_506 : (0 : Int) ≤ (k2 : Int32).toInt := inltI rfl rfl c_126
            have hI_507 : (6 : Int) ≤ (k2 : Int32).toInt := inltI rfl rfl c_136
            have hno : ¬ okTm z2 SX SY k1 k2 k3 k4 := fun q9 => by unfold okTm okH at q9; first | omega | (obtain ⟨⟨_, _⟩, _, _, _, _, _, _, _, _⟩ := q9; first | omega | contradiction)
            rw [hQ]
            exact W.iret (v := (-1)) hx hb hr (fun t ht hW9 => ⟨⟨(-1), M, rfl, ⟨hW, hF, hG, ⟨hGI, (by unfold syTm; rw [if_neg hno]; exact hZS)⟩, (by unfold anTm; rw [if_neg hno])⟩, ⟨1, by rw [ht]; exact hP, hD⟩⟩, hS.F ht⟩) hS.2.2 dX13_term_45
  · have hz := rfl (a := 0)
    refine lv_if_eq (tgt := 40) hx hb dX13_term_10 (by decide) (fun _ => ?_) (fun c_508 => absurd c_508 (by decide))
    refine lv_aload_n hx hb dX13_term_40 rfl (lv_at hl 0 rfl) ?_
    refine lv_iconst (v := 1) hx hb dX13_term_41 (by decide) ?_
    have hPc := hP.sub (ws' := [(za, (b13_0 0 z1 (nI z2) (nI z3) z4 z5 z6 z7 z8 z9 (nI z10) z11 z12 z13 z14 z15 (nI z16) z17 z18 z19))]) [0] rfl
    have hDc := hD.sub (ws' := [(za, (b13_0 0 z1 (nI z2) (nI z3) z4 z5 z6 z7 z8 z9 (nI z10) z11 z12 z13 z14 z15 (nI z16) z17 z18 z19))]) [0] (by decide) rfl
    have hKc := hK.sub (tys' := []) [] rfl
    have hFc := va_free (wc := [(za, (b13_0 0 z1 (nI z2) (nI z3) z4 z5 z6 z7 z8 z9 (nI z10) z11 z12 z13 z14 z15 (nI z16) z17 z18 z19))]) hD hS hA [0] rfl
    refine va_calli (va_runV (As := [.int 1]) (rest := []) ⟨hx, hb, hml, hown, hg⟩ (m_refused l D H_2.size za 0 z1 (nI z2) (nI z3) z4 z5 z6 z7 z8 z9 (nI z10) z11 z12 z13 z14 z15 (nI z16) z17 z18 z19 1) (cwV 1 hg (gV wd_725 wd_726 wd_727 wd_717 wd_728) rfl rfl rfl (by decide +kernel) ⟨(Nat.le_trans (Nat.le_of_ble_eq_true rfl) hRf), (Nat.le_trans (Nat.le_of_ble_eq_true rfl) hRl)⟩) ⟨Pr.blind, va_recv hK hP (ci := 13) (q0 := 0) rfl rfl, fun U hU hW => ⟨rfl, Pr.at hPc hKc hDc hN hU hW⟩⟩ rfl rfl hl.1 rfl (lv_room (Nat.le_of_ble_eq_true rfl)) dX13_term_42 ⟨(Nat.le_trans (Nat.le_of_ble_eq_true rfl) hRc), (Nat.le_trans (Nat.le_of_ble_eq_true rfl) hRs)⟩) hS (fun q _ h => hFc q h) hFc (fun r_510 M_511 t H_509 locs ht hvm hw hB hz1 hk1 hS => ?_)
    have hp_512 := hw
    obtain ⟨hP1, hK1, hD1⟩ := hB
    rw [ht] at hP1
    obtain ⟨hP, hD⟩ := va_joinQ (X := [(za, (b13_0 0 z1 (nI z2) (nI z3) z4 z5 z6 z7 z8 z9 (nI z10) z11 z12 z13 z14 z15 (nI z16) z17 z18 z19))]) (cx := [(za, (b13_0 0 z1 (nI z2) (nI z3) z4 z5 z6 z7 z8 z9 (nI z10) z11 z12 z13 z14 z15 (nI z16) z17 z18 z19))]) (wr := []) (w1 := [(za, (b13_0 0 z1 (nI z2) (nI z3) 1 (-1) z6 z7 z8 z9 (nI z10) z11 z12 z13 z14 z15 (nI z16) z17 z18 z19))]) (pl := va_pl L M) hP hD [0] [] rfl rfl (by decide) (by decide) hk1 hFc hP1 hD1
    have hP : va_P D vwCl ([(za, (b13_0 0 z1 (nI z2) (nI z3) 1 (-1) z6 z7 z8 z9 (nI z10) z11 z12 z13 z14 z15 (nI z16) z17 z18 z19))] ++ va_pl L M) H_509 := hP
    have hD : va_D A ([(za, (b13_0 0 z1 (nI z2) (nI z3) 1 (-1) z6 z7 z8 z9 (nI z10) z11 z12 z13 z14 z15 (nI z16) z17 z18 z19))] ++ va_pl L M) := hD
    have hq := Eq.symm hp_512
    subst hq
    have hno : ¬ okTm z2 SX SY k1 k2 k3 k4 := fun q9 => by unfold okTm okH at q9; first | omega | (obtain ⟨⟨_, _⟩, _, _, _, _, _, _, _, _⟩ := q9; first | omega | contradiction)
    rw [hQ]
    exact W.iret (v := (-1)) hx hb hr (fun t ht hW9 => ⟨⟨(-1), M, rfl, ⟨hW, hF, hG, ⟨hGI, (by unfold syTm; rw [if_neg hno]; exact hZS)⟩, (by unfold anTm; rw [if_neg hno])⟩, ⟨1, by rw [ht]; exact hP, hD⟩⟩, hS.F ht⟩) hS.2.2 dX13_term_45
