
set_option maxHeartbeats 4000000 in
set_option maxRecDepth 100000 in
theorem g_X13_bear (l : Launch) (D : va_G) (cy : Nat → ClassId) (K : Kp) (L : List Nat) (M : Hp) (sz : Nat) (za : Nat) (z0 : Int32) (z1 : Nat) (z2 : Nat) (z3 : Nat) (z4 : Int32) (z5 : Int32) (z6 : Nat) (z7 : Nat) (z8 : Nat) (z9 : Nat) (z10 : Nat) (z11 : Nat) (z12 : Nat) (z13 : Nat) (z14 : Nat) (z15 : Nat) (z16 : Nat) (z17 : Nat) (z18 : Int32) (z19 : Nat) (k1 : Int32) (k2 : Int32) (k3 : Int32) (hW : WOM cy K L M) (i1 : isk K L z1 23 8) (b2 : z2 ≤ 8) (b3 : z3 ≤ 40) (i6 : isk K L z6 47 40) (i7 : isk K L z7 48 40) (i8 : isk K L z8 49 8) (i9 : isk K L z9 50 8) (b10 : z10 ≤ 8) (i11 : isk K L z11 32 24) (i12 : isk K L z12 14 24) (i13 : isk K L z13 97 24) (i14 : isk K L z14 98 24) (i15 : isk K L z15 99 24) (b16 : z16 ≤ 24) (i17 : isk K L z17 14 24) (i19 : isk K L z19 15 25) (hGI : GI K L z1 z2 M) : Met l yX13_bear (wsM yX13_bear cX13_bear 9 (some .int)) ({ frames := 4, cells := 0, slots := 0, locals := 107 }) (va_Pc [.ref za, .int k1, .int k2, .int k3] (PG D cy [(za, (b13_0 z0 z1 (nI z2) (nI z3) z4 z5 z6 z7 z8 z9 (nI z10) z11 z12 z13 z14 z15 (nI z16) z17 z18 z19))] L M sz)) (va_Qi (fun (r : Int32) (M9 : Hp) => WOM cy K L M9 ∧ fr K L [14, 15, 32, 97, 98, 99] M M9 ∧ (GI K L z1 z2 M9) ∧ (True)) (fun M9 t => ∃ (w4 : Int32) (w16 : Nat) (w18 : Int32), w16 ≤ 24 ∧ PQ D [(za, (b13_0 0 z1 (nI z2) (nI z3) w4 (-1) z6 z7 z8 z9 (nI z10) z11 z12 z13 z14 z15 (nI w16) z17 w18 z19))] L M9 (va_A ([(za, (b13_0 z0 z1 (nI z2) (nI z3) z4 z5 z6 z7 z8 z9 (nI z10) z11 z12 z13 z14 z15 (nI z16) z17 z18 z19))] ++ va_pl L M) sz) t) (va_A ([(za, (b13_0 z0 z1 (nI z2) (nI z3) z4 z5 z6 z7 z8 z9 (nI z10) z11 z12 z13 z14 z15 (nI z16) z17 z18 z19))] ++ va_pl L M) sz)) 0 0 (va_A ([(za, (b13_0 z0 z1 (nI z2) (nI z3) z4 z5 z6 z7 z8 z9 (nI z10) z11 z12 z13 z14 z15 (nI z16) z17 z18 z19))] ++ va_pl L M) sz) := by
  refine Met.ofW (cc := cX13_bear) (maxL := 9) (ret := (some .int)) (by decide) rfl ?_
  intro p e s m args below meth c s₁ B hml hv
  obtain ⟨rfl, hsz, hP, hK, hD0, hN⟩ := hv
  have hx := B.exec
  have hb := B.bytes
  have hr := B.returns
  have hts := atoms_spec (ws := (wsM yX13_bear cX13_bear 9 (some .int))) B.pre
  have hg : ∀ w ∈ lw_good, w.before _ s = true := fun w h => hts w (List.mem_cons_of_mem _ h)
  have hown : s.vm.findClass RX13 = some m.cls := findClass_of_methodNamed B.named
  have hlocks := B.notSynchronized
  subst hsz
  have hD := hD0.self (sz := s.heap.size)
  generalize hAe : va_A ([(za, (b13_0 z0 z1 (nI z2) (nI z3) z4 z5 z6 z7 z8 z9 (nI z10) z11 z12 z13 z14 z15 (nI z16) z17 z18 z19))] ++ va_pl L M) s.heap.size = A at hD ⊢
  have hA : ∀ q : Nat, s.heap.size ≤ q → A q := fun q h => by rw [← hAe]; exact Or.inr h
  have hS : va_S A s.heap s.heap [] := va_S.rf
  have hl := lv_entry ([.ref za, .int k1, .int k2, .int k3]) (n := 9) (Nat.le_of_ble_eq_true rfl)
  rw [lg_entry_eq]
  generalize (lg_sl ([.ref za, .int k1, .int k2, .int k3]) ++ List.replicate (9 - (lg_sl ([.ref za, .int k1, .int k2, .int k3])).length) Slot.unset).toArray = ls at hl ⊢
  refine W.nameQ (fun Q hQ => ?_)
  refine W.nameR (fun R hR => ?_)
  have hRf : 4 ≤ R.frames := by rw [hR]; exact Nat.le_of_ble_eq_true rfl
  have hRl : 107 ≤ R.locals := by rw [hR]; exact Nat.le_of_ble_eq_true rfl
  have hRc : 0 ≤ R.cells := by rw [hR]; exact Nat.le_of_ble_eq_true rfl
  have hRs : 0 ≤ R.slots := by rw [hR]; exact Nat.le_of_ble_eq_true rfl
  have hF : fr K L [14, 15, 32, 97, 98, 99] M M := fr.rf
  have hl : lv_has ls 9 [(0, .ref za), (1, .int k1), (2, .int k2), (3, .int k3)] := hl
  have hW0 := hW
  refine lv_aload_n hx hb dX13_bear_0 rfl (lv_at hl 0 rfl) ?_
  refine lv_iconst (v := 0) hx hb dX13_bear_1 (by decide) ?_
  refine va_put (D := D) (ci := 13) (v := .int 0) (ty := .int) (C := RX13) (T := TX13) (N := 20) hx hb hg inG13 tyX13 tyX13_ok nmX13 hown hK hP hD hS 0 rfl rfl 0 (by decide) (hg _ wd_720) (fun _ h9 => h9) rfl (by decide +kernel) rfl rfl (Nat.le_of_ble_eq_true rfl) dX13_bear_2 (fun H_1 locs hP hD hS => ?_)
  have hP : va_P D vwCl ([(za, (b13_0 0 z1 (nI z2) (nI z3) z4 z5 z6 z7 z8 z9 (nI z10) z11 z12 z13 z14 z15 (nI z16) z17 z18 z19))] ++ va_pl L M) H_1 := hP
  have hD : va_D A ([(za, (b13_0 0 z1 (nI z2) (nI z3) z4 z5 z6 z7 z8 z9 (nI z10) z11 z12 z13 z14 z15 (nI z16) z17 z18 z19))] ++ va_pl L M) := hD
  refine lv_aload_n hx hb dX13_bear_5 rfl (lv_at hl 0 rfl) ?_
  refine lv_iload_n hx hb dX13_bear_6 rfl (lv_at hl 1 rfl) ?_
  have hPc : va_P D vwCl ([(za, (b13_0 0 z1 (nI z2) (nI z3) z4 z5 z6 z7 z8 z9 (nI z10) z11 z12 z13 z14 z15 (nI z16) z17 z18 z19))] ++ va_pl L M) H_1 := hP
  have hDc : va_D A ([(za, (b13_0 0 z1 (nI z2) (nI z3) z4 z5 z6 z7 z8 z9 (nI z10) z11 z12 z13 z14 z15 (nI z16) z17 z18 z19))] ++ va_pl L M) := hD
  have hFc : ∀ q, va_A ([(za, (b13_0 0 z1 (nI z2) (nI z3) z4 z5 z6 z7 z8 z9 (nI z10) z11 z12 z13 z14 z15 (nI z16) z17 z18 z19))] ++ va_pl L M) H_1.size q → A q := pg_free hDc hS hA
  refine va_calli (va_runV (As := [.int k1]) (rest := []) ⟨hx, hb, hml, hown, hg⟩ (r_X13_isHouse l D cy K L M H_1.size za 0 z1 z2 z3 z4 z5 z6 z7 z8 z9 z10 z11 z12 z13 z14 z15 z16 z17 z18 z19 k1  hW i1 b2 b3 i6 i7 i8 i9 b10 i11 i12 i13 i14 i15 b16 i17 i19) (cwV 1 hg (gV wd_714 wd_715 wd_716 wd_717 wd_718) rfl rfl rfl (by decide +kernel) ⟨(Nat.le_trans (Nat.le_of_ble_eq_true rfl) hRf), (Nat.le_trans (Nat.le_of_ble_eq_true rfl) hRl)⟩) ⟨PG.blind, va_recv hK hP (ci := 13) (q0 := 0) rfl rfl, fun U hU hW => ⟨rfl, PG.at hPc hK hDc hN hU hW⟩⟩ rfl rfl hl.1 rfl (lv_room (Nat.le_of_ble_eq_true rfl)) dX13_bear_7 ⟨(Nat.le_trans (Nat.le_of_ble_eq_true rfl) hRc), (Nat.le_trans (Nat.le_of_ble_eq_true rfl) hRs)⟩) hS (fun q _ h => hFc q h) hFc (fun r_3 M_4 t H_2 locs ht hvm hw hB hz1 hk1 hS => ?_)
  have hp_5 := hw
  obtain ⟨hP1, hD1⟩ := hB
  rw [ht] at hP1
  have hP : va_P D vwCl ([(za, (b13_0 0 z1 (nI z2) (nI z3) z4 z5 z6 z7 z8 z9 (nI z10) z11 z12 z13 z14 z15 (nI z16) z17 z18 z19))] ++ va_pl L M) H_2 := hP1
  have hD : va_D A ([(za, (b13_0 0 z1 (nI z2) (nI z3) z4 z5 z6 z7 z8 z9 (nI z10) z11 z12 z13 z14 z15 (nI z16) z17 z18 z19))] ++ va_pl L M) := hD1.mono hFc
  rcases hp_5 with ⟨rfl, c_6, c_7⟩ | rfl
  · have hz := rfl (a := 0)
    refine lv_if_eq (tgt := 25) hx hb dX13_bear_10 (by decide) (fun c_8 => absurd c_8 (by decide)) (fun _ => ?_)
    refine lv_aload_n hx hb dX13_bear_13 rfl (lv_at hl 0 rfl) ?_
    refine va_get (D := D) (ci := 13) (v := .ref z1) (C := RX13) (T := TX13) (N := 20) hx hb hg inG13 hown hK hP 0 rfl rfl 1 (by decide) (hg _ wd_739) (fun _ h9 => h9) rfl dX13_bear_14 ?_
    refine lv_iload_n hx hb dX13_bear_17 rfl (lv_at hl 1 rfl) ?_
    obtain ⟨f9, hM9, hf9⟩ := hW.open_23 i1
    have hi_10 : vp_in k1 8 := (inbW (a := z2) (by omega) (inb k1 z2 (by omega) c_6 c_7))
    refine pg_aldq hx hb hK hP i1.1 9 hM9 rfl hi_10 dX13_bear_18 ?_
    obtain ⟨b11, eb_12, hb_13⟩ := hf9 _ (vp_lt hi_10)
    rw [eb_12]
    have hact : ACT z1 z2 b11 M := ⟨(k1 : Int32).toNatClampNeg, vp_lt (inb k1 z2 (by omega) c_6 c_7), by rw [show RFc (M z1) = f9 from by rw [hM9]; rfl]; exact eb_12⟩
    have hAT := GI.at hGI hact
    have hV : VW K L M M b11 (fx M b11) (ax M b11) := VW.rf b11 hGI.2.2.2
    obtain ⟨fs14, hM14, hn14, hl14⟩ := hW.open_12 hb_13
    obtain ⟨v15, hv15, hc15⟩ : ∃ v : Nat, fs14[11]? = some (.int (nI v) : Value) ∧ v ≤ 16 := hl14 11 (by decide)
    refine pg_getN (D := D) (ci := 12) (v := .int (nI v15)) (C := RX12) (T := TX12) (N := 51) hx hb hg inG12 hown hK hP hb_13.1 hM14 rfl 11 (by decide) (hN.use (Cond.fieldLinkNest RX13 142 RX12 "rules" "I" RX13) 20 rfl rfl) (fun _ h9 => h9) hv15 dX13_bear_19 ?_
    refine lv_if_ne (tgt := 31) hx hb dX13_bear_22 (by decide) (fun c_16 => ?_) (fun c_16 => ?_)
    · have hz := rfl (a := 0)
      have n_17 : ¬ (v15 = 0) := fun q => c_16 ((iEQ (a := v15) (b := 0) (by omega) (by omega)).mpr q)
      refine lv_iload_n hx hb dX13_bear_31 rfl (lv_at hl 3 rfl) ?_
      have hPc : va_P D vwCl ([] ++ va_pl L M) H_2 := hP.part (cx := []) [] rfl
      have hDc : va_D A ([] ++ va_pl L M) := hD.part (cx := []) [] (by decide) rfl
      have hFc : ∀ q, va_A ([] ++ va_pl L M) H_2.size q → A q := pg_free hDc hS hA
      refine va_calli (va_runS (As := [.int k3]) (rest := []) ⟨hx, hb, hml, hown, hg⟩ (r_X13_isSum l D cy K L M H_2.size k3  hW ) (va_cwS 1 hg (gS wd_774 wd_775 wd_717 wd_776) rfl rfl rfl (by decide +kernel) ⟨(Nat.le_trans (Nat.le_of_ble_eq_true rfl) hRf), (Nat.le_trans (Nat.le_of_ble_eq_true rfl) hRl)⟩) ⟨PG.blind, fun U hU hW => ⟨rfl, PG.at hPc hK hDc hN hU hW⟩⟩ rfl rfl hl.1 rfl (lv_room (Nat.le_of_ble_eq_true rfl)) dX13_bear_32 ⟨(Nat.le_trans (Nat.le_of_ble_eq_true rfl) hRc), (Nat.le_trans (Nat.le_of_ble_eq_true rfl) hRs)⟩) hS (fun q _ h => hFc q h) hFc (fun r_19 M_20 t H_18 locs ht hvm hw hB hz1 hk1 hS => ?_)
      have hp_21 := hw
      obtain ⟨hP1, hD1⟩ := hB
      rw [ht] at hP1
      obtain ⟨hP, hD⟩ := va_joinP (X := [(za, (b13_0 0 z1 (nI z2) (nI z3) z4 z5 z6 z7 z8 z9 (nI z10) z11 z12 z13 z14 z15 (nI z16) z17 z18 z19))]) (cx := []) (wr := [(za, (b13_0 0 z1 (nI z2) (nI z3) z4 z5 z6 z7 z8 z9 (nI z10) z11 z12 z13 z14 z15 (nI z16) z17 z18 z19))]) (rx := []) (pl := va_pl L M) (pl1 := va_pl L M) hP hD [] [0] rfl rfl (by decide) (by decide) hk1 hFc hP1 hD1
      have hP : va_P D vwCl ([(za, (b13_0 0 z1 (nI z2) (nI z3) z4 z5 z6 z7 z8 z9 (nI z10) z11 z12 z13 z14 z15 (nI z16) z17 z18 z19))] ++ va_pl L M) H_18 := hP
      have hD : va_D A ([(za, (b13_0 0 z1 (nI z2) (nI z3) z4 z5 z6 z7 z8 z9 (nI z10) z11 z12 z13 z14 z15 (nI z16) z17 z18 z19))] ++ va_pl L M) := hD
      rcases hp_21 with rfl | rfl
      · have hz := rfl (a := 0)
        refine lv_if_ne (tgt := 44) hx hb dX13_bear_35 (by decide) (fun _ => ?_) (fun c_22 => absurd c_22 (by decide))
        refine lv_aload_n hx hb dX13_bear_44 rfl (lv_at hl 0 rfl) ?_
        refine va_get (D := D) (ci := 13) (v := .ref z1) (C := RX13) (T := TX13) (N := 20) hx hb hg inG13 hown hK hP 0 rfl rfl 1 (by decide) (hg _ wd_739) (fun _ h9 => h9) rfl dX13_bear_45 ?_
        refine lv_iload_n hx hb dX13_bear_48 rfl (lv_at hl 1 rfl) ?_
        have hi_23 : vp_in k1 8 := (inbW (a := z2) (by omega) (inb k1 z2 (by omega) c_6 c_7))
        refine pg_aldq hx hb hK hP i1.1 9 hM9 rfl hi_23 dX13_bear_49 ?_
        rw [show f9 (k1 : Int32).toNatClampNeg = some b11 from eb_12]
        refine lv_astore (lv' := [(4, .ref b11), (0, .ref za), (1, .int k1), (2, .int k2), (3, .int k3)]) hx hb dX13_bear_50 hl (by decide) rfl (fun ls hl => ?_)
        refine lv_iload_n hx hb dX13_bear_52 rfl (lv_at hl 3 rfl) ?_
        refine lv_aload hx hb dX13_bear_53 (lv_at hl 0 rfl) ?_
        obtain ⟨v24, hv24, hc24⟩ : ∃ v : Nat, fs14[0]? = some (.int (nI v) : Value) ∧ v ≤ 999 := hl14 0 (by decide)
        refine pg_getN (D := D) (ci := 12) (v := .int (nI v24)) (C := RX12) (T := TX12) (N := 51) hx hb hg inG12 hown hK hP hb_13.1 hM14 rfl 0 (by decide) (hN.use (Cond.fieldLinkNest RX13 77 RX12 "first" "I" RX13) 9 rfl rfl) (fun _ h9 => h9) hv24 dX13_bear_55 ?_
        refine lv_icmp_lt (tgt := 68) hx hb dX13_bear_58 (by decide) (fun c_25 => ?_) (fun c_25 => ?_)
        · have hz := rfl (a := 0)
          have n_26 : ¬ 999 ≤ k2 := ltB (b := 999) (by decide) hc24 c_25
          refine lv_aload_n hx hb dX13_bear_68 rfl (lv_at hl 1 rfl) ?_
          refine lv_iconst (v := 3) hx hb dX13_bear_69 (by decide) ?_
          have hPc := hP.sub (ws' := [(za, (b13_0 0 z1 (nI z2) (nI z3) z4 z5 z6 z7 z8 z9 (nI z10) z11 z12 z13 z14 z15 (nI z16) z17 z18 z19))]) [0] rfl
          have hDc := hD.sub (ws' := [(za, (b13_0 0 z1 (nI z2) (nI z3) z4 z5 z6 z7 z8 z9 (nI z10) z11 z12 z13 z14 z15 (nI z16) z17 z18 z19))]) [0] (by decide) rfl
          have hKc := hK.sub (tys' := []) [] rfl
          have hFc := va_free (wc := [(za, (b13_0 0 z1 (nI z2) (nI z3) z4 z5 z6 z7 z8 z9 (nI z10) z11 z12 z13 z14 z15 (nI z16) z17 z18 z19))]) hD hS hA [0] rfl
          refine va_calli (va_runV (As := [.int 3]) (rest := []) ⟨hx, hb, hml, hown, hg⟩ (m_refused l D H_18.size za 0 z1 (nI z2) (nI z3) z4 z5 z6 z7 z8 z9 (nI z10) z11 z12 z13 z14 z15 (nI z16) z17 z18 z19 3) (cwV 1 hg (gV wd_725 wd_726 wd_727 wd_717 wd_728) rfl rfl rfl (by decide +kernel) ⟨(Nat.le_trans (Nat.le_of_ble_eq_true rfl) hRf), (Nat.le_trans (Nat.le_of_ble_eq_true rfl) hRl)⟩) ⟨Pr.blind, va_recv hK hP (ci := 13) (q0 := 0) rfl rfl, fun U hU hW => ⟨rfl, Pr.at hPc hKc hDc hN hU hW⟩⟩ rfl rfl hl.1 rfl (lv_room (Nat.le_of_ble_eq_true rfl)) dX13_bear_70 ⟨(Nat.le_trans (Nat.le_of_ble_eq_true rfl) hRc), (Nat.le_trans (Nat.le_of_ble_eq_true rfl) hRs)⟩) hS (fun q _ h => hFc q h) hFc (fun r_28 M_29 t H_27 locs ht hvm hw hB hz1 hk1 hS => ?_)
          have hp_30 := hw
          obtain ⟨hP1, hK1, hD1⟩ := hB
          rw [ht] at hP1
          obtain ⟨hP, hD⟩ := va_joinQ (X := [(za, (b13_0 0 z1 (nI z2) (nI z3) z4 z5 z6 z7 z8 z9 (nI z10) z11 z12 z13 z14 z15 (nI z16) z17 z18 z19))]) (cx := [(za, (b13_0 0 z1 (nI z2) (nI z3) z4 z5 z6 z7 z8 z9 (nI z10) z11 z12 z13 z14 z15 (nI z16) z17 z18 z19))]) (wr := []) (w1 := [(za, (b13_0 0 z1 (nI z2) (nI z3) 3 (-1) z6 z7 z8 z9 (nI z10) z11 z12 z13 z14 z15 (nI z16) z17 z18 z19))]) (pl := va_pl L M) hP hD [0] [] rfl rfl (by decide) (by decide) hk1 hFc hP1 hD1
          have hP : va_P D vwCl ([(za, (b13_0 0 z1 (nI z2) (nI z3) 3 (-1) z6 z7 z8 z9 (nI z10) z11 z12 z13 z14 z15 (nI z16) z17 z18 z19))] ++ va_pl L M) H_27 := hP
          have hD : va_D A ([(za, (b13_0 0 z1 (nI z2) (nI z3) 3 (-1) z6 z7 z8 z9 (nI z10) z11 z12 z13 z14 z15 (nI z16) z17 z18 z19))] ++ va_pl L M) := hD
          have hq := Eq.symm hp_30
          subst hq
          rw [hQ]
          exact W.iret (v := (-1)) hx hb hr (fun t ht hW9 => ⟨⟨(-1), M, rfl, ⟨hW, hF, hGI, trivial⟩, ⟨3, z16, z18, (by omega), by rw [ht]; exact hP, hD⟩⟩, hS.F ht⟩) hS.2.2 dX13_bear_73
        · have hz := rfl (a := 0)
          refine lv_iload_n hx hb dX13_bear_61 rfl (lv_at hl 3 rfl) ?_
          refine lv_sipush (v := 1000) hx hb dX13_bear_62 (by decide) ?_
          refine lv_icmp_lt (tgt := 74) hx hb dX13_bear_65 (by decide) (fun c_31 => ?_) (fun c_31 => ?_)
          · have hz := rfl (a := 0)
            refine lv_aload_n hx hb dX13_bear_74 rfl (lv_at hl 1 rfl) ?_
            refine lv_iconst (v := 0) hx hb dX13_bear_75 (by decide) ?_
            refine va_put (D := D) (ci := 13) (v := .int 0) (ty := .int) (C := RX13) (T := TX13) (N := 20) hx hb hg inG13 tyX13 tyX13_ok nmX13 hown hK hP hD hS 0 rfl rfl 16 (by decide) (hg _ wd_769) (fun _ h9 => h9) rfl (by decide +kernel) rfl rfl (Nat.le_of_ble_eq_true rfl) dX13_bear_76 (fun H_32 locs hP hD hS => ?_)
            have hP : va_P D vwCl ([(za, (b13_0 0 z1 (nI z2) (nI z3) z4 z5 z6 z7 z8 z9 (nI z10) z11 z12 z13 z14 z15 0 z17 z18 z19))] ++ va_pl L M) H_32 := hP
            have hD : va_D A ([(za, (b13_0 0 z1 (nI z2) (nI z3) z4 z5 z6 z7 z8 z9 (nI z10) z11 z12 z13 z14 z15 0 z17 z18 z19))] ++ va_pl L M) := hD
            refine lv_iconst (v := 0) hx hb dX13_bear_79 (by decide) ?_
            refine lv_istore (lv' := [(5, .int 0), (4, .ref b11), (0, .ref za), (1, .int k1), (2, .int k2), (3, .int k3)]) hx hb dX13_bear_80 hl (by decide) rfl (fun ls hl => ?_)
            have key_33 : ∀ (fu_35 : Nat) (v5w36 : Nat) (zgw36 : Nat) (M_39 : Hp) (H_40 : Heap) (locs : List Loc) (ls : Array Slot), 24 - v5w36 < fu_35 → M_39 b11 = .inr (12, fs14) → v5w36 ≤ 24 → zgw36 ≤ v5w36 → WOM cy K L M_39 → fr K L [14, 15, 32, 97, 98, 99] M M_39 → VW K L M M_39 b11 (fx M b11) (ax M b11) → va_P D vwCl ([(za, (b13_0 0 z1 (nI z2) (nI z3) z4 z5 z6 z7 z8 z9 (nI z10) z11 z12 z13 z14 z15 (nI zgw36) z17 z18 z19))] ++ va_pl L M_39) H_40 → va_D A ([(za, (b13_0 0 z1 (nI z2) (nI z3) z4 z5 z6 z7 z8 z9 (nI z10) z11 z12 z13 z14 z15 (nI zgw36) z17 z18 z19))] ++ va_pl L M_39) → va_S A s.heap H_40 locs → lv_has ls 9 [(5, .int (nI v5w36)), (4, .ref b11), (0, .ref za), (1, .int k1), (2, .int k2), (3, .int k3)] → W p l e R s m ([.ref za, .int k1, .int k2, .int k3] : List Value).toArray below meth c H_40 locs 0 0 Q (F0 m 82 ls []) := by
              intro fu_35
              induction fu_35 with
              | zero => intro v5w36 zgw36 M_39 H_40 locs ls h; exact absurd h (Nat.not_lt_zero _)
              | succ fu_35 ih_34 =>
                intro v5w36 zgw36 M_39 H_40 locs ls hfu hM_41 hx_37 hx_38 hW hF hV hP hD hS hl
                refine lv_iload hx hb dX13_bear_82 (lv_at hl 0 rfl) ?_
                refine lv_aload hx hb dX13_bear_84 (lv_at hl 1 rfl) ?_
                obtain ⟨v42, hv42, hc42⟩ : ∃ v : Nat, fs14[10]? = some (.int (nI v) : Value) ∧ v ≤ 24 := hl14 10 (by decide)
                refine pg_getN (D := D) (ci := 12) (v := .int (nI v42)) (C := RX12) (T := TX12) (N := 51) hx hb hg inG12 hown hK hP hb_13.1 hM_41 rfl 10 (by decide) (hN.use (Cond.fieldLinkNest RX13 68 RX12 "tenures" "I" RX13) 19 rfl rfl) (fun _ h9 => h9) hv42 dX13_bear_86 ?_
                refine lv_icmp_ge (tgt := 282) hx hb dX13_bear_89 (by decide) (fun c_43 => ?_) (fun c_43 => ?_)
                · have hz := rfl (a := 0)
                  have n_44 : v42 ≤ v5w36 := (iLE (a := v42) (b := v5w36) (by omega) (by omega)).mp c_43
                  refine lv_aload_n hx hb dX13_bear_282 rfl (lv_at hl 2 rfl) ?_
                  refine lv_aload hx hb dX13_bear_283 (lv_at hl 1 rfl) ?_
                  refine lv_iload_n hx hb dX13_bear_285 rfl (lv_at hl 5 rfl) ?_
                  refine lv_i2l hx hb dX13_bear_286 rfl ?_
                  refine lv_topl (fun f_45 ef_45 => ?_)
                  have hPc : va_P D vwCl ([(za, (b13_0 0 z1 (nI z2) (nI z3) z4 z5 z6 z7 z8 z9 (nI z10) z11 z12 z13 z14 z15 (nI zgw36) z17 z18 z19))] ++ va_pl L M_39) H_40 := hP
                  have hDc : va_D A ([(za, (b13_0 0 z1 (nI z2) (nI z3) z4 z5 z6 z7 z8 z9 (nI z10) z11 z12 z13 z14 z15 (nI zgw36) z17 z18 z19))] ++ va_pl L M_39) := hD
                  have hFc : ∀ q, va_A ([(za, (b13_0 0 z1 (nI z2) (nI z3) z4 z5 z6 z7 z8 z9 (nI z10) z11 z12 z13 z14 z15 (nI zgw36) z17 z18 z19))] ++ va_pl L M_39) H_40.size q → A q := pg_free hDc hS hA
                  refine va_calll (va_runV (As := [.ref b11, .long f_45]) (rest := []) ⟨hx, hb, hml, hown, hg⟩ (r_X13_bearing l D cy K L M_39 H_40.size za 0 z1 z2 z3 z4 z5 z6 z7 z8 z9 z10 z11 z12 z13 z14 z15 zgw36 z17 z18 z19 b11 f_45  hW i1 b2 b3 i6 i7 i8 i9 b10 i11 i12 i13 i14 i15 (by omega) i17 i19 hb_13) (cwV 2 hg (gV wd_799 wd_800 wd_801 wd_717 wd_802) rfl rfl rfl (by decide +kernel) ⟨(Nat.le_trans (Nat.le_of_ble_eq_true rfl) hRf), (Nat.le_trans (Nat.le_of_ble_eq_true rfl) hRl)⟩) ⟨PG.blind, va_recv hK hP (ci := 13) (q0 := 0) rfl rfl, fun U hU hW => ⟨rfl, PG.at hPc hK hDc hN hU hW⟩⟩ rfl rfl hl.1 rfl (lv_room (Nat.le_of_ble_eq_true rfl)) dX13_bear_287 ⟨(Nat.le_trans (Nat.le_of_ble_eq_true rfl) hRc), (Nat.le_trans (Nat.le_of_ble_eq_true rfl) hRs)⟩) hS (fun q _ h => hFc q h) hFc (fun r_47 M_48 t H_46 locs ht hvm hw hB hz1 hk1 hS => ?_)
                  have hWb := hW
                  obtain ⟨hW, hF2, hp_49⟩ := hw
                  obtain ⟨hP1, hD1⟩ := hB
                  rw [ht] at hP1
                  have hP : va_P D vwCl ([(za, (b13_0 0 z1 (nI z2) (nI z3) z4 z5 z6 z7 z8 z9 (nI z10) z11 z12 z13 z14 z15 (nI zgw36) z17 z18 z19))] ++ va_pl L M_48) H_46 := hP1
                  have hD : va_D A ([(za, (b13_0 0 z1 (nI z2) (nI z3) z4 z5 z6 z7 z8 z9 (nI z10) z11 z12 z13 z14 z15 (nI zgw36) z17 z18 z19))] ++ va_pl L M_48) := hD1.mono hFc
                  have hM_50 : M_48 b11 = .inr (12, fs14) := (hF2.at hb_13 (by decide)).trans hM_41
                  have hF : fr K L [14, 15, 32, 97, 98, 99] M M_48 := hF.tr hF2 (by decide)
                  have hV : VW K L M M_48 b11 (fx M b11) (ax M b11) := hV.cal hWb hW hF2 ((fG.rf (js := [])).frR hF2 (by decide)) (by decide) (by decide) hb_13
                  refine lv_lstore (lv' := [(5, .long r_47), (4, .ref b11), (0, .ref za), (1, .int k1), (2, .int k2), (3, .int k3)]) hx hb dX13_bear_290 hl (by decide) rfl (fun ls hl => ?_)
                  refine lv_iconst (v := 0) hx hb dX13_bear_292 (by decide) ?_
                  refine lv_istore (lv' := [(7, .int 0), (5, .long r_47), (4, .ref b11), (0, .ref za), (1, .int k1), (2, .int k2), (3, .int k3)]) hx hb dX13_bear_293 hl (by decide) rfl (fun ls hl => ?_)
                  have key_51 : ∀ (fu_53 : Nat) (v7w54 : Nat) (M_56 : Hp) (H_57 : Heap) (locs : List Loc) (ls : Array Slot), 24 - v7w54 < fu_53 → v7w54 ≤ 24 → WOM cy K L M_56 → fr K L [14, 15, 32, 97, 98, 99] M M_56 → VW K L M M_56 b11 (fx M b11) (ax M b11) → va_P D vwCl ([(za, (b13_0 0 z1 (nI z2) (nI z3) z4 z5 z6 z7 z8 z9 (nI z10) z11 z12 z13 z14 z15 (nI zgw36) z17 z18 z19))] ++ va_pl L M_56) H_57 → va_D A ([(za, (b13_0 0 z1 (nI z2) (nI z3) z4 z5 z6 z7 z8 z9 (nI z10) z11 z12 z13 z14 z15 (nI zgw36) z17 z18 z19))] ++ va_pl L M_56) → va_S A s.heap H_57 locs → lv_has ls 9 [(7, .int (nI v7w54)), (5, .long r_47), (4, .ref b11), (0, .ref za), (1, .int k1), (2, .int k2), (3, .int k3)] → W p l e R s m ([.ref za, .int k1, .int k2, .int k3] : List Value).toArray below meth c H_57 locs 0 0 Q (F0 m 295 ls []) := by
                    intro fu_53
                    induction fu_53 with
                    | zero => intro v7w54 M_56 H_57 locs ls h; exact absurd h (Nat.not_lt_zero _)
                    | succ fu_53 ih_52 =>
                      intro v7w54 M_56 H_57 locs ls hfu hx_55 hW hF hV hP hD hS hl
                      refine lv_iload hx hb dX13_bear_295 (lv_at hl 0 rfl) ?_
                      refine lv_bipush (v := 24) hx hb dX13_bear_297 (by decide) ?_
                      refine lv_icmp_ge (tgt := 316) hx hb dX13_bear_299 (by decide) (fun c_58 => ?_) (fun c_58 => ?_)
                      · have hz := rfl (a := 0)
                        have n_59 : 24 ≤ v7w54 := (iLE (a := 24) (b := v7w54) (by omega) (by omega)).mp c_58
                        refine lv_iconst (v := 0) hx hb dX13_bear_316 (by decide) ?_
                        refine lv_istore (lv' := [(7, .int 0), (5, .long r_47), (4, .ref b11), (0, .ref za), (1, .int k1), (2, .int k2), (3, .int k3)]) hx hb dX13_bear_317 hl (by decide) rfl (fun ls hl => ?_)
                        refine lv_iconst (v := 0) hx hb dX13_bear_319 (by decide) ?_
                        refine lv_istore (lv' := [(8, .int 0), (7, .int 0), (5, .long r_47), (4, .ref b11), (0, .ref za), (1, .int k1), (2, .int k2), (3, .int k3)]) hx hb dX13_bear_320 hl (by decide) rfl (fun ls hl => ?_)
                        have key_60 : ∀ (fu_62 : Nat) (v7w63 : Int32) (v8w63 : Nat) (M_65 : Hp) (H_66 : Heap) (locs : List Loc) (ls : Array Slot), 24 - v8w63 < fu_62 → v8w63 ≤ 24 → WOM cy K L M_65 → fr K L [14, 15, 32, 97, 98, 99] M M_65 → VW K L M M_65 b11 (fx M b11) (ax M b11) → va_P D vwCl ([(za, (b13_0 0 z1 (nI z2) (nI z3) z4 z5 z6 z7 z8 z9 (nI z10) z11 z12 z13 z14 z15 (nI zgw36) z17 z18 z19))] ++ va_pl L M_65) H_66 → va_D A ([(za, (b13_0 0 z1 (nI z2) (nI z3) z4 z5 z6 z7 z8 z9 (nI z10) z11 z12 z13 z14 z15 (nI zgw36) z17 z18 z19))] ++ va_pl L M_65) → va_S A s.heap H_66 locs → lv_has ls 9 [(8, .int (nI v8w63)), (7, .int v7w63), (5, .long r_47), (4, .ref b11), (0, .ref za), (1, .int k1), (2, .int k2), (3, .int k3)] → W p l e R s m ([.ref za, .int k1, .int k2, .int k3] : List Value).toArray below meth c H_66 locs 0 0 Q (F0 m 322 ls []) := by
                          intro fu_62
                          induction fu_62 with
                          | zero => intro v7w63 v8w63 M_65 H_66 locs ls h; exact absurd h (Nat.not_lt_zero _)
                          | succ fu_62 ih_61 =>
                            intro v7w63 v8w63 M_65 H_66 locs ls hfu hx_64 hW hF hV hP hD hS hl
                            refine lv_iload hx hb dX13_bear_322 (lv_at hl 0 rfl) ?_
                            refine lv_aload_n hx hb dX13_bear_324 rfl (lv_at hl 4 rfl) ?_
                            refine va_get (D := D) (ci := 13) (v := .int (nI zgw36)) (C := RX13) (T := TX13) (N := 20) hx hb hg inG13 hown hK hP 0 rfl rfl 16 (by decide) (hg _ wd_769) (fun _ h9 => h9) rfl dX13_bear_325 ?_
                            refine lv_icmp_ge (tgt := 379) hx hb dX13_bear_328 (by decide) (fun c_67 => ?_) (fun c_67 => ?_)
                            · have hz := rfl (a := 0)
                              have n_68 : zgw36 ≤ v8w63 := (iLE (a := zgw36) (b := v8w63) (by omega) (by omega)).mp c_67
                              refine lv_aload_n hx hb dX13_bear_379 rfl (lv_at hl 4 rfl) ?_
                              refine lv_lload hx hb dX13_bear_380 (lv_at hl 2 rfl) ?_
                              refine lv_l2i hx hb dX13_bear_382 rfl ?_
                              refine lv_topi (fun f_69 ef_69 => ?_)
                              refine va_put (D := D) (ci := 13) (v := .int f_69) (ty := .int) (C := RX13) (T := TX13) (N := 20) hx hb hg inG13 tyX13 tyX13_ok nmX13 hown hK hP hD hS 0 rfl rfl 18 (by decide) (hg _ wd_722) (fun _ h9 => h9) rfl (by decide +kernel) rfl rfl (Nat.le_of_ble_eq_true rfl) dX13_bear_383 (fun H_70 locs hP hD hS => ?_)
                              have hP : va_P D vwCl ([(za, (b13_0 0 z1 (nI z2) (nI z3) z4 z5 z6 z7 z8 z9 (nI z10) z11 z12 z13 z14 z15 (nI zgw36) z17 f_69 z19))] ++ va_pl L M_65) H_70 := hP
                              have hD : va_D A ([(za, (b13_0 0 z1 (nI z2) (nI z3) z4 z5 z6 z7 z8 z9 (nI z10) z11 z12 z13 z14 z15 (nI zgw36) z17 f_69 z19))] ++ va_pl L M_65) := hD
                              refine lv_aload_n hx hb dX13_bear_386 rfl (lv_at hl 4 rfl) ?_
                              refine lv_iload hx hb dX13_bear_387 (lv_at hl 1 rfl) ?_
                              have hPc := hP.sub (ws' := [(za, (b13_0 0 z1 (nI z2) (nI z3) z4 z5 z6 z7 z8 z9 (nI z10) z11 z12 z13 z14 z15 (nI zgw36) z17 f_69 z19))]) [0] rfl
                              have hDc := hD.sub (ws' := [(za, (b13_0 0 z1 (nI z2) (nI z3) z4 z5 z6 z7 z8 z9 (nI z10) z11 z12 z13 z14 z15 (nI zgw36) z17 f_69 z19))]) [0] (by decide) rfl
                              have hKc := hK.sub (tys' := []) [] rfl
                              have hFc := va_free (wc := [(za, (b13_0 0 z1 (nI z2) (nI z3) z4 z5 z6 z7 z8 z9 (nI z10) z11 z12 z13 z14 z15 (nI zgw36) z17 f_69 z19))]) hD hS hA [0] rfl
                              refine va_calli (va_runV (As := [.int v7w63]) (rest := []) ⟨hx, hb, hml, hown, hg⟩ (m_done l D H_70.size za 0 z1 (nI z2) (nI z3) z4 z5 z6 z7 z8 z9 (nI z10) z11 z12 z13 z14 z15 (nI zgw36) z17 f_69 z19 v7w63) (cwV 1 hg (gV wd_730 wd_731 wd_732 wd_717 wd_733) rfl rfl rfl (by decide +kernel) ⟨(Nat.le_trans (Nat.le_of_ble_eq_true rfl) hRf), (Nat.le_trans (Nat.le_of_ble_eq_true rfl) hRl)⟩) ⟨Pr.blind, va_recv hK hP (ci := 13) (q0 := 0) rfl rfl, fun U hU hW => ⟨rfl, Pr.at hPc hKc hDc hN hU hW⟩⟩ rfl rfl hl.1 rfl (lv_room (Nat.le_of_ble_eq_true rfl)) dX13_bear_389 ⟨(Nat.le_trans (Nat.le_of_ble_eq_true rfl) hRc), (Nat.le_trans (Nat.le_of_ble_eq_true rfl) hRs)⟩) hS (fun q _ h => hFc q h) hFc (fun r_72 M_73 t H_71 locs ht hvm hw hB hz1 hk1 hS => ?_)
                              have hp_74 := hw
                              obtain ⟨hP1, hK1, hD1⟩ := hB
                              rw [ht] at hP1
                              obtain ⟨hP, hD⟩ := va_joinQ (X := [(za, (b13_0 0 z1 (nI z2) (nI z3) z4 z5 z6 z7 z8 z9 (nI z10) z11 z12 z13 z14 z15 (nI zgw36) z17 f_69 z19))]) (cx := [(za, (b13_0 0 z1 (nI z2) (nI z3) z4 z5 z6 z7 z8 z9 (nI z10) z11 z12 z13 z14 z15 (nI zgw36) z17 f_69 z19))]) (wr := []) (w1 := [(za, (b13_0 0 z1 (nI z2) (nI z3) 0 (-1) z6 z7 z8 z9 (nI z10) z11 z12 z13 z14 z15 (nI zgw36) z17 f_69 z19))]) (pl := va_pl L M_65) hP hD [0] [] rfl rfl (by decide) (by decide) hk1 hFc hP1 hD1
                              have hP : va_P D vwCl ([(za, (b13_0 0 z1 (nI z2) (nI z3) 0 (-1) z6 z7 z8 z9 (nI z10) z11 z12 z13 z14 z15 (nI zgw36) z17 f_69 z19))] ++ va_pl L M_65) H_71 := hP
                              have hD : va_D A ([(za, (b13_0 0 z1 (nI z2) (nI z3) 0 (-1) z6 z7 z8 z9 (nI z10) z11 z12 z13 z14 z15 (nI zgw36) z17 f_69 z19))] ++ va_pl L M_65) := hD
                              have hq := Eq.symm hp_74
                              subst hq
                              have hA9 : HA (ax M b11 2) (ax M b11 3) := hAT.1
                              have hB9 : HB (fx M b11 16) (fx M b11 14) (ax M b11 3) (ax M b11 43) := hAT.2.1
                              have hC9 : HC (fx M b11 10) (ax M b11 22) (ax M b11 23) := hAT.2.2.1
                              have hD9 : HD (fx M b11 0) (fx M b11 11) (fx M b11 15) (ax M b11 34) (ax M b11 41) := hAT.2.2.2.1
                              have hE9 : HE (fx M b11 0) (fx M b11 1) (fx M b11 12) (fx M b11 13) (ax M b11 37) := hAT.2.2.2.2
                              have hH9 : HI (fx M b11) (ax M b11) := ⟨hA9, hB9, hC9, hD9, hE9⟩
                              have hGI9 : GI K L z1 z2 M_65 := GI.fin hW0 i1 b2 hGI hact hV (hF.at i1 (by decide)) hH9
                              rw [hQ]
                              exact W.iret (v := v7w63) hx hb hr (fun t ht hW9 => ⟨⟨v7w63, M_65, rfl, ⟨hW, hF, hGI9, trivial⟩, ⟨0, zgw36, f_69, (by omega), by rw [ht]; exact hP, hD⟩⟩, hS.F ht⟩) hS.2.2 dX13_bear_392
                            · have hz := rfl (a := 0)
                              have n_75 : ¬ (zgw36 ≤ v8w63) := fun q => c_67 ((iLE (a := zgw36) (b := v8w63) (by omega) (by omega)).mpr q)
                              refine lv_aload_n hx hb dX13_bear_331 rfl (lv_at hl 4 rfl) ?_
                              refine va_get (D := D) (ci := 13) (v := .ref z17) (C := RX13) (T := TX13) (N := 20) hx hb hg inG13 hown hK hP 0 rfl rfl 17 (by decide) (hg _ wd_721) (fun _ h9 => h9) rfl dX13_bear_332 ?_
                              refine lv_aload_n hx hb dX13_bear_335 rfl (lv_at hl 4 rfl) ?_
                              refine va_get (D := D) (ci := 13) (v := .ref z11) (C := RX13) (T := TX13) (N := 20) hx hb hg inG13 hown hK hP 0 rfl rfl 11 (by decide) (hg _ wd_764) (fun _ h9 => h9) rfl dX13_bear_336 ?_
                              refine lv_iload hx hb dX13_bear_339 (lv_at hl 0 rfl) ?_
                              obtain ⟨f76, hM76, hf76⟩ := hW.open_32 i11
                              have hi_77 : vp_in (nI v8w63) 24 := (inbN v8w63 24 (by omega) (by omega))
                              refine pg_iald hx hb hK hP i11.1 0 hM76 rfl hi_77 dX13_bear_341 ?_
                              have hp_78 := hf76 _ (vp_lt hi_77)
                              obtain ⟨c_79, hc_80, ec_81⟩ := hp_78
                              rw [ec_81]
                              refine lv_aload_n hx hb dX13_bear_342 rfl (lv_at hl 4 rfl) ?_
                              refine va_get (D := D) (ci := 13) (v := .ref z13) (C := RX13) (T := TX13) (N := 20) hx hb hg inG13 hown hK hP 0 rfl rfl 13 (by decide) (hg _ wd_789) (fun _ h9 => h9) rfl dX13_bear_343 ?_
                              refine lv_iload hx hb dX13_bear_346 (lv_at hl 0 rfl) ?_
                              obtain ⟨f82, hM82⟩ := hW.open_97 i13
                              refine pg_lald hx hb hK hP i13.1 1 hM82 rfl (inbN v8w63 24 (by omega) (by omega)) dX13_bear_348 ?_
                              refine lv_topl (fun f_83 ef_83 => ?_)
                              refine lv_l2i hx hb dX13_bear_349 rfl ?_
                              refine lv_topi (fun f_84 ef_84 => ?_)
                              obtain ⟨f85, hM85⟩ := hW.open_14 i17
                              refine pg_iast hx hb hK hP hD hS i17.1 0 hM85 rfl (inbN c_79 24 (by omega) (by omega)) dX13_bear_350 (fun H_86 locs hP hD hS => ?_)
                              obtain ⟨M_87, eM_87⟩ : ∃ M1 : Hp, M1 = va_up M_65 z17 (.inl (cy 14, 24, .inl (upd f85 ((nI c_79) : Int32).toNatClampNeg f_84))) := ⟨_, rfl⟩
                              have hV : VW K L M M_87 b11 (fx M b11) (ax M b11) := by rw [eM_87]; exact hV.oth hW hb_13 i17 (by decide)
                              have hP : va_P D vwCl ([(za, (b13_0 0 z1 (nI z2) (nI z3) z4 z5 z6 z7 z8 z9 (nI z10) z11 z12 z13 z14 z15 (nI zgw36) z17 z18 z19))] ++ va_pl L M_87) H_86 := by rw [eM_87]; exact hP
                              have hD : va_D A ([(za, (b13_0 0 z1 (nI z2) (nI z3) z4 z5 z6 z7 z8 z9 (nI z10) z11 z12 z13 z14 z15 (nI zgw36) z17 z18 z19))] ++ va_pl L M_87) := by rw [eM_87]; exact hD
                              have hW : WOM cy K L M_87 := by rw [eM_87]; exact hW.up_14 i17 ⟨_, rfl⟩
                              have hF : fr K L [14, 15, 32, 97, 98, 99] M M_87 := by rw [eM_87]; exact hF.up i17 (by decide)
                              have hM_88 : M_87 z17 = .inl (cy 14, 24, .inl (upd f85 ((nI c_79) : Int32).toNatClampNeg f_84)) := by rw [eM_87]; exact va_up_self _ _ _
                              have hM_89 : M_87 z11 = .inl (cy 14, 24, .inl (f76)) := by rw [eM_87, va_up_ne _ _ (i11.neT i17 (by decide))]; exact hM76
                              have hM_90 : M_87 z13 = .inl (cy 15, 24, .inr (.inl (f82))) := by rw [eM_87, va_up_ne _ _ (i13.neT i17 (by decide))]; exact hM82
                              obtain ⟨f_91, ef_91⟩ : ∃ f : Nat → Int32, f = upd f85 ((nI c_79) : Int32).toNatClampNeg f_84 := ⟨_, rfl⟩
                              rw [← ef_91] at hM_88
                              refine lv_iload hx hb dX13_bear_351 (lv_at hl 1 rfl) ?_
                              refine lv_aload_n hx hb dX13_bear_353 rfl (lv_at hl 4 rfl) ?_
                              refine va_get (D := D) (ci := 13) (v := .ref z13) (C := RX13) (T := TX13) (N := 20) hx hb hg inG13 hown hK hP 0 rfl rfl 13 (by decide) (hg _ wd_789) (fun _ h9 => h9) rfl dX13_bear_354 ?_
                              refine lv_iload hx hb dX13_bear_357 (lv_at hl 0 rfl) ?_
                              refine pg_lald hx hb hK hP i13.1 1 hM_90 rfl (inbN v8w63 24 (by omega) (by omega)) dX13_bear_359 ?_
                              refine lv_topl (fun f_92 ef_92 => ?_)
                              refine lv_lconst (v := 0) hx hb dX13_bear_360 (by decide) ?_
                              refine W.lcmp hx hb dX13_bear_361 ?_
                              refine lv_if_le (tgt := 369) hx hb dX13_bear_362 (by decide) (fun c_93 => ?_) (fun c_93 => ?_)
                              · have hz := rfl (a := 0)
                                have d_94 : f_92 ≤ 0 := lc_let c_93
                                refine lv_iconst (v := 0) hx hb dX13_bear_369 (by decide) ?_
                                refine lv_iadd hx hb dX13_bear_370 ?_
                                refine lv_topi (fun f_95 ef_95 => ?_)
                                refine lv_istore (lv' := [(7, .int f_95), (8, .int (nI v8w63)), (5, .long r_47), (4, .ref b11), (0, .ref za), (1, .int k1), (2, .int k2), (3, .int k3)]) hx hb dX13_bear_371 hl (by decide) rfl (fun ls hl => ?_)
                                refine lv_iinc (v := (nI (v8w63 + 1))) (lv' := [(8, .int (nI (v8w63 + 1))), (7, .int f_95), (5, .long r_47), (4, .ref b11), (0, .ref za), (1, .int k1), (2, .int k2), (3, .int k3)]) hx hb dX13_bear_373 hl (k := 1) rfl (nI_1 v8w63) (by decide) rfl (fun ls hl => ?_)
                                refine lv_goto (tgt := 322) hx hb dX13_bear_376 (by decide) ?_
                                exact ih_61 f_95 (v8w63 + 1) M_87 H_86 _ _ (by omega) (by omega) hW hF hV hP hD hS (lv_sub hl [0, 1, 2, 3, 4, 5, 6, 7] rfl)
                              · have hz := rfl (a := 0)
                                have d_94 : ¬ f_92 ≤ 0 := lc_lef c_93
                                refine lv_iconst (v := 1) hx hb dX13_bear_365 (by decide) ?_
                                refine lv_goto (tgt := 370) hx hb dX13_bear_366 (by decide) ?_
                                refine lv_iadd hx hb dX13_bear_370 ?_
                                refine lv_topi (fun f_96 ef_96 => ?_)
                                refine lv_istore (lv' := [(7, .int f_96), (8, .int (nI v8w63)), (5, .long r_47), (4, .ref b11), (0, .ref za), (1, .int k1), (2, .int k2), (3, .int k3)]) hx hb dX13_bear_371 hl (by decide) rfl (fun ls hl => ?_)
                                refine lv_iinc (v := (nI (v8w63 + 1))) (lv' := [(8, .int (nI (v8w63 + 1))), (7, .int f_96), (5, .long r_47), (4, .ref b11), (0, .ref za), (1, .int k1), (2, .int k2), (3, .int k3)]) hx hb dX13_bear_373 hl (k := 1) rfl (nI_1 v8w63) (by decide) rfl (fun ls hl => ?_)
                                refine lv_goto (tgt := 322) hx hb dX13_bear_376 (by decide) ?_
                                exact ih_61 f_96 (v8w63 + 1) M_87 H_86 _ _ (by omega) (by omega) hW hF hV hP hD hS (lv_sub hl [0, 1, 2, 3, 4, 5, 6, 7] rfl)
                        exact key_60 (24 - 0 + 1) 0 0 M_56 H_57 _ _ (by omega) (by omega) hW hF hV hP hD hS (lv_sub hl [0, 1, 2, 3, 4, 5, 6, 7] rfl)
                      · have hz := rfl (a := 0)
                        have n_97 : ¬ (24 ≤ v7w54) := fun q => c_58 ((iLE (a := 24) (b := v7w54) (by omega) (by omega)).mpr q)
                        refine lv_aload_n hx hb dX13_bear_302 rfl (lv_at hl 3 rfl) ?_
                        refine va_get (D := D) (ci := 13) (v := .ref z17) (C := RX13) (T := TX13) (N := 20) hx hb hg inG13 hown hK hP 0 rfl rfl 17 (by decide) (hg _ wd_721) (fun _ h9 => h9) rfl dX13_bear_303 ?_
                        refine lv_iload hx hb dX13_bear_306 (lv_at hl 0 rfl) ?_
                        refine lv_iconst (v := 0) hx hb dX13_bear_308 (by decide) ?_
                        obtain ⟨f98, hM98⟩ := hW.open_14 i17
                        refine pg_iast hx hb hK hP hD hS i17.1 0 hM98 rfl (inbN v7w54 24 (by omega) (by omega)) dX13_bear_309 (fun H_99 locs hP hD hS => ?_)
                        obtain ⟨M_100, eM_100⟩ : ∃ M1 : Hp, M1 = va_up M_56 z17 (.inl (cy 14, 24, .inl (upd f98 ((nI v7w54) : Int32).toNatClampNeg 0))) := ⟨_, rfl⟩
                        have hV : VW K L M M_100 b11 (fx M b11) (ax M b11) := by rw [eM_100]; exact hV.oth hW hb_13 i17 (by decide)
                        have hP : va_P D vwCl ([(za, (b13_0 0 z1 (nI z2) (nI z3) z4 z5 z6 z7 z8 z9 (nI z10) z11 z12 z13 z14 z15 (nI zgw36) z17 z18 z19))] ++ va_pl L M_100) H_99 := by rw [eM_100]; exact hP
                        have hD : va_D A ([(za, (b13_0 0 z1 (nI z2) (nI z3) z4 z5 z6 z7 z8 z9 (nI z10) z11 z12 z13 z14 z15 (nI zgw36) z17 z18 z19))] ++ va_pl L M_100) := by rw [eM_100]; exact hD
                        have hW : WOM cy K L M_100 := by rw [eM_100]; exact hW.up_14 i17 ⟨_, rfl⟩
                        have hF : fr K L [14, 15, 32, 97, 98, 99] M M_100 := by rw [eM_100]; exact hF.up i17 (by decide)
                        have hM_101 : M_100 z17 = .inl (cy 14, 24, .inl (upd f98 ((nI v7w54) : Int32).toNatClampNeg 0)) := by rw [eM_100]; exact va_up_self _ _ _
                        obtain ⟨f_102, ef_102⟩ : ∃ f : Nat → Int32, f = upd f98 ((nI v7w54) : Int32).toNatClampNeg 0 := ⟨_, rfl⟩
                        rw [← ef_102] at hM_101
                        refine lv_iinc (v := (nI (v7w54 + 1))) (lv' := [(7, .int (nI (v7w54 + 1))), (5, .long r_47), (4, .ref b11), (0, .ref za), (1, .int k1), (2, .int k2), (3, .int k3)]) hx hb dX13_bear_310 hl (k := 0) rfl (nI_1 v7w54) (by decide) rfl (fun ls hl => ?_)
                        refine lv_goto (tgt := 295) hx hb dX13_bear_313 (by decide) ?_
                        exact ih_52 (v7w54 + 1) M_100 H_99 _ _ (by omega) (by omega) hW hF hV hP hD hS (lv_sub hl [0, 1, 2, 3, 4, 5, 6] rfl)
                  exact key_51 (24 - 0 + 1) 0 M_48 H_46 _ _ (by omega) (by omega) hW hF hV hP hD hS (lv_sub hl [0, 1, 2, 3, 4, 5, 6] rfl)
                · have hz := rfl (a := 0)
                  have n_103 : ¬ (v42 ≤ v5w36) := fun q => c_43 ((iLE (a := v42) (b := v5w36) (by omega) (by omega)).mpr q)
                  refine lv_aload hx hb dX13_bear_92 (lv_at hl 1 rfl) ?_
                  refine lv_iload hx hb dX13_bear_94 (lv_at hl 0 rfl) ?_
                  refine lv_iload_n hx hb dX13_bear_96 rfl (lv_at hl 4 rfl) ?_
                  have hPc : va_P D vwCl ([] ++ va_pl L M_39) H_40 := hP.part (cx := []) [] rfl
                  have hDc : va_D A ([] ++ va_pl L M_39) := hD.part (cx := []) [] (by decide) rfl
                  have hFc : ∀ q, va_A ([] ++ va_pl L M_39) H_40.size q → A q := pg_free hDc hS hA
                  refine va_calli (va_runV (As := [.int (nI v5w36), .int k2]) (rest := []) ⟨hx, hb, hml, hown, hg⟩ (r_X12_isIn l D cy K L M_39 H_40.size b11 v5w36 k2  hW hb_13 (by omega)) (cwV 2 hg (gV wd_748 wd_749 wd_750 wd_737 wd_751) rfl rfl rfl (by decide +kernel) ⟨(Nat.le_trans (Nat.le_of_ble_eq_true rfl) hRf), (Nat.le_trans (Nat.le_of_ble_eq_true rfl) hRl)⟩) ⟨PG.blind, pg_recv hK hP hb_13.1 hM_41 rfl, fun U hU hW => ⟨rfl, PG.at hPc hK hDc hN hU hW⟩⟩ rfl rfl hl.1 rfl (lv_room (Nat.le_of_ble_eq_true rfl)) dX13_bear_97 ⟨(Nat.le_trans (Nat.le_of_ble_eq_true rfl) hRc), (Nat.le_trans (Nat.le_of_ble_eq_true rfl) hRs)⟩) hS (fun q _ h => hFc q h) hFc (fun r_105 M_106 t H_104 locs ht hvm hw hB hz1 hk1 hS => ?_)
                  have hp_107 := hw
                  obtain ⟨hP1, hD1⟩ := hB
                  rw [ht] at hP1
                  obtain ⟨hP, hD⟩ := va_joinP (X := [(za, (b13_0 0 z1 (nI z2) (nI z3) z4 z5 z6 z7 z8 z9 (nI z10) z11 z12 z13 z14 z15 (nI zgw36) z17 z18 z19))]) (cx := []) (wr := [(za, (b13_0 0 z1 (nI z2) (nI z3) z4 z5 z6 z7 z8 z9 (nI z10) z11 z12 z13 z14 z15 (nI zgw36) z17 z18 z19))]) (rx := []) (pl := va_pl L M_39) (pl1 := va_pl L M_39) hP hD [] [0] rfl rfl (by decide) (by decide) hk1 hFc hP1 hD1
                  have hP : va_P D vwCl ([(za, (b13_0 0 z1 (nI z2) (nI z3) z4 z5 z6 z7 z8 z9 (nI z10) z11 z12 z13 z14 z15 (nI zgw36) z17 z18 z19))] ++ va_pl L M_39) H_104 := hP
                  have hD : va_D A ([(za, (b13_0 0 z1 (nI z2) (nI z3) z4 z5 z6 z7 z8 z9 (nI z10) z11 z12 z13 z14 z15 (nI zgw36) z17 z18 z19))] ++ va_pl L M_39) := hD
                  rcases hp_107 with rfl | rfl
                  · have hz := rfl (a := 0)
                    refine lv_if_eq (tgt := 143) hx hb dX13_bear_100 (by decide) (fun c_108 => absurd c_108 (by decide)) (fun _ => ?_)
                    refine lv_aload hx hb dX13_bear_103 (lv_at hl 1 rfl) ?_
                    obtain ⟨v109, hv109, hc109⟩ : ∃ v : Nat, fs14[22]? = some (.ref v : Value) ∧ isk K L v 41 24 := hl14 22 (by decide)
                    refine pg_getN (D := D) (ci := 12) (v := .ref v109) (C := RX12) (T := TX12) (N := 51) hx hb hg inG12 hown hK hP hb_13.1 hM_41 rfl 22 (by decide) (hN.use (Cond.fieldLinkNest RX13 95 RX12 "ended" "[I" RX13) 31 rfl rfl) (fun _ h9 => h9) hv109 dX13_bear_105 ?_
                    refine lv_iload hx hb dX13_bear_108 (lv_at hl 0 rfl) ?_
                    obtain ⟨f110, hM110⟩ := hW.open_41 hc109
                    refine pg_iald hx hb hK hP hc109.1 0 hM110 rfl (inbN v5w36 24 (by omega) (by omega)) dX13_bear_110 ?_
                    refine lv_topi (fun f_111 ef_111 => ?_)
                    refine lv_iconst (v := (-1)) hx hb dX13_bear_111 (by decide) ?_
                    refine lv_icmp_eq (tgt := 139) hx hb dX13_bear_112 (by decide) (fun c_112 => ?_) (fun c_112 => ?_)
                    · have hz := rfl (a := 0)
                      refine lv_iconst (v := 1) hx hb dX13_bear_139 (by decide) ?_
                      refine lv_goto (tgt := 144) hx hb dX13_bear_140 (by decide) ?_
                      refine lv_istore (lv' := [(6, .int 1), (5, .int (nI v5w36)), (4, .ref b11), (0, .ref za), (1, .int k1), (2, .int k2), (3, .int k3)]) hx hb dX13_bear_144 hl (by decide) rfl (fun ls hl => ?_)
                      refine lv_aload hx hb dX13_bear_146 (lv_at hl 2 rfl) ?_
                      obtain ⟨v113, hv113, hc113⟩ : ∃ v : Nat, fs14[21]? = some (.ref v : Value) ∧ isk K L v 75 24 := hl14 21 (by decide)
                      refine pg_getN (D := D) (ci := 12) (v := .ref v113) (C := RX12) (T := TX12) (N := 51) hx hb hg inG12 hown hK hP hb_13.1 hM_41 rfl 21 (by decide) (hN.use (Cond.fieldLinkNest RX13 112 RX12 "begin" "[I" RX13) 30 rfl rfl) (fun _ h9 => h9) hv113 dX13_bear_148 ?_
                      refine lv_iload hx hb dX13_bear_151 (lv_at hl 1 rfl) ?_
                      obtain ⟨f114, hM114⟩ := hW.open_75 hc113
                      refine pg_iald hx hb hK hP hc113.1 0 hM114 rfl (inbN v5w36 24 (by omega) (by omega)) dX13_bear_153 ?_
                      refine lv_topi (fun f_115 ef_115 => ?_)
                      refine lv_iload_n hx hb dX13_bear_154 rfl (lv_at hl 5 rfl) ?_
                      refine lv_icmp_le (tgt := 185) hx hb dX13_bear_155 (by decide) (fun c_116 => ?_) (fun c_116 => ?_)
                      · have hz := rfl (a := 0)
                        refine lv_iconst (v := 0) hx hb dX13_bear_185 (by decide) ?_
                        refine lv_istore (lv' := [(7, .int 0), (6, .int 1), (5, .int (nI v5w36)), (4, .ref b11), (0, .ref za), (1, .int k1), (2, .int k2), (3, .int k3)]) hx hb dX13_bear_186 hl (by decide) rfl (fun ls hl => ?_)
                        refine lv_iload hx hb dX13_bear_188 (lv_at hl 1 rfl) ?_
                        refine lv_if_ne (tgt := 201) hx hb dX13_bear_190 (by decide) (fun _ => ?_) (fun c_117 => absurd c_117 (by decide))
                        refine lv_aload_n hx hb dX13_bear_201 rfl (lv_at hl 4 rfl) ?_
                        refine va_get (D := D) (ci := 13) (v := .ref z11) (C := RX13) (T := TX13) (N := 20) hx hb hg inG13 hown hK hP 0 rfl rfl 11 (by decide) (hg _ wd_764) (fun _ h9 => h9) rfl dX13_bear_202 ?_
                        refine lv_aload_n hx hb dX13_bear_205 rfl (lv_at hl 4 rfl) ?_
                        refine va_get (D := D) (ci := 13) (v := .int (nI zgw36)) (C := RX13) (T := TX13) (N := 20) hx hb hg inG13 hown hK hP 0 rfl rfl 16 (by decide) (hg _ wd_769) (fun _ h9 => h9) rfl dX13_bear_206 ?_
                        refine lv_iload hx hb dX13_bear_209 (lv_at hl 2 rfl) ?_
                        obtain ⟨f118, hM118, hf118⟩ := hW.open_32 i11
                        refine pg_iast hx hb hK hP hD hS i11.1 0 hM118 rfl (inbN zgw36 24 (by omega) (by omega)) dX13_bear_211 (fun H_119 locs hP hD hS => ?_)
                        obtain ⟨M_120, eM_120⟩ : ∃ M1 : Hp, M1 = va_up M_39 z11 (.inl (cy 14, 24, .inl (upd f118 ((nI zgw36) : Int32).toNatClampNeg (nI v5w36)))) := ⟨_, rfl⟩
                        have hV : VW K L M M_120 b11 (fx M b11) (ax M b11) := by rw [eM_120]; exact hV.oth hW hb_13 i11 (by decide)
                        have hP : va_P D vwCl ([(za, (b13_0 0 z1 (nI z2) (nI z3) z4 z5 z6 z7 z8 z9 (nI z10) z11 z12 z13 z14 z15 (nI zgw36) z17 z18 z19))] ++ va_pl L M_120) H_119 := by rw [eM_120]; exact hP
                        have hD : va_D A ([(za, (b13_0 0 z1 (nI z2) (nI z3) z4 z5 z6 z7 z8 z9 (nI z10) z11 z12 z13 z14 z15 (nI zgw36) z17 z18 z19))] ++ va_pl L M_120) := by rw [eM_120]; exact hD
                        have hW : WOM cy K L M_120 := by rw [eM_120]; exact hW.up_32 i11 ⟨_, rfl, (updP (P := fun z => ∃ c : Nat, c < 24 ∧ z = nI c) hf118 ⟨v5w36, by omega, rfl⟩)⟩
                        have hF : fr K L [14, 15, 32, 97, 98, 99] M M_120 := by rw [eM_120]; exact hF.up i11 (by decide)
                        have hM_121 : M_120 z11 = .inl (cy 14, 24, .inl (upd f118 ((nI zgw36) : Int32).toNatClampNeg (nI v5w36))) := by rw [eM_120]; exact va_up_self _ _ _
                        have hM_122 : M_120 b11 = .inr (12, fs14) := by rw [eM_120, va_up_ne _ _ (hb_13.neT i11 (by decide))]; exact hM_41
                        have hM_123 : M_120 v109 = .inl (cy 14, 24, .inl (f110)) := by rw [eM_120, va_up_ne _ _ (hc109.neT i11 (by decide))]; exact hM110
                        have hM_124 : M_120 v113 = .inl (cy 14, 24, .inl (f114)) := by rw [eM_120, va_up_ne _ _ (hc113.neT i11 (by decide))]; exact hM114
                        have hf_126 : ∀ j, j < 24 → ∃ c : Nat, c < 24 ∧ (upd f118 ((nI zgw36) : Int32).toNatClampNeg (nI v5w36)) j = nI c := (updP (P := fun z => ∃ c : Nat, c < 24 ∧ z = nI c) hf118 ⟨v5w36, by omega, rfl⟩)
                        obtain ⟨f_125, ef_125⟩ : ∃ f : Nat → Int32, f = upd f118 ((nI zgw36) : Int32).toNatClampNeg (nI v5w36) := ⟨_, rfl⟩
                        rw [← ef_125] at hM_121 hf_126
                        refine lv_aload_n hx hb dX13_bear_212 rfl (lv_at hl 4 rfl) ?_
                        refine va_get (D := D) (ci := 13) (v := .ref z12) (C := RX13) (T := TX13) (N := 20) hx hb hg inG13 hown hK hP 0 rfl rfl 12 (by decide) (hg _ wd_763) (fun _ h9 => h9) rfl dX13_bear_213 ?_
                        refine lv_aload_n hx hb dX13_bear_216 rfl (lv_at hl 4 rfl) ?_
                        refine va_get (D := D) (ci := 13) (v := .int (nI zgw36)) (C := RX13) (T := TX13) (N := 20) hx hb hg inG13 hown hK hP 0 rfl rfl 16 (by decide) (hg _ wd_769) (fun _ h9 => h9) rfl dX13_bear_217 ?_
                        refine lv_aload hx hb dX13_bear_220 (lv_at hl 3 rfl) ?_
                        refine lv_iload hx hb dX13_bear_222 (lv_at hl 1 rfl) ?_
                        refine lv_if_eq (tgt := 236) hx hb dX13_bear_224 (by decide) (fun c_127 => absurd c_127 (by decide)) (fun _ => ?_)
                        refine lv_aload hx hb dX13_bear_227 (lv_at hl 3 rfl) ?_
                        refine lv_iload_n hx hb dX13_bear_229 rfl (lv_at hl 6 rfl) ?_
                        have hPc : va_P D vwCl ([] ++ va_pl L M_120) H_119 := hP.part (cx := []) [] rfl
                        have hDc : va_D A ([] ++ va_pl L M_120) := hD.part (cx := []) [] (by decide) rfl
                        have hFc : ∀ q, va_A ([] ++ va_pl L M_120) H_119.size q → A q := pg_free hDc hS hA
                        have hx0 : (fx M b11 0) = ((v24 : Nat) : Int) := (congrFun hV.2.1 0).symm.trans ((fx_of hM_122 rfl hv24).trans (nI_toInt (by omega)))
                        have hx11 : (fx M b11 11) = ((v15 : Nat) : Int) := (congrFun hV.2.1 11).symm.trans ((fx_of hM_122 rfl hv15).trans (nI_toInt (by omega)))
                        obtain ⟨v128, hv128, hc128⟩ : ∃ v : Nat, fs14[34]? = some (.ref v : Value) ∧ isk K L v 43 16 := hl14 34 (by decide)
                        obtain ⟨f129, hM129⟩ := hW.open_43 hc128
                        have hy34 : (ax M b11 34) = f129 := (congrFun hV.2.2.1 34).symm.trans (ax_of hM_122 (by decide) hv128 hM129)
                        refine va_calli (va_runV (As := [.int k2]) (rest := [.ref b11, .int (nI zgw36), .ref z12]) ⟨hx, hb, hml, hown, hg⟩ (r_ruleOnP l D cy K L M_120 H_119.size b11 k2  hW hb_13 ⟨_, _, _, _, hM_122, hv15, by omega, by omega, hv128, hc128, hM129, rldp hy34 (hAT.2.2.2.1.1 (by omega)) (by rw [hx0]; exact geI c_25 (by omega))⟩) (cwV 1 hg (gV wd_815 wd_816 wd_817 wd_737 wd_818) rfl rfl rfl (by decide +kernel) ⟨(Nat.le_trans (Nat.le_of_ble_eq_true rfl) hRf), (Nat.le_trans (Nat.le_of_ble_eq_true rfl) hRl)⟩) ⟨PG.blind, pg_recv hK hP hb_13.1 hM_122 rfl, fun U hU hW => ⟨rfl, PG.at hPc hK hDc hN hU hW⟩⟩ rfl rfl hl.1 rfl (lv_room (Nat.le_of_ble_eq_true rfl)) dX13_bear_230 ⟨(Nat.le_trans (Nat.le_of_ble_eq_true rfl) hRc), (Nat.le_trans (Nat.le_of_ble_eq_true rfl) hRs)⟩) hS (fun q _ h => hFc q h) hFc (fun r_131 M_132 t H_130 locs ht hvm hw hB hz1 hk1 hS => ?_)
                        have hp_133 := hw
                        obtain ⟨hP1, hD1⟩ := hB
                        rw [ht] at hP1
                        obtain ⟨hP, hD⟩ := va_joinP (X := [(za, (b13_0 0 z1 (nI z2) (nI z3) z4 z5 z6 z7 z8 z9 (nI z10) z11 z12 z13 z14 z15 (nI zgw36) z17 z18 z19))]) (cx := []) (wr := [(za, (b13_0 0 z1 (nI z2) (nI z3) z4 z5 z6 z7 z8 z9 (nI z10) z11 z12 z13 z14 z15 (nI zgw36) z17 z18 z19))]) (rx := []) (pl := va_pl L M_120) (pl1 := va_pl L M_120) hP hD [] [0] rfl rfl (by decide) (by decide) hk1 hFc hP1 hD1
                        have hP : va_P D vwCl ([(za, (b13_0 0 z1 (nI z2) (nI z3) z4 z5 z6 z7 z8 z9 (nI z10) z11 z12 z13 z14 z15 (nI zgw36) z17 z18 z19))] ++ va_pl L M_120) H_130 := hP
                        have hD : va_D A ([(za, (b13_0 0 z1 (nI z2) (nI z3) z4 z5 z6 z7 z8 z9 (nI z10) z11 z12 z13 z14 z15 (nI zgw36) z17 z18 z19))] ++ va_pl L M_120) := hD
                        obtain ⟨j_134, rfl, c_135⟩ := hp_133
                        refine lv_goto (tgt := 243) hx hb dX13_bear_233 (by decide) ?_
                        refine lv_iconst (v := 3) hx hb dX13_bear_243 (by decide) ?_
                        refine lv_aload hx hb dX13_bear_244 (lv_at hl 3 rfl) ?_
                        obtain ⟨v136, hv136, hc136⟩ : ∃ v : Nat, fs14[20]? = some (.ref v : Value) ∧ isk K L v 31 24 := hl14 20 (by decide)
                        refine pg_getN (D := D) (ci := 12) (v := .ref v136) (C := RX12) (T := TX12) (N := 51) hx hb hg inG12 hown hK hP hb_13.1 hM_122 rfl 20 (by decide) (hN.use (Cond.fieldLinkNest RX13 110 RX12 "where" "[I" RX13) 29 rfl rfl) (fun _ h9 => h9) hv136 dX13_bear_246 ?_
                        refine lv_iload hx hb dX13_bear_249 (lv_at hl 2 rfl) ?_
                        obtain ⟨f137, hM137, hf137⟩ := hW.open_31 hc136
                        have hi_138 : vp_in (nI v5w36) 24 := (inbN v5w36 24 (by omega) (by omega))
                        refine pg_iald hx hb hK hP hc136.1 0 hM137 rfl hi_138 dX13_bear_251 ?_
                        have hp_139 := hf137 _ (vp_lt hi_138)
                        obtain ⟨c_140, hc_141, ec_142⟩ := hp_139
                        rw [ec_142]
                        have hPc : va_P D vwCl ([] ++ va_pl L M_120) H_130 := hP.part (cx := []) [] rfl
                        have hDc : va_D A ([] ++ va_pl L M_120) := hD.part (cx := []) [] (by decide) rfl
                        have hFc : ∀ q, va_A ([] ++ va_pl L M_120) H_130.size q → A q := pg_free hDc hS hA
                        refine va_calli (va_runV (As := [.int (nI j_134), .int 3, .int (nI c_140)]) (rest := [.int (nI zgw36), .ref z12]) ⟨hx, hb, hml, hown, hg⟩ (r_X12_term l D cy K L M_120 H_130.size b11 j_134 3 c_140  hW hb_13 c_135 (by omega) hc_141) (cwV 3 hg (gV wd_770 wd_771 wd_772 wd_737 wd_773) rfl rfl rfl (by decide +kernel) ⟨(Nat.le_trans (Nat.le_of_ble_eq_true rfl) hRf), (Nat.le_trans (Nat.le_of_ble_eq_true rfl) hRl)⟩) ⟨PG.blind, pg_recv hK hP hb_13.1 hM_122 rfl, fun U hU hW => ⟨rfl, PG.at hPc hK hDc hN hU hW⟩⟩ rfl rfl hl.1 rfl (lv_room (Nat.le_of_ble_eq_true rfl)) dX13_bear_252 ⟨(Nat.le_trans (Nat.le_of_ble_eq_true rfl) hRc), (Nat.le_trans (Nat.le_of_ble_eq_true rfl) hRs)⟩) hS (fun q _ h => hFc q h) hFc (fun r_144 M_145 t H_143 locs ht hvm hw hB hz1 hk1 hS => ?_)
                        have hp_146 := hw
                        obtain ⟨hP1, hD1⟩ := hB
                        rw [ht] at hP1
                        obtain ⟨hP, hD⟩ := va_joinP (X := [(za, (b13_0 0 z1 (nI z2) (nI z3) z4 z5 z6 z7 z8 z9 (nI z10) z11 z12 z13 z14 z15 (nI zgw36) z17 z18 z19))]) (cx := []) (wr := [(za, (b13_0 0 z1 (nI z2) (nI z3) z4 z5 z6 z7 z8 z9 (nI z10) z11 z12 z13 z14 z15 (nI zgw36) z17 z18 z19))]) (rx := []) (pl := va_pl L M_120) (pl1 := va_pl L M_120) hP hD [] [0] rfl rfl (by decide) (by decide) hk1 hFc hP1 hD1
                        have hP : va_P D vwCl ([(za, (b13_0 0 z1 (nI z2) (nI z3) z4 z5 z6 z7 z8 z9 (nI z10) z11 z12 z13 z14 z15 (nI zgw36) z17 z18 z19))] ++ va_pl L M_120) H_143 := hP
                        have hD : va_D A ([(za, (b13_0 0 z1 (nI z2) (nI z3) z4 z5 z6 z7 z8 z9 (nI z10) z11 z12 z13 z14 z15 (nI zgw36) z17 z18 z19))] ++ va_pl L M_120) := hD
                        obtain ⟨f147, hM147⟩ := hW.open_14 i12
                        refine pg_iast hx hb hK hP hD hS i12.1 0 hM147 rfl (inbN zgw36 24 (by omega) (by omega)) dX13_bear_255 (fun H_148 locs hP hD hS => ?_)
                        obtain ⟨M_149, eM_149⟩ : ∃ M1 : Hp, M1 = va_up M_120 z12 (.inl (cy 14, 24, .inl (upd f147 ((nI zgw36) : Int32).toNatClampNeg r_144))) := ⟨_, rfl⟩
                        have hV : VW K L M M_149 b11 (fx M b11) (ax M b11) := by rw [eM_149]; exact hV.oth hW hb_13 i12 (by decide)
                        have hP : va_P D vwCl ([(za, (b13_0 0 z1 (nI z2) (nI z3) z4 z5 z6 z7 z8 z9 (nI z10) z11 z12 z13 z14 z15 (nI zgw36) z17 z18 z19))] ++ va_pl L M_149) H_148 := by rw [eM_149]; exact hP
                        have hD : va_D A ([(za, (b13_0 0 z1 (nI z2) (nI z3) z4 z5 z6 z7 z8 z9 (nI z10) z11 z12 z13 z14 z15 (nI zgw36) z17 z18 z19))] ++ va_pl L M_149) := by rw [eM_149]; exact hD
                        have hW : WOM cy K L M_149 := by rw [eM_149]; exact hW.up_14 i12 ⟨_, rfl⟩
                        have hF : fr K L [14, 15, 32, 97, 98, 99] M M_149 := by rw [eM_149]; exact hF.up i12 (by decide)
                        have hM_150 : M_149 z12 = .inl (cy 14, 24, .inl (upd f147 ((nI zgw36) : Int32).toNatClampNeg r_144)) := by rw [eM_149]; exact va_up_self _ _ _
                        have hM_151 : M_149 z11 = .inl (cy 14, 24, .inl (f_125)) := by rw [eM_149, va_up_ne _ _ (i11.neT i12 (by decide))]; exact hM_121
                        have hM_152 : M_149 b11 = .inr (12, fs14) := by rw [eM_149, va_up_ne _ _ (hb_13.neT i12 (by decide))]; exact hM_122
                        have hM_153 : M_149 v109 = .inl (cy 14, 24, .inl (f110)) := by rw [eM_149, va_up_ne _ _ (hc109.neT i12 (by decide))]; exact hM_123
                        have hM_154 : M_149 v113 = .inl (cy 14, 24, .inl (f114)) := by rw [eM_149, va_up_ne _ _ (hc113.neT i12 (by decide))]; exact hM_124
                        have hM_155 : M_149 v128 = .inl (cy 14, 16, .inl (f129)) := by rw [eM_149, va_up_ne _ _ (hc128.neT i12 (by decide))]; exact hM129
                        have hM_156 : M_149 v136 = .inl (cy 14, 24, .inl (f137)) := by rw [eM_149, va_up_ne _ _ (hc136.neT i12 (by decide))]; exact hM137
                        obtain ⟨f_157, ef_157⟩ : ∃ f : Nat → Int32, f = upd f147 ((nI zgw36) : Int32).toNatClampNeg r_144 := ⟨_, rfl⟩
                        rw [← ef_157] at hM_150
                        refine lv_aload_n hx hb dX13_bear_256 rfl (lv_at hl 4 rfl) ?_
                        refine va_get (D := D) (ci := 13) (v := .ref z13) (C := RX13) (T := TX13) (N := 20) hx hb hg inG13 hown hK hP 0 rfl rfl 13 (by decide) (hg _ wd_789) (fun _ h9 => h9) rfl dX13_bear_257 ?_
                        refine lv_aload_n hx hb dX13_bear_260 rfl (lv_at hl 4 rfl) ?_
                        refine va_get (D := D) (ci := 13) (v := .int (nI zgw36)) (C := RX13) (T := TX13) (N := 20) hx hb hg inG13 hown hK hP 0 rfl rfl 16 (by decide) (hg _ wd_769) (fun _ h9 => h9) rfl dX13_bear_261 ?_
                        refine lv_lconst (v := 0) hx hb dX13_bear_264 (by decide) ?_
                        obtain ⟨f158, hM158⟩ := hW.open_97 i13
                        refine pg_last hx hb hK hP hD hS i13.1 1 hM158 rfl (inbN zgw36 24 (by omega) (by omega)) dX13_bear_265 (fun H_159 locs hP hD hS => ?_)
                        obtain ⟨M_160, eM_160⟩ : ∃ M1 : Hp, M1 = va_up M_149 z13 (.inl (cy 15, 24, .inr (.inl (vp_updL f158 ((nI zgw36) : Int32).toNatClampNeg 0)))) := ⟨_, rfl⟩
                        have hV : VW K L M M_160 b11 (fx M b11) (ax M b11) := by rw [eM_160]; exact hV.oth hW hb_13 i13 (by decide)
                        have hP : va_P D vwCl ([(za, (b13_0 0 z1 (nI z2) (nI z3) z4 z5 z6 z7 z8 z9 (nI z10) z11 z12 z13 z14 z15 (nI zgw36) z17 z18 z19))] ++ va_pl L M_160) H_159 := by rw [eM_160]; exact hP
                        have hD : va_D A ([(za, (b13_0 0 z1 (nI z2) (nI z3) z4 z5 z6 z7 z8 z9 (nI z10) z11 z12 z13 z14 z15 (nI zgw36) z17 z18 z19))] ++ va_pl L M_160) := by rw [eM_160]; exact hD
                        have hW : WOM cy K L M_160 := by rw [eM_160]; exact hW.up_97 i13 ⟨_, rfl⟩
                        have hF : fr K L [14, 15, 32, 97, 98, 99] M M_160 := by rw [eM_160]; exact hF.up i13 (by decide)
                        have hM_161 : M_160 z13 = .inl (cy 15, 24, .inr (.inl (vp_updL f158 ((nI zgw36) : Int32).toNatClampNeg 0))) := by rw [eM_160]; exact va_up_self _ _ _
                        have hM_162 : M_160 z12 = .inl (cy 14, 24, .inl (f_157)) := by rw [eM_160, va_up_ne _ _ (i12.neT i13 (by decide))]; exact hM_150
                        have hM_163 : M_160 z11 = .inl (cy 14, 24, .inl (f_125)) := by rw [eM_160, va_up_ne _ _ (i11.neT i13 (by decide))]; exact hM_151
                        have hM_164 : M_160 b11 = .inr (12, fs14) := by rw [eM_160, va_up_ne _ _ (hb_13.neT i13 (by decide))]; exact hM_152
                        have hM_165 : M_160 v109 = .inl (cy 14, 24, .inl (f110)) := by rw [eM_160, va_up_ne _ _ (hc109.neT i13 (by decide))]; exact hM_153
                        have hM_166 : M_160 v113 = .inl (cy 14, 24, .inl (f114)) := by rw [eM_160, va_up_ne _ _ (hc113.neT i13 (by decide))]; exact hM_154
                        have hM_167 : M_160 v128 = .inl (cy 14, 16, .inl (f129)) := by rw [eM_160, va_up_ne _ _ (hc128.neT i13 (by decide))]; exact hM_155
                        have hM_168 : M_160 v136 = .inl (cy 14, 24, .inl (f137)) := by rw [eM_160, va_up_ne _ _ (hc136.neT i13 (by decide))]; exact hM_156
                        obtain ⟨f_169, ef_169⟩ : ∃ f : Nat → Int64, f = vp_updL f158 ((nI zgw36) : Int32).toNatClampNeg 0 := ⟨_, rfl⟩
                        rw [← ef_169] at hM_161
                        refine lv_aload_n hx hb dX13_bear_266 rfl (lv_at hl 4 rfl) ?_
                        refine lv_dup hx hb dX13_bear_267 rfl ?_
                        refine va_get (D := D) (ci := 13) (v := .int (nI zgw36)) (C := RX13) (T := TX13) (N := 20) hx hb hg inG13 hown hK hP 0 rfl rfl 16 (by decide) (hg _ wd_769) (fun _ h9 => h9) rfl dX13_bear_268 ?_
                        refine lv_iconst (v := 1) hx hb dX13_bear_271 (by decide) ?_
                        refine lv_iadd hx hb dX13_bear_272 ?_
                        refine lv_topi (fun f_170 ef_170 => ?_)
                        obtain rfl : f_170 = (nI (zgw36 + 1)) := ef_170.trans (nI_add zgw36 1)
                        refine va_put (D := D) (ci := 13) (v := .int (nI (zgw36 + 1))) (ty := .int) (C := RX13) (T := TX13) (N := 20) hx hb hg inG13 tyX13 tyX13_ok nmX13 hown hK hP hD hS 0 rfl rfl 16 (by decide) (hg _ wd_769) (fun _ h9 => h9) rfl (by decide +kernel) rfl rfl (Nat.le_of_ble_eq_true rfl) dX13_bear_273 (fun H_171 locs hP hD hS => ?_)
                        have hP : va_P D vwCl ([(za, (b13_0 0 z1 (nI z2) (nI z3) z4 z5 z6 z7 z8 z9 (nI z10) z11 z12 z13 z14 z15 (nI (zgw36 + 1)) z17 z18 z19))] ++ va_pl L M_160) H_171 := hP
                        have hD : va_D A ([(za, (b13_0 0 z1 (nI z2) (nI z3) z4 z5 z6 z7 z8 z9 (nI z10) z11 z12 z13 z14 z15 (nI (zgw36 + 1)) z17 z18 z19))] ++ va_pl L M_160) := hD
                        refine lv_iinc (v := (nI (v5w36 + 1))) (lv' := [(5, .int (nI (v5w36 + 1))), (7, .int 0), (6, .int 1), (4, .ref b11), (0, .ref za), (1, .int k1), (2, .int k2), (3, .int k3)]) hx hb dX13_bear_276 hl (k := 2) rfl (nI_1 v5w36) (by decide) rfl (fun ls hl => ?_)
                        refine lv_goto (tgt := 82) hx hb dX13_bear_279 (by decide) ?_
                        exact ih_34 (v5w36 + 1) (zgw36 + 1) M_160 H_171 _ _ (by omega) hM_164 (by omega) (by omega) hW hF hV hP hD hS (lv_sub hl [0, 3, 4, 5, 6, 7] rfl)
                      · have hz := rfl (a := 0)
                        refine lv_aload hx hb dX13_bear_158 (lv_at hl 2 rfl) ?_
                        obtain ⟨v172, hv172, hc172⟩ : ∃ v : Nat, fs14[26]? = some (.ref v : Value) ∧ isk K L v 16 24 := hl14 26 (by decide)
                        refine pg_getN (D := D) (ci := 12) (v := .ref v172) (C := RX12) (T := TX12) (N := 51) hx hb hg inG12 hown hK hP hb_13.1 hM_41 rfl 26 (by decide) (hN.use (Cond.fieldLinkNest RX13 124 RX12 "word" "[Z" RX13) 35 rfl rfl) (fun _ h9 => h9) hv172 dX13_bear_160 ?_
                        refine lv_iload hx hb dX13_bear_163 (lv_at hl 1 rfl) ?_
                        obtain ⟨f173, hM173, hf173⟩ := hW.open_16 hc172
                        have hi_174 : vp_in (nI v5w36) 24 := (inbN v5w36 24 (by omega) (by omega))
                        refine pg_zald hx hb hK hP hc172.1 2 hM173 rfl hi_174 dX13_bear_165 ?_
                        rcases hf173 _ (vp_lt hi_174) with ec_175 | ec_175
                        · rw [ec_175]
                          refine lv_if_eq (tgt := 185) hx hb dX13_bear_166 (by decide) (fun _ => ?_) (fun c_176 => absurd c_176 (by decide))
                          refine lv_iconst (v := 0) hx hb dX13_bear_185 (by decide) ?_
                          refine lv_istore (lv' := [(7, .int 0), (6, .int 1), (5, .int (nI v5w36)), (4, .ref b11), (0, .ref za), (1, .int k1), (2, .int k2), (3, .int k3)]) hx hb dX13_bear_186 hl (by decide) rfl (fun ls hl => ?_)
                          refine lv_iload hx hb dX13_bear_188 (lv_at hl 1 rfl) ?_
                          refine lv_if_ne (tgt := 201) hx hb dX13_bear_190 (by decide) (fun _ => ?_) (fun c_177 => absurd c_177 (by decide))
                          refine lv_aload_n hx hb dX13_bear_201 rfl (lv_at hl 4 rfl) ?_
                          refine va_get (D := D) (ci := 13) (v := .ref z11) (C := RX13) (T := TX13) (N := 20) hx hb hg inG13 hown hK hP 0 rfl rfl 11 (by decide) (hg _ wd_764) (fun _ h9 => h9) rfl dX13_bear_202 ?_
                          refine lv_aload_n hx hb dX13_bear_205 rfl (lv_at hl 4 rfl) ?_
                          refine va_get (D := D) (ci := 13) (v := .int (nI zgw36)) (C := RX13) (T := TX13) (N := 20) hx hb hg inG13 hown hK hP 0 rfl rfl 16 (by decide) (hg _ wd_769) (fun _ h9 => h9) rfl dX13_bear_206 ?_
                          refine lv_iload hx hb dX13_bear_209 (lv_at hl 2 rfl) ?_
                          obtain ⟨f178, hM178, hf178⟩ := hW.open_32 i11
                          refine pg_iast hx hb hK hP hD hS i11.1 0 hM178 rfl (inbN zgw36 24 (by omega) (by omega)) dX13_bear_211 (fun H_179 locs hP hD hS => ?_)
                          obtain ⟨M_180, eM_180⟩ : ∃ M1 : Hp, M1 = va_up M_39 z11 (.inl (cy 14, 24, .inl (upd f178 ((nI zgw36) : Int32).toNatClampNeg (nI v5w36)))) := ⟨_, rfl⟩
                          have hV : VW K L M M_180 b11 (fx M b11) (ax M b11) := by rw [eM_180]; exact hV.oth hW hb_13 i11 (by decide)
                          have hP : va_P D vwCl ([(za, (b13_0 0 z1 (nI z2) (nI z3) z4 z5 z6 z7 z8 z9 (nI z10) z11 z12 z13 z14 z15 (nI zgw36) z17 z18 z19))] ++ va_pl L M_180) H_179 := by rw [eM_180]; exact hP
                          have hD : va_D A ([(za, (b13_0 0 z1 (nI z2) (nI z3) z4 z5 z6 z7 z8 z9 (nI z10) z11 z12 z13 z14 z15 (nI zgw36) z17 z18 z19))] ++ va_pl L M_180) := by rw [eM_180]; exact hD
                          have hW : WOM cy K L M_180 := by rw [eM_180]; exact hW.up_32 i11 ⟨_, rfl, (updP (P := fun z => ∃ c : Nat, c < 24 ∧ z = nI c) hf178 ⟨v5w36, by omega, rfl⟩)⟩
                          have hF : fr K L [14, 15, 32, 97, 98, 99] M M_180 := by rw [eM_180]; exact hF.up i11 (by decide)
                          have hM_181 : M_180 z11 = .inl (cy 14, 24, .inl (upd f178 ((nI zgw36) : Int32).toNatClampNeg (nI v5w36))) := by rw [eM_180]; exact va_up_self _ _ _
                          have hM_182 : M_180 b11 = .inr (12, fs14) := by rw [eM_180, va_up_ne _ _ (hb_13.neT i11 (by decide))]; exact hM_41
                          have hM_183 : M_180 v109 = .inl (cy 14, 24, .inl (f110)) := by rw [eM_180, va_up_ne _ _ (hc109.neT i11 (by decide))]; exact hM110
                          have hM_184 : M_180 v113 = .inl (cy 14, 24, .inl (f114)) := by rw [eM_180, va_up_ne _ _ (hc113.neT i11 (by decide))]; exact hM114
                          have hM_185 : M_180 v172 = .inl (cy 16, 24, .inl (f173)) := by rw [eM_180, va_up_ne _ _ (hc172.neT i11 (by decide))]; exact hM173
                          have hf_187 : ∀ j, j < 24 → ∃ c : Nat, c < 24 ∧ (upd f178 ((nI zgw36) : Int32).toNatClampNeg (nI v5w36)) j = nI c := (updP (P := fun z => ∃ c : Nat, c < 24 ∧ z = nI c) hf178 ⟨v5w36, by omega, rfl⟩)
                          obtain ⟨f_186, ef_186⟩ : ∃ f : Nat → Int32, f = upd f178 ((nI zgw36) : Int32).toNatClampNeg (nI v5w36) := ⟨_, rfl⟩
                          rw [← ef_186] at hM_181 hf_187
                          refine lv_aload_n hx hb dX13_bear_212 rfl (lv_at hl 4 rfl) ?_
                          refine va_get (D := D) (ci := 13) (v := .ref z12) (C := RX13) (T := TX13) (N := 20) hx hb hg inG13 hown hK hP 0 rfl rfl 12 (by decide) (hg _ wd_763) (fun _ h9 => h9) rfl dX13_bear_213 ?_
                          refine lv_aload_n hx hb dX13_bear_216 rfl (lv_at hl 4 rfl) ?_
                          refine va_get (D := D) (ci := 13) (v := .int (nI zgw36)) (C := RX13) (T := TX13) (N := 20) hx hb hg inG13 hown hK hP 0 rfl rfl 16 (by decide) (hg _ wd_769) (fun _ h9 => h9) rfl dX13_bear_217 ?_
                          refine lv_aload hx hb dX13_bear_220 (lv_at hl 3 rfl) ?_
                          refine lv_iload hx hb dX13_bear_222 (lv_at hl 1 rfl) ?_
                          refine lv_if_eq (tgt := 236) hx hb dX13_bear_224 (by decide) (fun c_188 => absurd c_188 (by decide)) (fun _ => ?_)
                          refine lv_aload hx hb dX13_bear_227 (lv_at hl 3 rfl) ?_
                          refine lv_iload_n hx hb dX13_bear_229 rfl (lv_at hl 6 rfl) ?_
                          have hPc : va_P D vwCl ([] ++ va_pl L M_180) H_179 := hP.part (cx := []) [] rfl
                          have hDc : va_D A ([] ++ va_pl L M_180) := hD.part (cx := []) [] (by decide) rfl
                          have hFc : ∀ q, va_A ([] ++ va_pl L M_180) H_179.size q → A q := pg_free hDc hS hA
                          have hx0 : (fx M b11 0) = ((v24 : Nat) : Int) := (congrFun hV.2.1 0).symm.trans ((fx_of hM_182 rfl hv24).trans (nI_toInt (by omega)))
                          have hx11 : (fx M b11 11) = ((v15 : Nat) : Int) := (congrFun hV.2.1 11).symm.trans ((fx_of hM_182 rfl hv15).trans (nI_toInt (by omega)))
                          obtain ⟨v189, hv189, hc189⟩ : ∃ v : Nat, fs14[34]? = some (.ref v : Value) ∧ isk K L v 43 16 := hl14 34 (by decide)
                          obtain ⟨f190, hM190⟩ := hW.open_43 hc189
                          have hy34 : (ax M b11 34) = f190 := (congrFun hV.2.2.1 34).symm.trans (ax_of hM_182 (by decide) hv189 hM190)
                          refine va_calli (va_runV (As := [.int k2]) (rest := [.ref b11, .int (nI zgw36), .ref z12]) ⟨hx, hb, hml, hown, hg⟩ (r_ruleOnP l D cy K L M_180 H_179.size b11 k2  hW hb_13 ⟨_, _, _, _, hM_182, hv15, by omega, by omega, hv189, hc189, hM190, rldp hy34 (hAT.2.2.2.1.1 (by omega)) (by rw [hx0]; exact geI c_25 (by omega))⟩) (cwV 1 hg (gV wd_815 wd_816 wd_817 wd_737 wd_818) rfl rfl rfl (by decide +kernel) ⟨(Nat.le_trans (Nat.le_of_ble_eq_true rfl) hRf), (Nat.le_trans (Nat.le_of_ble_eq_true rfl) hRl)⟩) ⟨PG.blind, pg_recv hK hP hb_13.1 hM_182 rfl, fun U hU hW => ⟨rfl, PG.at hPc hK hDc hN hU hW⟩⟩ rfl rfl hl.1 rfl (lv_room (Nat.le_of_ble_eq_true rfl)) dX13_bear_230 ⟨(Nat.le_trans (Nat.le_of_ble_eq_true rfl) hRc), (Nat.le_trans (Nat.le_of_ble_eq_true rfl) hRs)⟩) hS (fun q _ h => hFc q h) hFc (fun r_192 M_193 t H_191 locs ht hvm hw hB hz1 hk1 hS => ?_)
                          have hp_194 := hw
                          obtain ⟨hP1, hD1⟩ := hB
                          rw [ht] at hP1
                          obtain ⟨hP, hD⟩ := va_joinP (X := [(za, (b13_0 0 z1 (nI z2) (nI z3) z4 z5 z6 z7 z8 z9 (nI z10) z11 z12 z13 z14 z15 (nI zgw36) z17 z18 z19))]) (cx := []) (wr := [(za, (b13_0 0 z1 (nI z2) (nI z3) z4 z5 z6 z7 z8 z9 (nI z10) z11 z12 z13 z14 z15 (nI zgw36) z17 z18 z19))]) (rx := []) (pl := va_pl L M_180) (pl1 := va_pl L M_180) hP hD [] [0] rfl rfl (by decide) (by decide) hk1 hFc hP1 hD1
                          have hP : va_P D vwCl ([(za, (b13_0 0 z1 (nI z2) (nI z3) z4 z5 z6 z7 z8 z9 (nI z10) z11 z12 z13 z14 z15 (nI zgw36) z17 z18 z19))] ++ va_pl L M_180) H_191 := hP
                          have hD : va_D A ([(za, (b13_0 0 z1 (nI z2) (nI z3) z4 z5 z6 z7 z8 z9 (nI z10) z11 z12 z13 z14 z15 (nI zgw36) z17 z18 z19))] ++ va_pl L M_180) := hD
                          obtain ⟨j_195, rfl, c_196⟩ := hp_194
                          refine lv_goto (tgt := 243) hx hb dX13_bear_233 (by decide) ?_
                          refine lv_iconst (v := 3) hx hb dX13_bear_243 (by decide) ?_
                          refine lv_aload hx hb dX13_bear_244 (lv_at hl 3 rfl) ?_
                          obtain ⟨v197, hv197, hc197⟩ : ∃ v : Nat, fs14[20]? = some (.ref v : Value) ∧ isk K L v 31 24 := hl14 20 (by decide)
                          refine pg_getN (D := D) (ci := 12) (v := .ref v197) (C := RX12) (T := TX12) (N := 51) hx hb hg inG12 hown hK hP hb_13.1 hM_182 rfl 20 (by decide) (hN.use (Cond.fieldLinkNest RX13 110 RX12 "where" "[I" RX13) 29 rfl rfl) (fun _ h9 => h9) hv197 dX13_bear_246 ?_
                          refine lv_iload hx hb dX13_bear_249 (lv_at hl 2 rfl) ?_
                          obtain ⟨f198, hM198, hf198⟩ := hW.open_31 hc197
                          have hi_199 : vp_in (nI v5w36) 24 := (inbN v5w36 24 (by omega) (by omega))
                          refine pg_iald hx hb hK hP hc197.1 0 hM198 rfl hi_199 dX13_bear_251 ?_
                          have hp_200 := hf198 _ (vp_lt hi_199)
                          obtain ⟨c_201, hc_202, ec_203⟩ := hp_200
                          rw [ec_203]
                          have hPc : va_P D vwCl ([] ++ va_pl L M_180) H_191 := hP.part (cx := []) [] rfl
                          have hDc : va_D A ([] ++ va_pl L M_180) := hD.part (cx := []) [] (by decide) rfl
                          have hFc : ∀ q, va_A ([] ++ va_pl L M_180) H_191.size q → A q := pg_free hDc hS hA
                          refine va_calli (va_runV (As := [.int (nI j_195), .int 3, .int (nI c_201)]) (rest := [.int (nI zgw36), .ref z12]) ⟨hx, hb, hml, hown, hg⟩ (r_X12_term l D cy K L M_180 H_191.size b11 j_195 3 c_201  hW hb_13 c_196 (by omega) hc_202) (cwV 3 hg (gV wd_770 wd_771 wd_772 wd_737 wd_773) rfl rfl rfl (by decide +kernel) ⟨(Nat.le_trans (Nat.le_of_ble_eq_true rfl) hRf), (Nat.le_trans (Nat.le_of_ble_eq_true rfl) hRl)⟩) ⟨PG.blind, pg_recv hK hP hb_13.1 hM_182 rfl, fun U hU hW => ⟨rfl, PG.at hPc hK hDc hN hU hW⟩⟩ rfl rfl hl.1 rfl (lv_room (Nat.le_of_ble_eq_true rfl)) dX13_bear_252 ⟨(Nat.le_trans (Nat.le_of_ble_eq_true rfl) hRc), (Nat.le_trans (Nat.le_of_ble_eq_true rfl) hRs)⟩) hS (fun q _ h => hFc q h) hFc (fun r_205 M_206 t H_204 locs ht hvm hw hB hz1 hk1 hS => ?_)
                          have hp_207 := hw
                          obtain ⟨hP1, hD1⟩ := hB
                          rw [ht] at hP1
                          obtain ⟨hP, hD⟩ := va_joinP (X := [(za, (b13_0 0 z1 (nI z2) (nI z3) z4 z5 z6 z7 z8 z9 (nI z10) z11 z12 z13 z14 z15 (nI zgw36) z17 z18 z19))]) (cx := []) (wr := [(za, (b13_0 0 z1 (nI z2) (nI z3) z4 z5 z6 z7 z8 z9 (nI z10) z11 z12 z13 z14 z15 (nI zgw36) z17 z18 z19))]) (rx := []) (pl := va_pl L M_180) (pl1 := va_pl L M_180) hP hD [] [0] rfl rfl (by decide) (by decide) hk1 hFc hP1 hD1
                          have hP : va_P D vwCl ([(za, (b13_0 0 z1 (nI z2) (nI z3) z4 z5 z6 z7 z8 z9 (nI z10) z11 z12 z13 z14 z15 (nI zgw36) z17 z18 z19))] ++ va_pl L M_180) H_204 := hP
                          have hD : va_D A ([(za, (b13_0 0 z1 (nI z2) (nI z3) z4 z5 z6 z7 z8 z9 (nI z10) z11 z12 z13 z14 z15 (nI zgw36) z17 z18 z19))] ++ va_pl L M_180) := hD
                          obtain ⟨f208, hM208⟩ := hW.open_14 i12
                          refine pg_iast hx hb hK hP hD hS i12.1 0 hM208 rfl (inbN zgw36 24 (by omega) (by omega)) dX13_bear_255 (fun H_209 locs hP hD hS => ?_)
                          obtain ⟨M_210, eM_210⟩ : ∃ M1 : Hp, M1 = va_up M_180 z12 (.inl (cy 14, 24, .inl (upd f208 ((nI zgw36) : Int32).toNatClampNeg r_205))) := ⟨_, rfl⟩
                          have hV : VW K L M M_210 b11 (fx M b11) (ax M b11) := by rw [eM_210]; exact hV.oth hW hb_13 i12 (by decide)
                          have hP : va_P D vwCl ([(za, (b13_0 0 z1 (nI z2) (nI z3) z4 z5 z6 z7 z8 z9 (nI z10) z11 z12 z13 z14 z15 (nI zgw36) z17 z18 z19))] ++ va_pl L M_210) H_209 := by rw [eM_210]; exact hP
                          have hD : va_D A ([(za, (b13_0 0 z1 (nI z2) (nI z3) z4 z5 z6 z7 z8 z9 (nI z10) z11 z12 z13 z14 z15 (nI zgw36) z17 z18 z19))] ++ va_pl L M_210) := by rw [eM_210]; exact hD
                          have hW : WOM cy K L M_210 := by rw [eM_210]; exact hW.up_14 i12 ⟨_, rfl⟩
                          have hF : fr K L [14, 15, 32, 97, 98, 99] M M_210 := by rw [eM_210]; exact hF.up i12 (by decide)
                          have hM_211 : M_210 z12 = .inl (cy 14, 24, .inl (upd f208 ((nI zgw36) : Int32).toNatClampNeg r_205)) := by rw [eM_210]; exact va_up_self _ _ _
                          have hM_212 : M_210 z11 = .inl (cy 14, 24, .inl (f_186)) := by rw [eM_210, va_up_ne _ _ (i11.neT i12 (by decide))]; exact hM_181
                          have hM_213 : M_210 b11 = .inr (12, fs14) := by rw [eM_210, va_up_ne _ _ (hb_13.neT i12 (by decide))]; exact hM_182
                          have hM_214 : M_210 v109 = .inl (cy 14, 24, .inl (f110)) := by rw [eM_210, va_up_ne _ _ (hc109.neT i12 (by decide))]; exact hM_183
                          have hM_215 : M_210 v113 = .inl (cy 14, 24, .inl (f114)) := by rw [eM_210, va_up_ne _ _ (hc113.neT i12 (by decide))]; exact hM_184
                          have hM_216 : M_210 v172 = .inl (cy 16, 24, .inl (f173)) := by rw [eM_210, va_up_ne _ _ (hc172.neT i12 (by decide))]; exact hM_185
                          have hM_217 : M_210 v189 = .inl (cy 14, 16, .inl (f190)) := by rw [eM_210, va_up_ne _ _ (hc189.neT i12 (by decide))]; exact hM190
                          have hM_218 : M_210 v197 = .inl (cy 14, 24, .inl (f198)) := by rw [eM_210, va_up_ne _ _ (hc197.neT i12 (by decide))]; exact hM198
                          obtain ⟨f_219, ef_219⟩ : ∃ f : Nat → Int32, f = upd f208 ((nI zgw36) : Int32).toNatClampNeg r_205 := ⟨_, rfl⟩
                          rw [← ef_219] at hM_211
                          refine lv_aload_n hx hb dX13_bear_256 rfl (lv_at hl 4 rfl) ?_
                          refine va_get (D := D) (ci := 13) (v := .ref z13) (C := RX13) (T := TX13) (N := 20) hx hb hg inG13 hown hK hP 0 rfl rfl 13 (by decide) (hg _ wd_789) (fun _ h9 => h9) rfl dX13_bear_257 ?_
                          refine lv_aload_n hx hb dX13_bear_260 rfl (lv_at hl 4 rfl) ?_
                          refine va_get (D := D) (ci := 13) (v := .int (nI zgw36)) (C := RX13) (T := TX13) (N := 20) hx hb hg inG13 hown hK hP 0 rfl rfl 16 (by decide) (hg _ wd_769) (fun _ h9 => h9) rfl dX13_bear_261 ?_
                          refine lv_lconst (v := 0) hx hb dX13_bear_264 (by decide) ?_
                          obtain ⟨f220, hM220⟩ := hW.open_97 i13
                          refine pg_last hx hb hK hP hD hS i13.1 1 hM220 rfl (inbN zgw36 24 (by omega) (by omega)) dX13_bear_265 (fun H_221 locs hP hD hS => ?_)
                          obtain ⟨M_222, eM_222⟩ : ∃ M1 : Hp, M1 = va_up M_210 z13 (.inl (cy 15, 24, .inr (.inl (vp_updL f220 ((nI zgw36) : Int32).toNatClampNeg 0)))) := ⟨_, rfl⟩
                          have hV : VW K L M M_222 b11 (fx M b11) (ax M b11) := by rw [eM_222]; exact hV.oth hW hb_13 i13 (by decide)
                          have hP : va_P D vwCl ([(za, (b13_0 0 z1 (nI z2) (nI z3) z4 z5 z6 z7 z8 z9 (nI z10) z11 z12 z13 z14 z15 (nI zgw36) z17 z18 z19))] ++ va_pl L M_222) H_221 := by rw [eM_222]; exact hP
                          have hD : va_D A ([(za, (b13_0 0 z1 (nI z2) (nI z3) z4 z5 z6 z7 z8 z9 (nI z10) z11 z12 z13 z14 z15 (nI zgw36) z17 z18 z19))] ++ va_pl L M_222) := by rw [eM_222]; exact hD
                          have hW : WOM cy K L M_222 := by rw [eM_222]; exact hW.up_97 i13 ⟨_, rfl⟩
                          have hF : fr K L [14, 15, 32, 97, 98, 99] M M_222 := by rw [eM_222]; exact hF.up i13 (by decide)
                          have hM_223 : M_222 z13 = .inl (cy 15, 24, .inr (.inl (vp_updL f220 ((nI zgw36) : Int32).toNatClampNeg 0))) := by rw [eM_222]; exact va_up_self _ _ _
                          have hM_224 : M_222 z12 = .inl (cy 14, 24, .inl (f_219)) := by rw [eM_222, va_up_ne _ _ (i12.neT i13 (by decide))]; exact hM_211
                          have hM_225 : M_222 z11 = .inl (cy 14, 24, .inl (f_186)) := by rw [eM_222, va_up_ne _ _ (i11.neT i13 (by decide))]; exact hM_212
                          have hM_226 : M_222 b11 = .inr (12, fs14) := by rw [eM_222, va_up_ne _ _ (hb_13.neT i13 (by decide))]; exact hM_213
                          have hM_227 : M_222 v109 = .inl (cy 14, 24, .inl (f110)) := by rw [eM_222, va_up_ne _ _ (hc109.neT i13 (by decide))]; exact hM_214
                          have hM_228 : M_222 v113 = .inl (cy 14, 24, .inl (f114)) := by rw [eM_222, va_up_ne _ _ (hc113.neT i13 (by decide))]; exact hM_215
                          have hM_229 : M_222 v172 = .inl (cy 16, 24, .inl (f173)) := by rw [eM_222, va_up_ne _ _ (hc172.neT i13 (by decide))]; exact hM_216
                          have hM_230 : M_222 v189 = .inl (cy 14, 16, .inl (f190)) := by rw [eM_222, va_up_ne _ _ (hc189.neT i13 (by decide))]; exact hM_217
                          have hM_231 : M_222 v197 = .inl (cy 14, 24, .inl (f198)) := by rw [eM_222, va_up_ne _ _ (hc197.neT i13 (by decide))]; exact hM_218
                          obtain ⟨f_232, ef_232⟩ : ∃ f : Nat → Int64, f = vp_updL f220 ((nI zgw36) : Int32).toNatClampNeg 0 := ⟨_, rfl⟩
                          rw [← ef_232] at hM_223
                          refine lv_aload_n hx hb dX13_bear_266 rfl (lv_at hl 4 rfl) ?_
                          refine lv_dup hx hb dX13_bear_267 rfl ?_
                          refine va_get (D := D) (ci := 13) (v := .int (nI zgw36)) (C := RX13) (T := TX13) (N := 20) hx hb hg inG13 hown hK hP 0 rfl rfl 16 (by decide) (hg _ wd_769) (fun _ h9 => h9) rfl dX13_bear_268 ?_
                          refine lv_iconst (v := 1) hx hb dX13_bear_271 (by decide) ?_
                          refine lv_iadd hx hb dX13_bear_272 ?_
                          refine lv_topi (fun f_233 ef_233 => ?_)
                          obtain rfl : f_233 = (nI (zgw36 + 1)) := ef_233.trans (nI_add zgw36 1)
                          refine va_put (D := D) (ci := 13) (v := .int (nI (zgw36 + 1))) (ty := .int) (C := RX13) (T := TX13) (N := 20) hx hb hg inG13 tyX13 tyX13_ok nmX13 hown hK hP hD hS 0 rfl rfl 16 (by decide) (hg _ wd_769) (fun _ h9 => h9) rfl (by decide +kernel) rfl rfl (Nat.le_of_ble_eq_true rfl) dX13_bear_273 (fun H_234 locs hP hD hS => ?_)
                          have hP : va_P D vwCl ([(za, (b13_0 0 z1 (nI z2) (nI z3) z4 z5 z6 z7 z8 z9 (nI z10) z11 z12 z13 z14 z15 (nI (zgw36 + 1)) z17 z18 z19))] ++ va_pl L M_222) H_234 := hP
                          have hD : va_D A ([(za, (b13_0 0 z1 (nI z2) (nI z3) z4 z5 z6 z7 z8 z9 (nI z10) z11 z12 z13 z14 z15 (nI (zgw36 + 1)) z17 z18 z19))] ++ va_pl L M_222) := hD
                          refine lv_iinc (v := (nI (v5w36 + 1))) (lv' := [(5, .int (nI (v5w36 + 1))), (7, .int 0), (6, .int 1), (4, .ref b11), (0, .ref za), (1, .int k1), (2, .int k2), (3, .int k3)]) hx hb dX13_bear_276 hl (k := 2) rfl (nI_1 v5w36) (by decide) rfl (fun ls hl => ?_)
                          refine lv_goto (tgt := 82) hx hb dX13_bear_279 (by decide) ?_
                          exact ih_34 (v5w36 + 1) (zgw36 + 1) M_222 H_234 _ _ (by omega) hM_226 (by omega) (by omega) hW hF hV hP hD hS (lv_sub hl [0, 3, 4, 5, 6, 7] rfl)
                        · rw [ec_175]
                          refine lv_if_eq (tgt := 185) hx hb dX13_bear_166 (by decide) (fun c_235 => absurd c_235 (by decide)) (fun _ => ?_)
                          refine lv_aload hx hb dX13_bear_169 (lv_at hl 2 rfl) ?_
                          refine pg_getN (D := D) (ci := 12) (v := .ref v109) (C := RX12) (T := TX12) (N := 51) hx hb hg inG12 hown hK hP hb_13.1 hM_41 rfl 22 (by decide) (hN.use (Cond.fieldLinkNest RX13 95 RX12 "ended" "[I" RX13) 31 rfl rfl) (fun _ h9 => h9) hv109 dX13_bear_171 ?_
                          refine lv_iload hx hb dX13_bear_174 (lv_at hl 1 rfl) ?_
                          refine pg_iald hx hb hK hP hc109.1 0 hM110 rfl (inbN v5w36 24 (by omega) (by omega)) dX13_bear_176 ?_
                          refine lv_topi (fun f_236 ef_236 => ?_)
                          refine lv_iconst (v := (-1)) hx hb dX13_bear_177 (by decide) ?_
                          refine lv_icmp_ne (tgt := 185) hx hb dX13_bear_178 (by decide) (fun c_237 => ?_) (fun c_237 => ?_)
                          · have hz := rfl (a := 0)
                            refine lv_iconst (v := 0) hx hb dX13_bear_185 (by decide) ?_
                            refine lv_istore (lv' := [(7, .int 0), (6, .int 1), (5, .int (nI v5w36)), (4, .ref b11), (0, .ref za), (1, .int k1), (2, .int k2), (3, .int k3)]) hx hb dX13_bear_186 hl (by decide) rfl (fun ls hl => ?_)
                            refine lv_iload hx hb dX13_bear_188 (lv_at hl 1 rfl) ?_
                            refine lv_if_ne (tgt := 201) hx hb dX13_bear_190 (by decide) (fun _ => ?_) (fun c_238 => absurd c_238 (by decide))
                            refine lv_aload_n hx hb dX13_bear_201 rfl (lv_at hl 4 rfl) ?_
                            refine va_get (D := D) (ci := 13) (v := .ref z11) (C := RX13) (T := TX13) (N := 20) hx hb hg inG13 hown hK hP 0 rfl rfl 11 (by decide) (hg _ wd_764) (fun _ h9 => h9) rfl dX13_bear_202 ?_
                            refine lv_aload_n hx hb dX13_bear_205 rfl (lv_at hl 4 rfl) ?_
                            refine va_get (D := D) (ci := 13) (v := .int (nI zgw36)) (C := RX13) (T := TX13) (N := 20) hx hb hg inG13 hown hK hP 0 rfl rfl 16 (by decide) (hg _ wd_769) (fun _ h9 => h9) rfl dX13_bear_206 ?_
                            refine lv_iload hx hb dX13_bear_209 (lv_at hl 2 rfl) ?_
                            obtain ⟨f239, hM239, hf239⟩ := hW.open_32 i11
                            refine pg_iast hx hb hK hP hD hS i11.1 0 hM239 rfl (inbN zgw36 24 (by omega) (by omega)) dX13_bear_211 (fun H_240 locs hP hD hS => ?_)
                            obtain ⟨M_241, eM_241⟩ : ∃ M1 : Hp, M1 = va_up M_39 z11 (.inl (cy 14, 24, .inl (upd f239 ((nI zgw36) : Int32).toNatClampNeg (nI v5w36)))) := ⟨_, rfl⟩
                            have hV : VW K L M M_241 b11 (fx M b11) (ax M b11) := by rw [eM_241]; exact hV.oth hW hb_13 i11 (by decide)
                            have hP : va_P D vwCl ([(za, (b13_0 0 z1 (nI z2) (nI z3) z4 z5 z6 z7 z8 z9 (nI z10) z11 z12 z13 z14 z15 (nI zgw36) z17 z18 z19))] ++ va_pl L M_241) H_240 := by rw [eM_241]; exact hP
                            have hD : va_D A ([(za, (b13_0 0 z1 (nI z2) (nI z3) z4 z5 z6 z7 z8 z9 (nI z10) z11 z12 z13 z14 z15 (nI zgw36) z17 z18 z19))] ++ va_pl L M_241) := by rw [eM_241]; exact hD
                            have hW : WOM cy K L M_241 := by rw [eM_241]; exact hW.up_32 i11 ⟨_, rfl, (updP (P := fun z => ∃ c : Nat, c < 24 ∧ z = nI c) hf239 ⟨v5w36, by omega, rfl⟩)⟩
                            have hF : fr K L [14, 15, 32, 97, 98, 99] M M_241 := by rw [eM_241]; exact hF.up i11 (by decide)
                            have hM_242 : M_241 z11 = .inl (cy 14, 24, .inl (upd f239 ((nI zgw36) : Int32).toNatClampNeg (nI v5w36))) := by rw [eM_241]; exact va_up_self _ _ _
                            have hM_243 : M_241 b11 = .inr (12, fs14) := by rw [eM_241, va_up_ne _ _ (hb_13.neT i11 (by decide))]; exact hM_41
                            have hM_244 : M_241 v109 = .inl (cy 14, 24, .inl (f110)) := by rw [eM_241, va_up_ne _ _ (hc109.neT i11 (by decide))]; exact hM110
                            have hM_245 : M_241 v113 = .inl (cy 14, 24, .inl (f114)) := by rw [eM_241, va_up_ne _ _ (hc113.neT i11 (by decide))]; exact hM114
                            have hM_246 : M_241 v172 = .inl (cy 16, 24, .inl (f173)) := by rw [eM_241, va_up_ne _ _ (hc172.neT i11 (by decide))]; exact hM173
                            have hf_248 : ∀ j, j < 24 → ∃ c : Nat, c < 24 ∧ (upd f239 ((nI zgw36) : Int32).toNatClampNeg (nI v5w36)) j = nI c := (updP (P := fun z => ∃ c : Nat, c < 24 ∧ z = nI c) hf239 ⟨v5w36, by omega, rfl⟩)
                            obtain ⟨f_247, ef_247⟩ : ∃ f : Nat → Int32, f = upd f239 ((nI zgw36) : Int32).toNatClampNeg (nI v5w36) := ⟨_, rfl⟩
                            rw [← ef_247] at hM_242 hf_248
                            refine lv_aload_n hx hb dX13_bear_212 rfl (lv_at hl 4 rfl) ?_
                            refine va_get (D := D) (ci := 13) (v := .ref z12) (C := RX13) (T := TX13) (N := 20) hx hb hg inG13 hown hK hP 0 rfl rfl 12 (by decide) (hg _ wd_763) (fun _ h9 => h9) rfl dX13_bear_213 ?_
                            refine lv_aload_n hx hb dX13_bear_216 rfl (lv_at hl 4 rfl) ?_
                            refine va_get (D := D) (ci := 13) (v := .int (nI zgw36)) (C := RX13) (T := TX13) (N := 20) hx hb hg inG13 hown hK hP 0 rfl rfl 16 (by decide) (hg _ wd_769) (fun _ h9 => h9) rfl dX13_bear_217 ?_
                            refine lv_aload hx hb dX13_bear_220 (lv_at hl 3 rfl) ?_
                            refine lv_iload hx hb dX13_bear_222 (lv_at hl 1 rfl) ?_
                            refine lv_if_eq (tgt := 236) hx hb dX13_bear_224 (by decide) (fun c_249 => absurd c_249 (by decide)) (fun _ => ?_)
                            refine lv_aload hx hb dX13_bear_227 (lv_at hl 3 rfl) ?_
                            refine lv_iload_n hx hb dX13_bear_229 rfl (lv_at hl 6 rfl) ?_
                            have hPc : va_P D vwCl ([] ++ va_pl L M_241) H_240 := hP.part (cx := []) [] rfl
                            have hDc : va_D A ([] ++ va_pl L M_241) := hD.part (cx := []) [] (by decide) rfl
                            have hFc : ∀ q, va_A ([] ++ va_pl L M_241) H_240.size q → A q := pg_free hDc hS hA
                            have hx0 : (fx M b11 0) = ((v24 : Nat) : Int) := (congrFun hV.2.1 0).symm.trans ((fx_of hM_243 rfl hv24).trans (nI_toInt (by omega)))
                            have hx11 : (fx M b11 11) = ((v15 : Nat) : Int) := (congrFun hV.2.1 11).symm.trans ((fx_of hM_243 rfl hv15).trans (nI_toInt (by omega)))
                            obtain ⟨v250, hv250, hc250⟩ : ∃ v : Nat, fs14[34]? = some (.ref v : Value) ∧ isk K L v 43 16 := hl14 34 (by decide)
                            obtain ⟨f251, hM251⟩ := hW.open_43 hc250
                            have hy34 : (ax M b11 34) = f251 := (congrFun hV.2.2.1 34).symm.trans (ax_of hM_243 (by decide) hv250 hM251)
                            refine va_calli (va_runV (As := [.int k2]) (rest := [.ref b11, .int (nI zgw36), .ref z12]) ⟨hx, hb, hml, hown, hg⟩ (r_ruleOnP l D cy K L M_241 H_240.size b11 k2  hW hb_13 ⟨_, _, _, _, hM_243, hv15, by omega, by omega, hv250, hc250, hM251, rldp hy34 (hAT.2.2.2.1.1 (by omega)) (by rw [hx0]; exact geI c_25 (by omega))⟩) (cwV 1 hg (gV wd_815 wd_816 wd_817 wd_737 wd_818) rfl rfl rfl (by decide +kernel) ⟨(Nat.le_trans (Nat.le_of_ble_eq_true rfl) hRf), (Nat.le_trans (Nat.le_of_ble_eq_true rfl) hRl)⟩) ⟨PG.blind, pg_recv hK hP hb_13.1 hM_243 rfl, fun U hU hW => ⟨rfl, PG.at hPc hK hDc hN hU hW⟩⟩ rfl rfl hl.1 rfl (lv_room (Nat.le_of_ble_eq_true rfl)) dX13_bear_230 ⟨(Nat.le_trans (Nat.le_of_ble_eq_true rfl) hRc), (Nat.le_trans (Nat.le_of_ble_eq_true rfl) hRs)⟩) hS (fun q _ h => hFc q h) hFc (fun r_253 M_254 t H_252 locs ht hvm hw hB hz1 hk1 hS => ?_)
                            have hp_255 := hw
                            obtain ⟨hP1, hD1⟩ := hB
                            rw [ht] at hP1
                            obtain ⟨hP, hD⟩ := va_joinP (X := [(za, (b13_0 0 z1 (nI z2) (nI z3) z4 z5 z6 z7 z8 z9 (nI z10) z11 z12 z13 z14 z15 (nI zgw36) z17 z18 z19))]) (cx := []) (wr := [(za, (b13_0 0 z1 (nI z2) (nI z3) z4 z5 z6 z7 z8 z9 (nI z10) z11 z12 z13 z14 z15 (nI zgw36) z17 z18 z19))]) (rx := []) (pl := va_pl L M_241) (pl1 := va_pl L M_241) hP hD [] [0] rfl rfl (by decide) (by decide) hk1 hFc hP1 hD1
                            have hP : va_P D vwCl ([(za, (b13_0 0 z1 (nI z2) (nI z3) z4 z5 z6 z7 z8 z9 (nI z10) z11 z12 z13 z14 z15 (nI zgw36) z17 z18 z19))] ++ va_pl L M_241) H_252 := hP
                            have hD : va_D A ([(za, (b13_0 0 z1 (nI z2) (nI z3) z4 z5 z6 z7 z8 z9 (nI z10) z11 z12 z13 z14 z15 (nI zgw36) z17 z18 z19))] ++ va_pl L M_241) := hD
                            obtain ⟨j_256, rfl, c_257⟩ := hp_255
                            refine lv_goto (tgt := 243) hx hb dX13_bear_233 (by decide) ?_
                            refine lv_iconst (v := 3) hx hb dX13_bear_243 (by decide) ?_
                            refine lv_aload hx hb dX13_bear_244 (lv_at hl 3 rfl) ?_
                            obtain ⟨v258, hv258, hc258⟩ : ∃ v : Nat, fs14[20]? = some (.ref v : Value) ∧ isk K L v 31 24 := hl14 20 (by decide)
                            refine pg_getN (D := D) (ci := 12) (v := .ref v258) (C := RX12) (T := TX12) (N := 51) hx hb hg inG12 hown hK hP hb_13.1 hM_243 rfl 20 (by decide) (hN.use (Cond.fieldLinkNest RX13 110 RX12 "where" "[I" RX13) 29 rfl rfl) (fun _ h9 => h9) hv258 dX13_bear_246 ?_
                            refine lv_iload hx hb dX13_bear_249 (lv_at hl 2 rfl) ?_
                            obtain ⟨f259, hM259, hf259⟩ := hW.open_31 hc258
                            have hi_260 : vp_in (nI v5w36) 24 := (inbN v5w36 24 (by omega) (by omega))
                            refine pg_iald hx hb hK hP hc258.1 0 hM259 rfl hi_260 dX13_bear_251 ?_
                            have hp_261 := hf259 _ (vp_lt hi_260)
                            obtain ⟨c_262, hc_263, ec_264⟩ := hp_261
                            rw [ec_264]
                            have hPc : va_P D vwCl ([] ++ va_pl L M_241) H_252 := hP.part (cx := []) [] rfl
                            have hDc : va_D A ([] ++ va_pl L M_241) := hD.part (cx := []) [] (by decide) rfl
                            have hFc : ∀ q, va_A ([] ++ va_pl L M_241) H_252.size q → A q := pg_free hDc hS hA
                            refine va_calli (va_runV (As := [.int (nI j_256), .int 3, .int (nI c_262)]) (rest := [.int (nI zgw36), .ref z12]) ⟨hx, hb, hml, hown, hg⟩ (r_X12_term l D cy K L M_241 H_252.size b11 j_256 3 c_262  hW hb_13 c_257 (by omega) hc_263) (cwV 3 hg (gV wd_770 wd_771 wd_772 wd_737 wd_773) rfl rfl rfl (by decide +kernel) ⟨(Nat.le_trans (Nat.le_of_ble_eq_true rfl) hRf), (Nat.le_trans (Nat.le_of_ble_eq_true rfl) hRl)⟩) ⟨PG.blind, pg_recv hK hP hb_13.1 hM_243 rfl, fun U hU hW => ⟨rfl, PG.at hPc hK hDc hN hU hW⟩⟩ rfl rfl hl.1 rfl (lv_room (Nat.le_of_ble_eq_true rfl)) dX13_bear_252 ⟨(Nat.le_trans (Nat.le_of_ble_eq_true rfl) hRc), (Nat.le_trans (Nat.le_of_ble_eq_true rfl) hRs)⟩) hS (fun q _ h => hFc q h) hFc (fun r_266 M_267 t H_265 locs ht hvm hw hB hz1 hk1 hS => ?_)
                            have hp_268 := hw
                            obtain ⟨hP1, hD1⟩ := hB
                            rw [ht] at hP1
                            obtain ⟨hP, hD⟩ := va_joinP (X := [(za, (b13_0 0 z1 (nI z2) (nI z3) z4 z5 z6 z7 z8 z9 (nI z10) z11 z12 z13 z14 z15 (nI zgw36) z17 z18 z19))]) (cx := []) (wr := [(za, (b13_0 0 z1 (nI z2) (nI z3) z4 z5 z6 z7 z8 z9 (nI z10) z11 z12 z13 z14 z15 (nI zgw36) z17 z18 z19))]) (rx := []) (pl := va_pl L M_241) (pl1 := va_pl L M_241) hP hD [] [0] rfl rfl (by decide) (by decide) hk1 hFc hP1 hD1
                            have hP : va_P D vwCl ([(za, (b13_0 0 z1 (nI z2) (nI z3) z4 z5 z6 z7 z8 z9 (nI z10) z11 z12 z13 z14 z15 (nI zgw36) z17 z18 z19))] ++ va_pl L M_241) H_265 := hP
                            have hD : va_D A ([(za, (b13_0 0 z1 (nI z2) (nI z3) z4 z5 z6 z7 z8 z9 (nI z10) z11 z12 z13 z14 z15 (nI zgw36) z17 z18 z19))] ++ va_pl L M_241) := hD
                            obtain ⟨f269, hM269⟩ := hW.open_14 i12
                            refine pg_iast hx hb hK hP hD hS i12.1 0 hM269 rfl (inbN zgw36 24 (by omega) (by omega)) dX13_bear_255 (fun H_270 locs hP hD hS => ?_)
                            obtain ⟨M_271, eM_271⟩ : ∃ M1 : Hp, M1 = va_up M_241 z12 (.inl (cy 14, 24, .inl (upd f269 ((nI zgw36) : Int32).toNatClampNeg r_266))) := ⟨_, rfl⟩
                            have hV : VW K L M M_271 b11 (fx M b11) (ax M b11) := by rw [eM_271]; exact hV.oth hW hb_13 i12 (by decide)
                            have hP : va_P D vwCl ([(za, (b13_0 0 z1 (nI z2) (nI z3) z4 z5 z6 z7 z8 z9 (nI z10) z11 z12 z13 z14 z15 (nI zgw36) z17 z18 z19))] ++ va_pl L M_271) H_270 := by rw [eM_271]; exact hP
                            have hD : va_D A ([(za, (b13_0 0 z1 (nI z2) (nI z3) z4 z5 z6 z7 z8 z9 (nI z10) z11 z12 z13 z14 z15 (nI zgw36) z17 z18 z19))] ++ va_pl L M_271) := by rw [eM_271]; exact hD
                            have hW : WOM cy K L M_271 := by rw [eM_271]; exact hW.up_14 i12 ⟨_, rfl⟩
                            have hF : fr K L [14, 15, 32, 97, 98, 99] M M_271 := by rw [eM_271]; exact hF.up i12 (by decide)
                            have hM_272 : M_271 z12 = .inl (cy 14, 24, .inl (upd f269 ((nI zgw36) : Int32).toNatClampNeg r_266)) := by rw [eM_271]; exact va_up_self _ _ _
                            have hM_273 : M_271 z11 = .inl (cy 14, 24, .inl (f_247)) := by rw [eM_271, va_up_ne _ _ (i11.neT i12 (by decide))]; exact hM_242
                            have hM_274 : M_271 b11 = .inr (12, fs14) := by rw [eM_271, va_up_ne _ _ (hb_13.neT i12 (by decide))]; exact hM_243
                            have hM_275 : M_271 v109 = .inl (cy 14, 24, .inl (f110)) := by rw [eM_271, va_up_ne _ _ (hc109.neT i12 (by decide))]; exact hM_244
                            have hM_276 : M_271 v113 = .inl (cy 14, 24, .inl (f114)) := by rw [eM_271, va_up_ne _ _ (hc113.neT i12 (by decide))]; exact hM_245
                            have hM_277 : M_271 v172 = .inl (cy 16, 24, .inl (f173)) := by rw [eM_271, va_up_ne _ _ (hc172.neT i12 (by decide))]; exact hM_246
                            have hM_278 : M_271 v250 = .inl (cy 14, 16, .inl (f251)) := by rw [eM_271, va_up_ne _ _ (hc250.neT i12 (by decide))]; exact hM251
                            have hM_279 : M_271 v258 = .inl (cy 14, 24, .inl (f259)) := by rw [eM_271, va_up_ne _ _ (hc258.neT i12 (by decide))]; exact hM259
                            obtain ⟨f_280, ef_280⟩ : ∃ f : Nat → Int32, f = upd f269 ((nI zgw36) : Int32).toNatClampNeg r_266 := ⟨_, rfl⟩
                            rw [← ef_280] at hM_272
                            refine lv_aload_n hx hb dX13_bear_256 rfl (lv_at hl 4 rfl) ?_
                            refine va_get (D := D) (ci := 13) (v := .ref z13) (C := RX13) (T := TX13) (N := 20) hx hb hg inG13 hown hK hP 0 rfl rfl 13 (by decide) (hg _ wd_789) (fun _ h9 => h9) rfl dX13_bear_257 ?_
                            refine lv_aload_n hx hb dX13_bear_260 rfl (lv_at hl 4 rfl) ?_
                            refine va_get (D := D) (ci := 13) (v := .int (nI zgw36)) (C := RX13) (T := TX13) (N := 20) hx hb hg inG13 hown hK hP 0 rfl rfl 16 (by decide) (hg _ wd_769) (fun _ h9 => h9) rfl dX13_bear_261 ?_
                            refine lv_lconst (v := 0) hx hb dX13_bear_264 (by decide) ?_
                            obtain ⟨f281, hM281⟩ := hW.open_97 i13
                            refine pg_last hx hb hK hP hD hS i13.1 1 hM281 rfl (inbN zgw36 24 (by omega) (by omega)) dX13_bear_265 (fun H_282 locs hP hD hS => ?_)
                            obtain ⟨M_283, eM_283⟩ : ∃ M1 : Hp, M1 = va_up M_271 z13 (.inl (cy 15, 24, .inr (.inl (vp_updL f281 ((nI zgw36) : Int32).toNatClampNeg 0)))) := ⟨_, rfl⟩
                            have hV : VW K L M M_283 b11 (fx M b11) (ax M b11) := by rw [eM_283]; exact hV.oth hW hb_13 i13 (by decide)
                            have hP : va_P D vwCl ([(za, (b13_0 0 z1 (nI z2) (nI z3) z4 z5 z6 z7 z8 z9 (nI z10) z11 z12 z13 z14 z15 (nI zgw36) z17 z18 z19))] ++ va_pl L M_283) H_282 := by rw [eM_283]; exact hP
                            have hD : va_D A ([(za, (b13_0 0 z1 (nI z2) (nI z3) z4 z5 z6 z7 z8 z9 (nI z10) z11 z12 z13 z14 z15 (nI zgw36) z17 z18 z19))] ++ va_pl L M_283) := by rw [eM_283]; exact hD
                            have hW : WOM cy K L M_283 := by rw [eM_283]; exact hW.up_97 i13 ⟨_, rfl⟩
                            have hF : fr K L [14, 15, 32, 97, 98, 99] M M_283 := by rw [eM_283]; exact hF.up i13 (by decide)
                            have hM_284 : M_283 z13 = .inl (cy 15, 24, .inr (.inl (vp_updL f281 ((nI zgw36) : Int32).toNatClampNeg 0))) := by rw [eM_283]; exact va_up_self _ _ _
                            have hM_285 : M_283 z12 = .inl (cy 14, 24, .inl (f_280)) := by rw [eM_283, va_up_ne _ _ (i12.neT i13 (by decide))]; exact hM_272
                            have hM_286 : M_283 z11 = .inl (cy 14, 24, .inl (f_247)) := by rw [eM_283, va_up_ne _ _ (i11.neT i13 (by decide))]; exact hM_273
                            have hM_287 : M_283 b11 = .inr (12, fs14) := by rw [eM_283, va_up_ne _ _ (hb_13.neT i13 (by decide))]; exact hM_274
                            have hM_288 : M_283 v109 = .inl (cy 14, 24, .inl (f110)) := by rw [eM_283, va_up_ne _ _ (hc109.neT i13 (by decide))]; exact hM_275
                            have hM_289 : M_283 v113 = .inl (cy 14, 24, .inl (f114)) := by rw [eM_283, va_up_ne _ _ (hc113.neT i13 (by decide))]; exact hM_276
                            have hM_290 : M_283 v172 = .inl (cy 16, 24, .inl (f173)) := by rw [eM_283, va_up_ne _ _ (hc172.neT i13 (by decide))]; exact hM_277
                            have hM_291 : M_283 v250 = .inl (cy 14, 16, .inl (f251)) := by rw [eM_283, va_up_ne _ _ (hc250.neT i13 (by decide))]; exact hM_278
                            have hM_292 : M_283 v258 = .inl (cy 14, 24, .inl (f259)) := by rw [eM_283, va_up_ne _ _ (hc258.neT i13 (by decide))]; exact hM_279
                            obtain ⟨f_293, ef_293⟩ : ∃ f : Nat → Int64, f = vp_updL f281 ((nI zgw36) : Int32).toNatClampNeg 0 := ⟨_, rfl⟩
                            rw [← ef_293] at hM_284
                            refine lv_aload_n hx hb dX13_bear_266 rfl (lv_at hl 4 rfl) ?_
                            refine lv_dup hx hb dX13_bear_267 rfl ?_
                            refine va_get (D := D) (ci := 13) (v := .int (nI zgw36)) (C := RX13) (T := TX13) (N := 20) hx hb hg inG13 hown hK hP 0 rfl rfl 16 (by decide) (hg _ wd_769) (fun _ h9 => h9) rfl dX13_bear_268 ?_
                            refine lv_iconst (v := 1) hx hb dX13_bear_271 (by decide) ?_
                            refine lv_iadd hx hb dX13_bear_272 ?_
                            refine lv_topi (fun f_294 ef_294 => ?_)
                            obtain rfl : f_294 = (nI (zgw36 + 1)) := ef_294.trans (nI_add zgw36 1)
                            refine va_put (D := D) (ci := 13) (v := .int (nI (zgw36 + 1))) (ty := .int) (C := RX13) (T := TX13) (N := 20) hx hb hg inG13 tyX13 tyX13_ok nmX13 hown hK hP hD hS 0 rfl rfl 16 (by decide) (hg _ wd_769) (fun _ h9 => h9) rfl (by decide +kernel) rfl rfl (Nat.le_of_ble_eq_true rfl) dX13_bear_273 (fun H_295 locs hP hD hS => ?_)
                            have hP : va_P D vwCl ([(za, (b13_0 0 z1 (nI z2) (nI z3) z4 z5 z6 z7 z8 z9 (nI z10) z11 z12 z13 z14 z15 (nI (zgw36 + 1)) z17 z18 z19))] ++ va_pl L M_283) H_295 := hP
                            have hD : va_D A ([(za, (b13_0 0 z1 (nI z2) (nI z3) z4 z5 z6 z7 z8 z9 (nI z10) z11 z12 z13 z14 z15 (nI (zgw36 + 1)) z17 z18 z19))] ++ va_pl L M_283) := hD
                            refine lv_iinc (v := (nI (v5w36 + 1))) (lv' := [(5, .int (nI (v5w36 + 1))), (7, .int 0), (6, .int 1), (4, .ref b11), (0, .ref za), (1, .int k1), (2, .int k2), (3, .int k3)]) hx hb dX13_bear_276 hl (k := 2) rfl (nI_1 v5w36) (by decide) rfl (fun ls hl => ?_)
                            refine lv_goto (tgt := 82) hx hb dX13_bear_279 (by decide) ?_
                            exact ih_34 (v5w36 + 1) (zgw36 + 1) M_283 H_295 _ _ (by omega) hM_287 (by omega) (by omega) hW hF hV hP hD hS (lv_sub hl [0, 3, 4, 5, 6, 7] rfl)
                          · have hz := rfl (a := 0)
                            refine lv_iconst (v := 1) hx hb dX13_bear_181 (by decide) ?_
                            refine lv_goto (tgt := 186) hx hb dX13_bear_182 (by decide) ?_
                            refine lv_istore (lv' := [(7, .int 1), (6, .int 1), (5, .int (nI v5w36)), (4, .ref b11), (0, .ref za), (1, .int k1), (2, .int k2), (3, .int k3)]) hx hb dX13_bear_186 hl (by decide) rfl (fun ls hl => ?_)
                            refine lv_iload hx hb dX13_bear_188 (lv_at hl 1 rfl) ?_
                            refine lv_if_ne (tgt := 201) hx hb dX13_bear_190 (by decide) (fun _ => ?_) (fun c_296 => absurd c_296 (by decide))
                            refine lv_aload_n hx hb dX13_bear_201 rfl (lv_at hl 4 rfl) ?_
                            refine va_get (D := D) (ci := 13) (v := .ref z11) (C := RX13) (T := TX13) (N := 20) hx hb hg inG13 hown hK hP 0 rfl rfl 11 (by decide) (hg _ wd_764) (fun _ h9 => h9) rfl dX13_bear_202 ?_
                            refine lv_aload_n hx hb dX13_bear_205 rfl (lv_at hl 4 rfl) ?_
                            refine va_get (D := D) (ci := 13) (v := .int (nI zgw36)) (C := RX13) (T := TX13) (N := 20) hx hb hg inG13 hown hK hP 0 rfl rfl 16 (by decide) (hg _ wd_769) (fun _ h9 => h9) rfl dX13_bear_206 ?_
                            refine lv_iload hx hb dX13_bear_209 (lv_at hl 2 rfl) ?_
                            obtain ⟨f297, hM297, hf297⟩ := hW.open_32 i11
                            refine pg_iast hx hb hK hP hD hS i11.1 0 hM297 rfl (inbN zgw36 24 (by omega) (by omega)) dX13_bear_211 (fun H_298 locs hP hD hS => ?_)
                            obtain ⟨M_299, eM_299⟩ : ∃ M1 : Hp, M1 = va_up M_39 z11 (.inl (cy 14, 24, .inl (upd f297 ((nI zgw36) : Int32).toNatClampNeg (nI v5w36)))) := ⟨_, rfl⟩
                            have hV : VW K L M M_299 b11 (fx M b11) (ax M b11) := by rw [eM_299]; exact hV.oth hW hb_13 i11 (by decide)
                            have hP : va_P D vwCl ([(za, (b13_0 0 z1 (nI z2) (nI z3) z4 z5 z6 z7 z8 z9 (nI z10) z11 z12 z13 z14 z15 (nI zgw36) z17 z18 z19))] ++ va_pl L M_299) H_298 := by rw [eM_299]; exact hP
                            have hD : va_D A ([(za, (b13_0 0 z1 (nI z2) (nI z3) z4 z5 z6 z7 z8 z9 (nI z10) z11 z12 z13 z14 z15 (nI zgw36) z17 z18 z19))] ++ va_pl L M_299) := by rw [eM_299]; exact hD
                            have hW : WOM cy K L M_299 := by rw [eM_299]; exact hW.up_32 i11 ⟨_, rfl, (updP (P := fun z => ∃ c : Nat, c < 24 ∧ z = nI c) hf297 ⟨v5w36, by omega, rfl⟩)⟩
                            have hF : fr K L [14, 15, 32, 97, 98, 99] M M_299 := by rw [eM_299]; exact hF.up i11 (by decide)
                            have hM_300 : M_299 z11 = .inl (cy 14, 24, .inl (upd f297 ((nI zgw36) : Int32).toNatClampNeg (nI v5w36))) := by rw [eM_299]; exact va_up_self _ _ _
                            have hM_301 : M_299 b11 = .inr (12, fs14) := by rw [eM_299, va_up_ne _ _ (hb_13.neT i11 (by decide))]; exact hM_41
                            have hM_302 : M_299 v109 = .inl (cy 14, 24, .inl (f110)) := by rw [eM_299, va_up_ne _ _ (hc109.neT i11 (by decide))]; exact hM110
                            have hM_303 : M_299 v113 = .inl (cy 14, 24, .inl (f114)) := by rw [eM_299, va_up_ne _ _ (hc113.neT i11 (by decide))]; exact hM114
                            have hM_304 : M_299 v172 = .inl (cy 16, 24, .inl (f173)) := by rw [eM_299, va_up_ne _ _ (hc172.neT i11 (by decide))]; exact hM173
                            have hf_306 : ∀ j, j < 24 → ∃ c : Nat, c < 24 ∧ (upd f297 ((nI zgw36) : Int32).toNatClampNeg (nI v5w36)) j = nI c := (updP (P := fun z => ∃ c : Nat, c < 24 ∧ z = nI c) hf297 ⟨v5w36, by omega, rfl⟩)
                            obtain ⟨f_305, ef_305⟩ : ∃ f : Nat → Int32, f = upd f297 ((nI zgw36) : Int32).toNatClampNeg (nI v5w36) := ⟨_, rfl⟩
                            rw [← ef_305] at hM_300 hf_306
                            refine lv_aload_n hx hb dX13_bear_212 rfl (lv_at hl 4 rfl) ?_
                            refine va_get (D := D) (ci := 13) (v := .ref z12) (C := RX13) (T := TX13) (N := 20) hx hb hg inG13 hown hK hP 0 rfl rfl 12 (by decide) (hg _ wd_763) (fun _ h9 => h9) rfl dX13_bear_213 ?_
                            refine lv_aload_n hx hb dX13_bear_216 rfl (lv_at hl 4 rfl) ?_
                            refine va_get (D := D) (ci := 13) (v := .int (nI zgw36)) (C := RX13) (T := TX13) (N := 20) hx hb hg inG13 hown hK hP 0 rfl rfl 16 (by decide) (hg _ wd_769) (fun _ h9 => h9) rfl dX13_bear_217 ?_
                            refine lv_aload hx hb dX13_bear_220 (lv_at hl 3 rfl) ?_
                            refine lv_iload hx hb dX13_bear_222 (lv_at hl 1 rfl) ?_
                            refine lv_if_eq (tgt := 236) hx hb dX13_bear_224 (by decide) (fun c_307 => absurd c_307 (by decide)) (fun _ => ?_)
                            refine lv_aload hx hb dX13_bear_227 (lv_at hl 3 rfl) ?_
                            refine lv_iload_n hx hb dX13_bear_229 rfl (lv_at hl 6 rfl) ?_
                            have hPc : va_P D vwCl ([] ++ va_pl L M_299) H_298 := hP.part (cx := []) [] rfl
                            have hDc : va_D A ([] ++ va_pl L M_299) := hD.part (cx := []) [] (by decide) rfl
                            have hFc : ∀ q, va_A ([] ++ va_pl L M_299) H_298.size q → A q := pg_free hDc hS hA
                            have hx0 : (fx M b11 0) = ((v24 : Nat) : Int) := (congrFun hV.2.1 0).symm.trans ((fx_of hM_301 rfl hv24).trans (nI_toInt (by omega)))
                            have hx11 : (fx M b11 11) = ((v15 : Nat) : Int) := (congrFun hV.2.1 11).symm.trans ((fx_of hM_301 rfl hv15).trans (nI_toInt (by omega)))
                            obtain ⟨v308, hv308, hc308⟩ : ∃ v : Nat, fs14[34]? = some (.ref v : Value) ∧ isk K L v 43 16 := hl14 34 (by decide)
                            obtain ⟨f309, hM309⟩ := hW.open_43 hc308
                            have hy34 : (ax M b11 34) = f309 := (congrFun hV.2.2.1 34).symm.trans (ax_of hM_301 (by decide) hv308 hM309)
                            refine va_calli (va_runV (As := [.int k2]) (rest := [.ref b11, .int (nI zgw36), .ref z12]) ⟨hx, hb, hml, hown, hg⟩ (r_ruleOnP l D cy K L M_299 H_298.size b11 k2  hW hb_13 ⟨_, _, _, _, hM_301, hv15, by omega, by omega, hv308, hc308, hM309, rldp hy34 (hAT.2.2.2.1.1 (by omega)) (by rw [hx0]; exact geI c_25 (by omega))⟩) (cwV 1 hg (gV wd_815 wd_816 wd_817 wd_737 wd_818) rfl rfl rfl (by decide +kernel) ⟨(Nat.le_trans (Nat.le_of_ble_eq_true rfl) hRf), (Nat.le_trans (Nat.le_of_ble_eq_true rfl) hRl)⟩) ⟨PG.blind, pg_recv hK hP hb_13.1 hM_301 rfl, fun U hU hW => ⟨rfl, PG.at hPc hK hDc hN hU hW⟩⟩ rfl rfl hl.1 rfl (lv_room (Nat.le_of_ble_eq_true rfl)) dX13_bear_230 ⟨(Nat.le_trans (Nat.le_of_ble_eq_true rfl) hRc), (Nat.le_trans (Nat.le_of_ble_eq_true rfl) hRs)⟩) hS (fun q _ h => hFc q h) hFc (fun r_311 M_312 t H_310 locs ht hvm hw hB hz1 hk1 hS => ?_)
                            have hp_313 := hw
                            obtain ⟨hP1, hD1⟩ := hB
                            rw [ht] at hP1
                            obtain ⟨hP, hD⟩ := va_joinP (X := [(za, (b13_0 0 z1 (nI z2) (nI z3) z4 z5 z6 z7 z8 z9 (nI z10) z11 z12 z13 z14 z15 (nI zgw36) z17 z18 z19))]) (cx := []) (wr := [(za, (b13_0 0 z1 (nI z2) (nI z3) z4 z5 z6 z7 z8 z9 (nI z10) z11 z12 z13 z14 z15 (nI zgw36) z17 z18 z19))]) (rx := []) (pl := va_pl L M_299) (pl1 := va_pl L M_299) hP hD [] [0] rfl rfl (by decide) (by decide) hk1 hFc hP1 hD1
                            have hP : va_P D vwCl ([(za, (b13_0 0 z1 (nI z2) (nI z3) z4 z5 z6 z7 z8 z9 (nI z10) z11 z12 z13 z14 z15 (nI zgw36) z17 z18 z19))] ++ va_pl L M_299) H_310 := hP
                            have hD : va_D A ([(za, (b13_0 0 z1 (nI z2) (nI z3) z4 z5 z6 z7 z8 z9 (nI z10) z11 z12 z13 z14 z15 (nI zgw36) z17 z18 z19))] ++ va_pl L M_299) := hD
                            obtain ⟨j_314, rfl, c_315⟩ := hp_313
                            refine lv_goto (tgt := 243) hx hb dX13_bear_233 (by decide) ?_
                            refine lv_iconst (v := 3) hx hb dX13_bear_243 (by decide) ?_
                            refine lv_aload hx hb dX13_bear_244 (lv_at hl 3 rfl) ?_
                            obtain ⟨v316, hv316, hc316⟩ : ∃ v : Nat, fs14[20]? = some (.ref v : Value) ∧ isk K L v 31 24 := hl14 20 (by decide)
                            refine pg_getN (D := D) (ci := 12) (v := .ref v316) (C := RX12) (T := TX12) (N := 51) hx hb hg inG12 hown hK hP hb_13.1 hM_301 rfl 20 (by decide) (hN.use (Cond.fieldLinkNest RX13 110 RX12 "where" "[I" RX13) 29 rfl rfl) (fun _ h9 => h9) hv316 dX13_bear_246 ?_
                            refine lv_iload hx hb dX13_bear_249 (lv_at hl 2 rfl) ?_
                            obtain ⟨f317, hM317, hf317⟩ := hW.open_31 hc316
                            have hi_318 : vp_in (nI v5w36) 24 := (inbN v5w36 24 (by omega) (by omega))
                            refine pg_iald hx hb hK hP hc316.1 0 hM317 rfl hi_318 dX13_bear_251 ?_
                            have hp_319 := hf317 _ (vp_lt hi_318)
                            obtain ⟨c_320, hc_321, ec_322⟩ := hp_319
                            rw [ec_322]
                            have hPc : va_P D vwCl ([] ++ va_pl L M_299) H_310 := hP.part (cx := []) [] rfl
                            have hDc : va_D A ([] ++ va_pl L M_299) := hD.part (cx := []) [] (by decide) rfl
                            have hFc : ∀ q, va_A ([] ++ va_pl L M_299) H_310.size q → A q := pg_free hDc hS hA
                            refine va_calli (va_runV (As := [.int (nI j_314), .int 3, .int (nI c_320)]) (rest := [.int (nI zgw36), .ref z12]) ⟨hx, hb, hml, hown, hg⟩ (r_X12_term l D cy K L M_299 H_310.size b11 j_314 3 c_320  hW hb_13 c_315 (by omega) hc_321) (cwV 3 hg (gV wd_770 wd_771 wd_772 wd_737 wd_773) rfl rfl rfl (by decide +kernel) ⟨(Nat.le_trans (Nat.le_of_ble_eq_true rfl) hRf), (Nat.le_trans (Nat.le_of_ble_eq_true rfl) hRl)⟩) ⟨PG.blind, pg_recv hK hP hb_13.1 hM_301 rfl, fun U hU hW => ⟨rfl, PG.at hPc hK hDc hN hU hW⟩⟩ rfl rfl hl.1 rfl (lv_room (Nat.le_of_ble_eq_true rfl)) dX13_bear_252 ⟨(Nat.le_trans (Nat.le_of_ble_eq_true rfl) hRc), (Nat.le_trans (Nat.le_of_ble_eq_true rfl) hRs)⟩) hS (fun q _ h => hFc q h) hFc (fun r_324 M_325 t H_323 locs ht hvm hw hB hz1 hk1 hS => ?_)
                            have hp_326 := hw
                            obtain ⟨hP1, hD1⟩ := hB
                            rw [ht] at hP1
                            obtain ⟨hP, hD⟩ := va_joinP (X := [(za, (b13_0 0 z1 (nI z2) (nI z3) z4 z5 z6 z7 z8 z9 (nI z10) z11 z12 z13 z14 z15 (nI zgw36) z17 z18 z19))]) (cx := []) (wr := [(za, (b13_0 0 z1 (nI z2) (nI z3) z4 z5 z6 z7 z8 z9 (nI z10) z11 z12 z13 z14 z15 (nI zgw36) z17 z18 z19))]) (rx := []) (pl := va_pl L M_299) (pl1 := va_pl L M_299) hP hD [] [0] rfl rfl (by decide) (by decide) hk1 hFc hP1 hD1
                            have hP : va_P D vwCl ([(za, (b13_0 0 z1 (nI z2) (nI z3) z4 z5 z6 z7 z8 z9 (nI z10) z11 z12 z13 z14 z15 (nI zgw36) z17 z18 z19))] ++ va_pl L M_299) H_323 := hP
                            have hD : va_D A ([(za, (b13_0 0 z1 (nI z2) (nI z3) z4 z5 z6 z7 z8 z9 (nI z10) z11 z12 z13 z14 z15 (nI zgw36) z17 z18 z19))] ++ va_pl L M_299) := hD
                            obtain ⟨f327, hM327⟩ := hW.open_14 i12
                            refine pg_iast hx hb hK hP hD hS i12.1 0 hM327 rfl (inbN zgw36 24 (by omega) (by omega)) dX13_bear_255 (fun H_328 locs hP hD hS => ?_)
                            obtain ⟨M_329, eM_329⟩ : ∃ M1 : Hp, M1 = va_up M_299 z12 (.inl (cy 14, 24, .inl (upd f327 ((nI zgw36) : Int32).toNatClampNeg r_324))) := ⟨_, rfl⟩
                            have hV : VW K L M M_329 b11 (fx M b11) (ax M b11) := by rw [eM_329]; exact hV.oth hW hb_13 i12 (by decide)
                            have hP : va_P D vwCl ([(za, (b13_0 0 z1 (nI z2) (nI z3) z4 z5 z6 z7 z8 z9 (nI z10) z11 z12 z13 z14 z15 (nI zgw36) z17 z18 z19))] ++ va_pl L M_329) H_328 := by rw [eM_329]; exact hP
                            have hD : va_D A ([(za, (b13_0 0 z1 (nI z2) (nI z3) z4 z5 z6 z7 z8 z9 (nI z10) z11 z12 z13 z14 z15 (nI zgw36) z17 z18 z19))] ++ va_pl L M_329) := by rw [eM_329]; exact hD
                            have hW : WOM cy K L M_329 := by rw [eM_329]; exact hW.up_14 i12 ⟨_, rfl⟩
                            have hF : fr K L [14, 15, 32, 97, 98, 99] M M_329 := by rw [eM_329]; exact hF.up i12 (by decide)
                            have hM_330 : M_329 z12 = .inl (cy 14, 24, .inl (upd f327 ((nI zgw36) : Int32).toNatClampNeg r_324)) := by rw [eM_329]; exact va_up_self _ _ _
                            have hM_331 : M_329 z11 = .inl (cy 14, 24, .inl (f_305)) := by rw [eM_329, va_up_ne _ _ (i11.neT i12 (by decide))]; exact hM_300
                            have hM_332 : M_329 b11 = .inr (12, fs14) := by rw [eM_329, va_up_ne _ _ (hb_13.neT i12 (by decide))]; exact hM_301
                            have hM_333 : M_329 v109 = .inl (cy 14, 24, .inl (f110)) := by rw [eM_329, va_up_ne _ _ (hc109.neT i12 (by decide))]; exact hM_302
                            have hM_334 : M_329 v113 = .inl (cy 14, 24, .inl (f114)) := by rw [eM_329, va_up_ne _ _ (hc113.neT i12 (by decide))]; exact hM_303
                            have hM_335 : M_329 v172 = .inl (cy 16, 24, .inl (f173)) := by rw [eM_329, va_up_ne _ _ (hc172.neT i12 (by decide))]; exact hM_304
                            have hM_336 : M_329 v308 = .inl (cy 14, 16, .inl (f309)) := by rw [eM_329, va_up_ne _ _ (hc308.neT i12 (by decide))]; exact hM309
                            have hM_337 : M_329 v316 = .inl (cy 14, 24, .inl (f317)) := by rw [eM_329, va_up_ne _ _ (hc316.neT i12 (by decide))]; exact hM317
                            obtain ⟨f_338, ef_338⟩ : ∃ f : Nat → Int32, f = upd f327 ((nI zgw36) : Int32).toNatClampNeg r_324 := ⟨_, rfl⟩
                            rw [← ef_338] at hM_330
                            refine lv_aload_n hx hb dX13_bear_256 rfl (lv_at hl 4 rfl) ?_
                            refine va_get (D := D) (ci := 13) (v := .ref z13) (C := RX13) (T := TX13) (N := 20) hx hb hg inG13 hown hK hP 0 rfl rfl 13 (by decide) (hg _ wd_789) (fun _ h9 => h9) rfl dX13_bear_257 ?_
                            refine lv_aload_n hx hb dX13_bear_260 rfl (lv_at hl 4 rfl) ?_
                            refine va_get (D := D) (ci := 13) (v := .int (nI zgw36)) (C := RX13) (T := TX13) (N := 20) hx hb hg inG13 hown hK hP 0 rfl rfl 16 (by decide) (hg _ wd_769) (fun _ h9 => h9) rfl dX13_bear_261 ?_
                            refine lv_lconst (v := 0) hx hb dX13_bear_264 (by decide) ?_
                            obtain ⟨f339, hM339⟩ := hW.open_97 i13
                            refine pg_last hx hb hK hP hD hS i13.1 1 hM339 rfl (inbN zgw36 24 (by omega) (by omega)) dX13_bear_265 (fun H_340 locs hP hD hS => ?_)
                            obtain ⟨M_341, eM_341⟩ : ∃ M1 : Hp, M1 = va_up M_329 z13 (.inl (cy 15, 24, .inr (.inl (vp_updL f339 ((nI zgw36) : Int32).toNatClampNeg 0)))) := ⟨_, rfl⟩
                            have hV : VW K L M M_341 b11 (fx M b11) (ax M b11) := by rw [eM_341]; exact hV.oth hW hb_13 i13 (by decide)
                            have hP : va_P D vwCl ([(za, (b13_0 0 z1 (nI z2) (nI z3) z4 z5 z6 z7 z8 z9 (nI z10) z11 z12 z13 z14 z15 (nI zgw36) z17 z18 z19))] ++ va_pl L M_341) H_340 := by rw [eM_341]; exact hP
                            have hD : va_D A ([(za, (b13_0 0 z1 (nI z2) (nI z3) z4 z5 z6 z7 z8 z9 (nI z10) z11 z12 z13 z14 z15 (nI zgw36) z17 z18 z19))] ++ va_pl L M_341) := by rw [eM_341]; exact hD
                            have hW : WOM cy K L M_341 := by rw [eM_341]; exact hW.up_97 i13 ⟨_, rfl⟩
                            have hF : fr K L [14, 15, 32, 97, 98, 99] M M_341 := by rw [eM_341]; exact hF.up i13 (by decide)
                            have hM_342 : M_341 z13 = .inl (cy 15, 24, .inr (.inl (vp_updL f339 ((nI zgw36) : Int32).toNatClampNeg 0))) := by rw [eM_341]; exact va_up_self _ _ _
                            have hM_343 : M_341 z12 = .inl (cy 14, 24, .inl (f_338)) := by rw [eM_341, va_up_ne _ _ (i12.neT i13 (by decide))]; exact hM_330
                            have hM_344 : M_341 z11 = .inl (cy 14, 24, .inl (f_305)) := by rw [eM_341, va_up_ne _ _ (i11.neT i13 (by decide))]; exact hM_331
                            have hM_345 : M_341 b11 = .inr (12, fs14) := by rw [eM_341, va_up_ne _ _ (hb_13.neT i13 (by decide))]; exact hM_332
                            have hM_346 : M_341 v109 = .inl (cy 14, 24, .inl (f110)) := by rw [eM_341, va_up_ne _ _ (hc109.neT i13 (by decide))]; exact hM_333
                            have hM_347 : M_341 v113 = .inl (cy 14, 24, .inl (f114)) := by rw [eM_341, va_up_ne _ _ (hc113.neT i13 (by decide))]; exact hM_334
                            have hM_348 : M_341 v172 = .inl (cy 16, 24, .inl (f173)) := by rw [eM_341, va_up_ne _ _ (hc172.neT i13 (by decide))]; exact hM_335
                            have hM_349 : M_341 v308 = .inl (cy 14, 16, .inl (f309)) := by rw [eM_341, va_up_ne _ _ (hc308.neT i13 (by decide))]; exact hM_336
                            have hM_350 : M_341 v316 = .inl (cy 14, 24, .inl (f317)) := by rw [eM_341, va_up_ne _ _ (hc316.neT i13 (by decide))]; exact hM_337
                            obtain ⟨f_351, ef_351⟩ : ∃ f : Nat → Int64, f = vp_updL f339 ((nI zgw36) : Int32).toNatClampNeg 0 := ⟨_, rfl⟩
                            rw [← ef_351] at hM_342
                            refine lv_aload_n hx hb dX13_bear_266 rfl (lv_at hl 4 rfl) ?_
                            refine lv_dup hx hb dX13_bear_267 rfl ?_
                            refine va_get (D := D) (ci := 13) (v := .int (nI zgw36)) (C := RX13) (T := TX13) (N := 20) hx hb hg inG13 hown hK hP 0 rfl rfl 16 (by decide) (hg _ wd_769) (fun _ h9 => h9) rfl dX13_bear_268 ?_
                            refine lv_iconst (v := 1) hx hb dX13_bear_271 (by decide) ?_
                            refine lv_iadd hx hb dX13_bear_272 ?_
                            refine lv_topi (fun f_352 ef_352 => ?_)
                            obtain rfl : f_352 = (nI (zgw36 + 1)) := ef_352.trans (nI_add zgw36 1)
                            refine va_put (D := D) (ci := 13) (v := .int (nI (zgw36 + 1))) (ty := .int) (C := RX13) (T := TX13) (N := 20) hx hb hg inG13 tyX13 tyX13_ok nmX13 hown hK hP hD hS 0 rfl rfl 16 (by decide) (hg _ wd_769) (fun _ h9 => h9) rfl (by decide +kernel) rfl rfl (Nat.le_of_ble_eq_true rfl) dX13_bear_273 (fun H_353 locs hP hD hS => ?_)
                            have hP : va_P D vwCl ([(za, (b13_0 0 z1 (nI z2) (nI z3) z4 z5 z6 z7 z8 z9 (nI z10) z11 z12 z13 z14 z15 (nI (zgw36 + 1)) z17 z18 z19))] ++ va_pl L M_341) H_353 := hP
                            have hD : va_D A ([(za, (b13_0 0 z1 (nI z2) (nI z3) z4 z5 z6 z7 z8 z9 (nI z10) z11 z12 z13 z14 z15 (nI (zgw36 + 1)) z17 z18 z19))] ++ va_pl L M_341) := hD
                            refine lv_iinc (v := (nI (v5w36 + 1))) (lv' := [(5, .int (nI (v5w36 + 1))), (7, .int 1), (6, .int 1), (4, .ref b11), (0, .ref za), (1, .int k1), (2, .int k2), (3, .int k3)]) hx hb dX13_bear_276 hl (k := 2) rfl (nI_1 v5w36) (by decide) rfl (fun ls hl => ?_)
                            refine lv_goto (tgt := 82) hx hb dX13_bear_279 (by decide) ?_
                            exact ih_34 (v5w36 + 1) (zgw36 + 1) M_341 H_353 _ _ (by omega) hM_345 (by omega) (by omega) hW hF hV hP hD hS (lv_sub hl [0, 3, 4, 5, 6, 7] rfl)
                    · have hz := rfl (a := 0)
                      refine lv_aload hx hb dX13_bear_115 (lv_at hl 1 rfl) ?_
                      refine lv_aload hx hb dX13_bear_117 (lv_at hl 1 rfl) ?_
                      refine pg_getN (D := D) (ci := 12) (v := .ref v109) (C := RX12) (T := TX12) (N := 51) hx hb hg inG12 hown hK hP hb_13.1 hM_41 rfl 22 (by decide) (hN.use (Cond.fieldLinkNest RX13 95 RX12 "ended" "[I" RX13) 31 rfl rfl) (fun _ h9 => h9) hv109 dX13_bear_119 ?_
                      refine lv_iload hx hb dX13_bear_122 (lv_at hl 0 rfl) ?_
                      refine pg_iald hx hb hK hP hc109.1 0 hM110 rfl (inbN v5w36 24 (by omega) (by omega)) dX13_bear_124 ?_
                      refine lv_topi (fun f_354 ef_354 => ?_)
                      have hPc : va_P D vwCl ([] ++ va_pl L M_39) H_104 := hP.part (cx := []) [] rfl
                      have hDc : va_D A ([] ++ va_pl L M_39) := hD.part (cx := []) [] (by decide) rfl
                      have hFc : ∀ q, va_A ([] ++ va_pl L M_39) H_104.size q → A q := pg_free hDc hS hA
                      refine va_calli (va_runS (As := [.ref b11, .int f_354]) (rest := []) ⟨hx, hb, hml, hown, hg⟩ (r_X13_since l D cy K L M_39 H_104.size b11 f_354  hW hb_13) (va_cwS 2 hg (gS wd_819 wd_820 wd_717 wd_821) rfl rfl rfl (by decide +kernel) ⟨(Nat.le_trans (Nat.le_of_ble_eq_true rfl) hRf), (Nat.le_trans (Nat.le_of_ble_eq_true rfl) hRl)⟩) ⟨PG.blind, fun U hU hW => ⟨rfl, PG.at hPc hK hDc hN hU hW⟩⟩ rfl rfl hl.1 rfl (lv_room (Nat.le_of_ble_eq_true rfl)) dX13_bear_125 ⟨(Nat.le_trans (Nat.le_of_ble_eq_true rfl) hRc), (Nat.le_trans (Nat.le_of_ble_eq_true rfl) hRs)⟩) hS (fun q _ h => hFc q h) hFc (fun r_356 M_357 t H_355 locs ht hvm hw hB hz1 hk1 hS => ?_)
                      have hp_358 := hw
                      obtain ⟨hP1, hD1⟩ := hB
                      rw [ht] at hP1
                      obtain ⟨hP, hD⟩ := va_joinP (X := [(za, (b13_0 0 z1 (nI z2) (nI z3) z4 z5 z6 z7 z8 z9 (nI z10) z11 z12 z13 z14 z15 (nI zgw36) z17 z18 z19))]) (cx := []) (wr := [(za, (b13_0 0 z1 (nI z2) (nI z3) z4 z5 z6 z7 z8 z9 (nI z10) z11 z12 z13 z14 z15 (nI zgw36) z17 z18 z19))]) (rx := []) (pl := va_pl L M_39) (pl1 := va_pl L M_39) hP hD [] [0] rfl rfl (by decide) (by decide) hk1 hFc hP1 hD1
                      have hP : va_P D vwCl ([(za, (b13_0 0 z1 (nI z2) (nI z3) z4 z5 z6 z7 z8 z9 (nI z10) z11 z12 z13 z14 z15 (nI zgw36) z17 z18 z19))] ++ va_pl L M_39) H_355 := hP
                      have hD : va_D A ([(za, (b13_0 0 z1 (nI z2) (nI z3) z4 z5 z6 z7 z8 z9 (nI z10) z11 z12 z13 z14 z15 (nI zgw36) z17 z18 z19))] ++ va_pl L M_39) := hD
                      refine lv_aload hx hb dX13_bear_128 (lv_at hl 1 rfl) ?_
                      obtain ⟨v359, hv359, hc359⟩ : ∃ v : Nat, fs14[24]? = some (.ref v : Value) ∧ isk K L v 76 24 := hl14 24 (by decide)
                      refine pg_getN (D := D) (ci := 12) (v := .ref v359) (C := RX12) (T := TX12) (N := 51) hx hb hg inG12 hown hK hP hb_13.1 hM_41 rfl 24 (by decide) (hN.use (Cond.fieldLinkNest RX13 118 RX12 "bears" "[I" RX13) 33 rfl rfl) (fun _ h9 => h9) hv359 dX13_bear_130 ?_
                      refine lv_iload hx hb dX13_bear_133 (lv_at hl 0 rfl) ?_
                      obtain ⟨f360, hM360⟩ := hW.open_76 hc359
                      refine pg_iald hx hb hK hP hc359.1 0 hM360 rfl (inbN v5w36 24 (by omega) (by omega)) dX13_bear_135 ?_
                      refine lv_topi (fun f_361 ef_361 => ?_)
                      refine lv_icmp_ge (tgt := 143) hx hb dX13_bear_136 (by decide) (fun c_362 => ?_) (fun c_362 => ?_)
                      · have hz := rfl (a := 0)
                        refine lv_iconst (v := 0) hx hb dX13_bear_143 (by decide) ?_
                        refine lv_istore (lv' := [(6, .int 0), (5, .int (nI v5w36)), (4, .ref b11), (0, .ref za), (1, .int k1), (2, .int k2), (3, .int k3)]) hx hb dX13_bear_144 hl (by decide) rfl (fun ls hl => ?_)
                        refine lv_aload hx hb dX13_bear_146 (lv_at hl 2 rfl) ?_
                        obtain ⟨v363, hv363, hc363⟩ : ∃ v : Nat, fs14[21]? = some (.ref v : Value) ∧ isk K L v 75 24 := hl14 21 (by decide)
                        refine pg_getN (D := D) (ci := 12) (v := .ref v363) (C := RX12) (T := TX12) (N := 51) hx hb hg inG12 hown hK hP hb_13.1 hM_41 rfl 21 (by decide) (hN.use (Cond.fieldLinkNest RX13 112 RX12 "begin" "[I" RX13) 30 rfl rfl) (fun _ h9 => h9) hv363 dX13_bear_148 ?_
                        refine lv_iload hx hb dX13_bear_151 (lv_at hl 1 rfl) ?_
                        obtain ⟨f364, hM364⟩ := hW.open_75 hc363
                        refine pg_iald hx hb hK hP hc363.1 0 hM364 rfl (inbN v5w36 24 (by omega) (by omega)) dX13_bear_153 ?_
                        refine lv_topi (fun f_365 ef_365 => ?_)
                        refine lv_iload_n hx hb dX13_bear_154 rfl (lv_at hl 5 rfl) ?_
                        refine lv_icmp_le (tgt := 185) hx hb dX13_bear_155 (by decide) (fun c_366 => ?_) (fun c_366 => ?_)
                        · have hz := rfl (a := 0)
                          refine lv_iconst (v := 0) hx hb dX13_bear_185 (by decide) ?_
                          refine lv_istore (lv' := [(7, .int 0), (6, .int 0), (5, .int (nI v5w36)), (4, .ref b11), (0, .ref za), (1, .int k1), (2, .int k2), (3, .int k3)]) hx hb dX13_bear_186 hl (by decide) rfl (fun ls hl => ?_)
                          refine lv_iload hx hb dX13_bear_188 (lv_at hl 1 rfl) ?_
                          refine lv_if_ne (tgt := 201) hx hb dX13_bear_190 (by decide) (fun c_367 => absurd c_367 (by decide)) (fun _ => ?_)
                          refine lv_iload hx hb dX13_bear_193 (lv_at hl 0 rfl) ?_
                          refine lv_if_ne (tgt := 201) hx hb dX13_bear_195 (by decide) (fun c_368 => absurd c_368 (by decide)) (fun _ => ?_)
                          refine lv_goto (tgt := 276) hx hb dX13_bear_198 (by decide) ?_
                          refine lv_iinc (v := (nI (v5w36 + 1))) (lv' := [(5, .int (nI (v5w36 + 1))), (7, .int 0), (6, .int 0), (4, .ref b11), (0, .ref za), (1, .int k1), (2, .int k2), (3, .int k3)]) hx hb dX13_bear_276 hl (k := 2) rfl (nI_1 v5w36) (by decide) rfl (fun ls hl => ?_)
                          refine lv_goto (tgt := 82) hx hb dX13_bear_279 (by decide) ?_
                          exact ih_34 (v5w36 + 1) zgw36 M_39 H_355 _ _ (by omega) hM_41 (by omega) (by omega) hW hF hV hP hD hS (lv_sub hl [0, 3, 4, 5, 6, 7] rfl)
                        · have hz := rfl (a := 0)
                          refine lv_aload hx hb dX13_bear_158 (lv_at hl 2 rfl) ?_
                          obtain ⟨v369, hv369, hc369⟩ : ∃ v : Nat, fs14[26]? = some (.ref v : Value) ∧ isk K L v 16 24 := hl14 26 (by decide)
                          refine pg_getN (D := D) (ci := 12) (v := .ref v369) (C := RX12) (T := TX12) (N := 51) hx hb hg inG12 hown hK hP hb_13.1 hM_41 rfl 26 (by decide) (hN.use (Cond.fieldLinkNest RX13 124 RX12 "word" "[Z" RX13) 35 rfl rfl) (fun _ h9 => h9) hv369 dX13_bear_160 ?_
                          refine lv_iload hx hb dX13_bear_163 (lv_at hl 1 rfl) ?_
                          obtain ⟨f370, hM370, hf370⟩ := hW.open_16 hc369
                          have hi_371 : vp_in (nI v5w36) 24 := (inbN v5w36 24 (by omega) (by omega))
                          refine pg_zald hx hb hK hP hc369.1 2 hM370 rfl hi_371 dX13_bear_165 ?_
                          rcases hf370 _ (vp_lt hi_371) with ec_372 | ec_372
                          · rw [ec_372]
                            refine lv_if_eq (tgt := 185) hx hb dX13_bear_166 (by decide) (fun _ => ?_) (fun c_373 => absurd c_373 (by decide))
                            refine lv_iconst (v := 0) hx hb dX13_bear_185 (by decide) ?_
                            refine lv_istore (lv' := [(7, .int 0), (6, .int 0), (5, .int (nI v5w36)), (4, .ref b11), (0, .ref za), (1, .int k1), (2, .int k2), (3, .int k3)]) hx hb dX13_bear_186 hl (by decide) rfl (fun ls hl => ?_)
                            refine lv_iload hx hb dX13_bear_188 (lv_at hl 1 rfl) ?_
                            refine lv_if_ne (tgt := 201) hx hb dX13_bear_190 (by decide) (fun c_374 => absurd c_374 (by decide)) (fun _ => ?_)
                            refine lv_iload hx hb dX13_bear_193 (lv_at hl 0 rfl) ?_
                            refine lv_if_ne (tgt := 201) hx hb dX13_bear_195 (by decide) (fun c_375 => absurd c_375 (by decide)) (fun _ => ?_)
                            refine lv_goto (tgt := 276) hx hb dX13_bear_198 (by decide) ?_
                            refine lv_iinc (v := (nI (v5w36 + 1))) (lv' := [(5, .int (nI (v5w36 + 1))), (7, .int 0), (6, .int 0), (4, .ref b11), (0, .ref za), (1, .int k1), (2, .int k2), (3, .int k3)]) hx hb dX13_bear_276 hl (k := 2) rfl (nI_1 v5w36) (by decide) rfl (fun ls hl => ?_)
                            refine lv_goto (tgt := 82) hx hb dX13_bear_279 (by decide) ?_
                            exact ih_34 (v5w36 + 1) zgw36 M_39 H_355 _ _ (by omega) hM_41 (by omega) (by omega) hW hF hV hP hD hS (lv_sub hl [0, 3, 4, 5, 6, 7] rfl)
                          · rw [ec_372]
                            refine lv_if_eq (tgt := 185) hx hb dX13_bear_166 (by decide) (fun c_376 => absurd c_376 (by decide)) (fun _ => ?_)
                            refine lv_aload hx hb dX13_bear_169 (lv_at hl 2 rfl) ?_
                            refine pg_getN (D := D) (ci := 12) (v := .ref v109) (C := RX12) (T := TX12) (N := 51) hx hb hg inG12 hown hK hP hb_13.1 hM_41 rfl 22 (by decide) (hN.use (Cond.fieldLinkNest RX13 95 RX12 "ended" "[I" RX13) 31 rfl rfl) (fun _ h9 => h9) hv109 dX13_bear_171 ?_
                            refine lv_iload hx hb dX13_bear_174 (lv_at hl 1 rfl) ?_
                            refine pg_iald hx hb hK hP hc109.1 0 hM110 rfl (inbN v5w36 24 (by omega) (by omega)) dX13_bear_176 ?_
                            refine lv_topi (fun f_377 ef_377 => ?_)
                            refine lv_iconst (v := (-1)) hx hb dX13_bear_177 (by decide) ?_
                            refine lv_icmp_ne (tgt := 185) hx hb dX13_bear_178 (by decide) (fun c_378 => ?_) (fun c_378 => ?_)
                            · have hz := rfl (a := 0)
                              refine lv_iconst (v := 0) hx hb dX13_bear_185 (by decide) ?_
                              refine lv_istore (lv' := [(7, .int 0), (6, .int 0), (5, .int (nI v5w36)), (4, .ref b11), (0, .ref za), (1, .int k1), (2, .int k2), (3, .int k3)]) hx hb dX13_bear_186 hl (by decide) rfl (fun ls hl => ?_)
                              refine lv_iload hx hb dX13_bear_188 (lv_at hl 1 rfl) ?_
                              refine lv_if_ne (tgt := 201) hx hb dX13_bear_190 (by decide) (fun c_379 => absurd c_379 (by decide)) (fun _ => ?_)
                              refine lv_iload hx hb dX13_bear_193 (lv_at hl 0 rfl) ?_
                              refine lv_if_ne (tgt := 201) hx hb dX13_bear_195 (by decide) (fun c_380 => absurd c_380 (by decide)) (fun _ => ?_)
                              refine lv_goto (tgt := 276) hx hb dX13_bear_198 (by decide) ?_
                              refine lv_iinc (v := (nI (v5w36 + 1))) (lv' := [(5, .int (nI (v5w36 + 1))), (7, .int 0), (6, .int 0), (4, .ref b11), (0, .ref za), (1, .int k1), (2, .int k2), (3, .int k3)]) hx hb dX13_bear_276 hl (k := 2) rfl (nI_1 v5w36) (by decide) rfl (fun ls hl => ?_)
                              refine lv_goto (tgt := 82) hx hb dX13_bear_279 (by decide) ?_
                              exact ih_34 (v5w36 + 1) zgw36 M_39 H_355 _ _ (by omega) hM_41 (by omega) (by omega) hW hF hV hP hD hS (lv_sub hl [0, 3, 4, 5, 6, 7] rfl)
                            · have hz := rfl (a := 0)
                              refine lv_iconst (v := 1) hx hb dX13_bear_181 (by decide) ?_
                              refine lv_goto (tgt := 186) hx hb dX13_bear_182 (by decide) ?_
                              refine lv_istore (lv' := [(7, .int 1), (6, .int 0), (5, .int (nI v5w36)), (4, .ref b11), (0, .ref za), (1, .int k1), (2, .int k2), (3, .int k3)]) hx hb dX13_bear_186 hl (by decide) rfl (fun ls hl => ?_)
                              refine lv_iload hx hb dX13_bear_188 (lv_at hl 1 rfl) ?_
                              refine lv_if_ne (tgt := 201) hx hb dX13_bear_190 (by decide) (fun c_381 => absurd c_381 (by decide)) (fun _ => ?_)
                              refine lv_iload hx hb dX13_bear_193 (lv_at hl 0 rfl) ?_
                              refine lv_if_ne (tgt := 201) hx hb dX13_bear_195 (by decide) (fun _ => ?_) (fun c_382 => absurd c_382 (by decide))
                              refine lv_aload_n hx hb dX13_bear_201 rfl (lv_at hl 4 rfl) ?_
                              refine va_get (D := D) (ci := 13) (v := .ref z11) (C := RX13) (T := TX13) (N := 20) hx hb hg inG13 hown hK hP 0 rfl rfl 11 (by decide) (hg _ wd_764) (fun _ h9 => h9) rfl dX13_bear_202 ?_
                              refine lv_aload_n hx hb dX13_bear_205 rfl (lv_at hl 4 rfl) ?_
                              refine va_get (D := D) (ci := 13) (v := .int (nI zgw36)) (C := RX13) (T := TX13) (N := 20) hx hb hg inG13 hown hK hP 0 rfl rfl 16 (by decide) (hg _ wd_769) (fun _ h9 => h9) rfl dX13_bear_206 ?_
                              refine lv_iload hx hb dX13_bear_209 (lv_at hl 2 rfl) ?_
                              obtain ⟨f383, hM383, hf383⟩ := hW.open_32 i11
                              refine pg_iast hx hb hK hP hD hS i11.1 0 hM383 rfl (inbN zgw36 24 (by omega) (by omega)) dX13_bear_211 (fun H_384 locs hP hD hS => ?_)
                              obtain ⟨M_385, eM_385⟩ : ∃ M1 : Hp, M1 = va_up M_39 z11 (.inl (cy 14, 24, .inl (upd f383 ((nI zgw36) : Int32).toNatClampNeg (nI v5w36)))) := ⟨_, rfl⟩
                              have hV : VW K L M M_385 b11 (fx M b11) (ax M b11) := by rw [eM_385]; exact hV.oth hW hb_13 i11 (by decide)
                              have hP : va_P D vwCl ([(za, (b13_0 0 z1 (nI z2) (nI z3) z4 z5 z6 z7 z8 z9 (nI z10) z11 z12 z13 z14 z15 (nI zgw36) z17 z18 z19))] ++ va_pl L M_385) H_384 := by rw [eM_385]; exact hP
                              have hD : va_D A ([(za, (b13_0 0 z1 (nI z2) (nI z3) z4 z5 z6 z7 z8 z9 (nI z10) z11 z12 z13 z14 z15 (nI zgw36) z17 z18 z19))] ++ va_pl L M_385) := by rw [eM_385]; exact hD
                              have hW : WOM cy K L M_385 := by rw [eM_385]; exact hW.up_32 i11 ⟨_, rfl, (updP (P := fun z => ∃ c : Nat, c < 24 ∧ z = nI c) hf383 ⟨v5w36, by omega, rfl⟩)⟩
                              have hF : fr K L [14, 15, 32, 97, 98, 99] M M_385 := by rw [eM_385]; exact hF.up i11 (by decide)
                              have hM_386 : M_385 z11 = .inl (cy 14, 24, .inl (upd f383 ((nI zgw36) : Int32).toNatClampNeg (nI v5w36))) := by rw [eM_385]; exact va_up_self _ _ _
                              have hM_387 : M_385 b11 = .inr (12, fs14) := by rw [eM_385, va_up_ne _ _ (hb_13.neT i11 (by decide))]; exact hM_41
                              have hM_388 : M_385 v109 = .inl (cy 14, 24, .inl (f110)) := by rw [eM_385, va_up_ne _ _ (hc109.neT i11 (by decide))]; exact hM110
                              have hM_389 : M_385 v359 = .inl (cy 14, 24, .inl (f360)) := by rw [eM_385, va_up_ne _ _ (hc359.neT i11 (by decide))]; exact hM360
                              have hM_390 : M_385 v363 = .inl (cy 14, 24, .inl (f364)) := by rw [eM_385, va_up_ne _ _ (hc363.neT i11 (by decide))]; exact hM364
                              have hM_391 : M_385 v369 = .inl (cy 16, 24, .inl (f370)) := by rw [eM_385, va_up_ne _ _ (hc369.neT i11 (by decide))]; exact hM370
                              have hf_393 : ∀ j, j < 24 → ∃ c : Nat, c < 24 ∧ (upd f383 ((nI zgw36) : Int32).toNatClampNeg (nI v5w36)) j = nI c := (updP (P := fun z => ∃ c : Nat, c < 24 ∧ z = nI c) hf383 ⟨v5w36, by omega, rfl⟩)
                              obtain ⟨f_392, ef_392⟩ : ∃ f : Nat → Int32, f = upd f383 ((nI zgw36) : Int32).toNatClampNeg (nI v5w36) := ⟨_, rfl⟩
                              rw [← ef_392] at hM_386 hf_393
                              refine lv_aload_n hx hb dX13_bear_212 rfl (lv_at hl 4 rfl) ?_
                              refine va_get (D := D) (ci := 13) (v := .ref z12) (C := RX13) (T := TX13) (N := 20) hx hb hg inG13 hown hK hP 0 rfl rfl 12 (by decide) (hg _ wd_763) (fun _ h9 => h9) rfl dX13_bear_213 ?_
                              refine lv_aload_n hx hb dX13_bear_216 rfl (lv_at hl 4 rfl) ?_
                              refine va_get (D := D) (ci := 13) (v := .int (nI zgw36)) (C := RX13) (T := TX13) (N := 20) hx hb hg inG13 hown hK hP 0 rfl rfl 16 (by decide) (hg _ wd_769) (fun _ h9 => h9) rfl dX13_bear_217 ?_
                              refine lv_aload hx hb dX13_bear_220 (lv_at hl 3 rfl) ?_
                              refine lv_iload hx hb dX13_bear_222 (lv_at hl 1 rfl) ?_
                              refine lv_if_eq (tgt := 236) hx hb dX13_bear_224 (by decide) (fun _ => ?_) (fun c_394 => absurd c_394 (by decide))
                              refine lv_aload hx hb dX13_bear_236 (lv_at hl 3 rfl) ?_
                              refine pg_getN (D := D) (ci := 12) (v := .int (nI v15)) (C := RX12) (T := TX12) (N := 51) hx hb hg inG12 hown hK hP hb_13.1 hM_387 rfl 11 (by decide) (hN.use (Cond.fieldLinkNest RX13 142 RX12 "rules" "I" RX13) 20 rfl rfl) (fun _ h9 => h9) hv15 dX13_bear_238 ?_
                              refine lv_iconst (v := 1) hx hb dX13_bear_241 (by decide) ?_
                              refine lv_isub hx hb dX13_bear_242 ?_
                              refine lv_topi (fun f_395 ef_395 => ?_)
                              obtain rfl : f_395 = (nI (v15 - 1)) := ef_395.trans (nI_prd (by omega))
                              refine lv_iconst (v := 3) hx hb dX13_bear_243 (by decide) ?_
                              refine lv_aload hx hb dX13_bear_244 (lv_at hl 3 rfl) ?_
                              obtain ⟨v396, hv396, hc396⟩ : ∃ v : Nat, fs14[20]? = some (.ref v : Value) ∧ isk K L v 31 24 := hl14 20 (by decide)
                              refine pg_getN (D := D) (ci := 12) (v := .ref v396) (C := RX12) (T := TX12) (N := 51) hx hb hg inG12 hown hK hP hb_13.1 hM_387 rfl 20 (by decide) (hN.use (Cond.fieldLinkNest RX13 110 RX12 "where" "[I" RX13) 29 rfl rfl) (fun _ h9 => h9) hv396 dX13_bear_246 ?_
                              refine lv_iload hx hb dX13_bear_249 (lv_at hl 2 rfl) ?_
                              obtain ⟨f397, hM397, hf397⟩ := hW.open_31 hc396
                              have hi_398 : vp_in (nI v5w36) 24 := (inbN v5w36 24 (by omega) (by omega))
                              refine pg_iald hx hb hK hP hc396.1 0 hM397 rfl hi_398 dX13_bear_251 ?_
                              have hp_399 := hf397 _ (vp_lt hi_398)
                              obtain ⟨c_400, hc_401, ec_402⟩ := hp_399
                              rw [ec_402]
                              have hPc : va_P D vwCl ([] ++ va_pl L M_385) H_384 := hP.part (cx := []) [] rfl
                              have hDc : va_D A ([] ++ va_pl L M_385) := hD.part (cx := []) [] (by decide) rfl
                              have hFc : ∀ q, va_A ([] ++ va_pl L M_385) H_384.size q → A q := pg_free hDc hS hA
                              refine va_calli (va_runV (As := [.int (nI (v15 - 1)), .int 3, .int (nI c_400)]) (rest := [.int (nI zgw36), .ref z12]) ⟨hx, hb, hml, hown, hg⟩ (r_X12_term l D cy K L M_385 H_384.size b11 (v15 - 1) 3 c_400  hW hb_13 (by omega) (by omega) hc_401) (cwV 3 hg (gV wd_770 wd_771 wd_772 wd_737 wd_773) rfl rfl rfl (by decide +kernel) ⟨(Nat.le_trans (Nat.le_of_ble_eq_true rfl) hRf), (Nat.le_trans (Nat.le_of_ble_eq_true rfl) hRl)⟩) ⟨PG.blind, pg_recv hK hP hb_13.1 hM_387 rfl, fun U hU hW => ⟨rfl, PG.at hPc hK hDc hN hU hW⟩⟩ rfl rfl hl.1 rfl (lv_room (Nat.le_of_ble_eq_true rfl)) dX13_bear_252 ⟨(Nat.le_trans (Nat.le_of_ble_eq_true rfl) hRc), (Nat.le_trans (Nat.le_of_ble_eq_true rfl) hRs)⟩) hS (fun q _ h => hFc q h) hFc (fun r_404 M_405 t H_403 locs ht hvm hw hB hz1 hk1 hS => ?_)
                              have hp_406 := hw
                              obtain ⟨hP1, hD1⟩ := hB
                              rw [ht] at hP1
                              obtain ⟨hP, hD⟩ := va_joinP (X := [(za, (b13_0 0 z1 (nI z2) (nI z3) z4 z5 z6 z7 z8 z9 (nI z10) z11 z12 z13 z14 z15 (nI zgw36) z17 z18 z19))]) (cx := []) (wr := [(za, (b13_0 0 z1 (nI z2) (nI z3) z4 z5 z6 z7 z8 z9 (nI z10) z11 z12 z13 z14 z15 (nI zgw36) z17 z18 z19))]) (rx := []) (pl := va_pl L M_385) (pl1 := va_pl L M_385) hP hD [] [0] rfl rfl (by decide) (by decide) hk1 hFc hP1 hD1
                              have hP : va_P D vwCl ([(za, (b13_0 0 z1 (nI z2) (nI z3) z4 z5 z6 z7 z8 z9 (nI z10) z11 z12 z13 z14 z15 (nI zgw36) z17 z18 z19))] ++ va_pl L M_385) H_403 := hP
                              have hD : va_D A ([(za, (b13_0 0 z1 (nI z2) (nI z3) z4 z5 z6 z7 z8 z9 (nI z10) z11 z12 z13 z14 z15 (nI zgw36) z17 z18 z19))] ++ va_pl L M_385) := hD
                              obtain ⟨f407, hM407⟩ := hW.open_14 i12
                              refine pg_iast hx hb hK hP hD hS i12.1 0 hM407 rfl (inbN zgw36 24 (by omega) (by omega)) dX13_bear_255 (fun H_408 locs hP hD hS => ?_)
                              obtain ⟨M_409, eM_409⟩ : ∃ M1 : Hp, M1 = va_up M_385 z12 (.inl (cy 14, 24, .inl (upd f407 ((nI zgw36) : Int32).toNatClampNeg r_404))) := ⟨_, rfl⟩
                              have hV : VW K L M M_409 b11 (fx M b11) (ax M b11) := by rw [eM_409]; exact hV.oth hW hb_13 i12 (by decide)
                              have hP : va_P D vwCl ([(za, (b13_0 0 z1 (nI z2) (nI z3) z4 z5 z6 z7 z8 z9 (nI z10) z11 z12 z13 z14 z15 (nI zgw36) z17 z18 z19))] ++ va_pl L M_409) H_408 := by rw [eM_409]; exact hP
                              have hD : va_D A ([(za, (b13_0 0 z1 (nI z2) (nI z3) z4 z5 z6 z7 z8 z9 (nI z10) z11 z12 z13 z14 z15 (nI zgw36) z17 z18 z19))] ++ va_pl L M_409) := by rw [eM_409]; exact hD
                              have hW : WOM cy K L M_409 := by rw [eM_409]; exact hW.up_14 i12 ⟨_, rfl⟩
                              have hF : fr K L [14, 15, 32, 97, 98, 99] M M_409 := by rw [eM_409]; exact hF.up i12 (by decide)
                              have hM_410 : M_409 z12 = .inl (cy 14, 24, .inl (upd f407 ((nI zgw36) : Int32).toNatClampNeg r_404)) := by rw [eM_409]; exact va_up_self _ _ _
                              have hM_411 : M_409 z11 = .inl (cy 14, 24, .inl (f_392)) := by rw [eM_409, va_up_ne _ _ (i11.neT i12 (by decide))]; exact hM_386
                              have hM_412 : M_409 b11 = .inr (12, fs14) := by rw [eM_409, va_up_ne _ _ (hb_13.neT i12 (by decide))]; exact hM_387
                              have hM_413 : M_409 v109 = .inl (cy 14, 24, .inl (f110)) := by rw [eM_409, va_up_ne _ _ (hc109.neT i12 (by decide))]; exact hM_388
                              have hM_414 : M_409 v359 = .inl (cy 14, 24, .inl (f360)) := by rw [eM_409, va_up_ne _ _ (hc359.neT i12 (by decide))]; exact hM_389
                              have hM_415 : M_409 v363 = .inl (cy 14, 24, .inl (f364)) := by rw [eM_409, va_up_ne _ _ (hc363.neT i12 (by decide))]; exact hM_390
                              have hM_416 : M_409 v369 = .inl (cy 16, 24, .inl (f370)) := by rw [eM_409, va_up_ne _ _ (hc369.neT i12 (by decide))]; exact hM_391
                              have hM_417 : M_409 v396 = .inl (cy 14, 24, .inl (f397)) := by rw [eM_409, va_up_ne _ _ (hc396.neT i12 (by decide))]; exact hM397
                              obtain ⟨f_418, ef_418⟩ : ∃ f : Nat → Int32, f = upd f407 ((nI zgw36) : Int32).toNatClampNeg r_404 := ⟨_, rfl⟩
                              rw [← ef_418] at hM_410
                              refine lv_aload_n hx hb dX13_bear_256 rfl (lv_at hl 4 rfl) ?_
                              refine va_get (D := D) (ci := 13) (v := .ref z13) (C := RX13) (T := TX13) (N := 20) hx hb hg inG13 hown hK hP 0 rfl rfl 13 (by decide) (hg _ wd_789) (fun _ h9 => h9) rfl dX13_bear_257 ?_
                              refine lv_aload_n hx hb dX13_bear_260 rfl (lv_at hl 4 rfl) ?_
                              refine va_get (D := D) (ci := 13) (v := .int (nI zgw36)) (C := RX13) (T := TX13) (N := 20) hx hb hg inG13 hown hK hP 0 rfl rfl 16 (by decide) (hg _ wd_769) (fun _ h9 => h9) rfl dX13_bear_261 ?_
                              refine lv_lconst (v := 0) hx hb dX13_bear_264 (by decide) ?_
                              obtain ⟨f419, hM419⟩ := hW.open_97 i13
                              refine pg_last hx hb hK hP hD hS i13.1 1 hM419 rfl (inbN zgw36 24 (by omega) (by omega)) dX13_bear_265 (fun H_420 locs hP hD hS => ?_)
                              obtain ⟨M_421, eM_421⟩ : ∃ M1 : Hp, M1 = va_up M_409 z13 (.inl (cy 15, 24, .inr (.inl (vp_updL f419 ((nI zgw36) : Int32).toNatClampNeg 0)))) := ⟨_, rfl⟩
                              have hV : VW K L M M_421 b11 (fx M b11) (ax M b11) := by rw [eM_421]; exact hV.oth hW hb_13 i13 (by decide)
                              have hP : va_P D vwCl ([(za, (b13_0 0 z1 (nI z2) (nI z3) z4 z5 z6 z7 z8 z9 (nI z10) z11 z12 z13 z14 z15 (nI zgw36) z17 z18 z19))] ++ va_pl L M_421) H_420 := by rw [eM_421]; exact hP
                              have hD : va_D A ([(za, (b13_0 0 z1 (nI z2) (nI z3) z4 z5 z6 z7 z8 z9 (nI z10) z11 z12 z13 z14 z15 (nI zgw36) z17 z18 z19))] ++ va_pl L M_421) := by rw [eM_421]; exact hD
                              have hW : WOM cy K L M_421 := by rw [eM_421]; exact hW.up_97 i13 ⟨_, rfl⟩
                              have hF : fr K L [14, 15, 32, 97, 98, 99] M M_421 := by rw [eM_421]; exact hF.up i13 (by decide)
                              have hM_422 : M_421 z13 = .inl (cy 15, 24, .inr (.inl (vp_updL f419 ((nI zgw36) : Int32).toNatClampNeg 0))) := by rw [eM_421]; exact va_up_self _ _ _
                              have hM_423 : M_421 z12 = .inl (cy 14, 24, .inl (f_418)) := by rw [eM_421, va_up_ne _ _ (i12.neT i13 (by decide))]; exact hM_410
                              have hM_424 : M_421 z11 = .inl (cy 14, 24, .inl (f_392)) := by rw [eM_421, va_up_ne _ _ (i11.neT i13 (by decide))]; exact hM_411
                              have hM_425 : M_421 b11 = .inr (12, fs14) := by rw [eM_421, va_up_ne _ _ (hb_13.neT i13 (by decide))]; exact hM_412
                              have hM_426 : M_421 v109 = .inl (cy 14, 24, .inl (f110)) := by rw [eM_421, va_up_ne _ _ (hc109.neT i13 (by decide))]; exact hM_413
                              have hM_427 : M_421 v359 = .inl (cy 14, 24, .inl (f360)) := by rw [eM_421, va_up_ne _ _ (hc359.neT i13 (by decide))]; exact hM_414
                              have hM_428 : M_421 v363 = .inl (cy 14, 24, .inl (f364)) := by rw [eM_421, va_up_ne _ _ (hc363.neT i13 (by decide))]; exact hM_415
                              have hM_429 : M_421 v369 = .inl (cy 16, 24, .inl (f370)) := by rw [eM_421, va_up_ne _ _ (hc369.neT i13 (by decide))]; exact hM_416
                              have hM_430 : M_421 v396 = .inl (cy 14, 24, .inl (f397)) := by rw [eM_421, va_up_ne _ _ (hc396.neT i13 (by decide))]; exact hM_417
                              obtain ⟨f_431, ef_431⟩ : ∃ f : Nat → Int64, f = vp_updL f419 ((nI zgw36) : Int32).toNatClampNeg 0 := ⟨_, rfl⟩
                              rw [← ef_431] at hM_422
                              refine lv_aload_n hx hb dX13_bear_266 rfl (lv_at hl 4 rfl) ?_
                              refine lv_dup hx hb dX13_bear_267 rfl ?_
                              refine va_get (D := D) (ci := 13) (v := .int (nI zgw36)) (C := RX13) (T := TX13) (N := 20) hx hb hg inG13 hown hK hP 0 rfl rfl 16 (by decide) (hg _ wd_769) (fun _ h9 => h9) rfl dX13_bear_268 ?_
                              refine lv_iconst (v := 1) hx hb dX13_bear_271 (by decide) ?_
                              refine lv_iadd hx hb dX13_bear_272 ?_
                              refine lv_topi (fun f_432 ef_432 => ?_)
                              obtain rfl : f_432 = (nI (zgw36 + 1)) := ef_432.trans (nI_add zgw36 1)
                              refine va_put (D := D) (ci := 13) (v := .int (nI (zgw36 + 1))) (ty := .int) (C := RX13) (T := TX13) (N := 20) hx hb hg inG13 tyX13 tyX13_ok nmX13 hown hK hP hD hS 0 rfl rfl 16 (by decide) (hg _ wd_769) (fun _ h9 => h9) rfl (by decide +kernel) rfl rfl (Nat.le_of_ble_eq_true rfl) dX13_bear_273 (fun H_433 locs hP hD hS => ?_)
                              have hP : va_P D vwCl ([(za, (b13_0 0 z1 (nI z2) (nI z3) z4 z5 z6 z7 z8 z9 (nI z10) z11 z12 z13 z14 z15 (nI (zgw36 + 1)) z17 z18 z19))] ++ va_pl L M_421) H_433 := hP
                              have hD : va_D A ([(za, (b13_0 0 z1 (nI z2) (nI z3) z4 z5 z6 z7 z8 z9 (nI z10) z11 z12 z13 z14 z15 (nI (zgw36 + 1)) z17 z18 z19))] ++ va_pl L M_421) := hD
                              refine lv_iinc (v := (nI (v5w36 + 1))) (lv' := [(5, .int (nI (v5w36 + 1))), (7, .int 1), (6, .int 0), (4, .ref b11), (0, .ref za), (1, .int k1), (2, .int k2), (3, .int k3)]) hx hb dX13_bear_276 hl (k := 2) rfl (nI_1 v5w36) (by decide) rfl (fun ls hl => ?_)
                              refine lv_goto (tgt := 82) hx hb dX13_bear_279 (by decide) ?_
                              exact ih_34 (v5w36 + 1) (zgw36 + 1) M_421 H_433 _ _ (by omega) hM_425 (by omega) (by omega) hW hF hV hP hD hS (lv_sub hl [0, 3, 4, 5, 6, 7] rfl)
                      · have hz := rfl (a := 0)
                        refine lv_iconst (v := 1) hx hb dX13_bear_139 (by decide) ?_
                        refine lv_goto (tgt := 144) hx hb dX13_bear_140 (by decide) ?_
                        refine lv_istore (lv' := [(6, .int 1), (5, .int (nI v5w36)), (4, .ref b11), (0, .ref za), (1, .int k1), (2, .int k2), (3, .int k3)]) hx hb dX13_bear_144 hl (by decide) rfl (fun ls hl => ?_)
                        refine lv_aload hx hb dX13_bear_146 (lv_at hl 2 rfl) ?_
                        obtain ⟨v434, hv434, hc434⟩ : ∃ v : Nat, fs14[21]? = some (.ref v : Value) ∧ isk K L v 75 24 := hl14 21 (by decide)
                        refine pg_getN (D := D) (ci := 12) (v := .ref v434) (C := RX12) (T := TX12) (N := 51) hx hb hg inG12 hown hK hP hb_13.1 hM_41 rfl 21 (by decide) (hN.use (Cond.fieldLinkNest RX13 112 RX12 "begin" "[I" RX13) 30 rfl rfl) (fun _ h9 => h9) hv434 dX13_bear_148 ?_
                        refine lv_iload hx hb dX13_bear_151 (lv_at hl 1 rfl) ?_
                        obtain ⟨f435, hM435⟩ := hW.open_75 hc434
                        refine pg_iald hx hb hK hP hc434.1 0 hM435 rfl (inbN v5w36 24 (by omega) (by omega)) dX13_bear_153 ?_
                        refine lv_topi (fun f_436 ef_436 => ?_)
                        refine lv_iload_n hx hb dX13_bear_154 rfl (lv_at hl 5 rfl) ?_
                        refine lv_icmp_le (tgt := 185) hx hb dX13_bear_155 (by decide) (fun c_437 => ?_) (fun c_437 => ?_)
                        · have hz := rfl (a := 0)
                          refine lv_iconst (v := 0) hx hb dX13_bear_185 (by decide) ?_
                          refine lv_istore (lv' := [(7, .int 0), (6, .int 1), (5, .int (nI v5w36)), (4, .ref b11), (0, .ref za), (1, .int k1), (2, .int k2), (3, .int k3)]) hx hb dX13_bear_186 hl (by decide) rfl (fun ls hl => ?_)
                          refine lv_iload hx hb dX13_bear_188 (lv_at hl 1 rfl) ?_
                          refine lv_if_ne (tgt := 201) hx hb dX13_bear_190 (by decide) (fun _ => ?_) (fun c_438 => absurd c_438 (by decide))
                          refine lv_aload_n hx hb dX13_bear_201 rfl (lv_at hl 4 rfl) ?_
                          refine va_get (D := D) (ci := 13) (v := .ref z11) (C := RX13) (T := TX13) (N := 20) hx hb hg inG13 hown hK hP 0 rfl rfl 11 (by decide) (hg _ wd_764) (fun _ h9 => h9) rfl dX13_bear_202 ?_
                          refine lv_aload_n hx hb dX13_bear_205 rfl (lv_at hl 4 rfl) ?_
                          refine va_get (D := D) (ci := 13) (v := .int (nI zgw36)) (C := RX13) (T := TX13) (N := 20) hx hb hg inG13 hown hK hP 0 rfl rfl 16 (by decide) (hg _ wd_769) (fun _ h9 => h9) rfl dX13_bear_206 ?_
                          refine lv_iload hx hb dX13_bear_209 (lv_at hl 2 rfl) ?_
                          obtain ⟨f439, hM439, hf439⟩ := hW.open_32 i11
                          refine pg_iast hx hb hK hP hD hS i11.1 0 hM439 rfl (inbN zgw36 24 (by omega) (by omega)) dX13_bear_211 (fun H_440 locs hP hD hS => ?_)
                          obtain ⟨M_441, eM_441⟩ : ∃ M1 : Hp, M1 = va_up M_39 z11 (.inl (cy 14, 24, .inl (upd f439 ((nI zgw36) : Int32).toNatClampNeg (nI v5w36)))) := ⟨_, rfl⟩
                          have hV : VW K L M M_441 b11 (fx M b11) (ax M b11) := by rw [eM_441]; exact hV.oth hW hb_13 i11 (by decide)
                          have hP : va_P D vwCl ([(za, (b13_0 0 z1 (nI z2) (nI z3) z4 z5 z6 z7 z8 z9 (nI z10) z11 z12 z13 z14 z15 (nI zgw36) z17 z18 z19))] ++ va_pl L M_441) H_440 := by rw [eM_441]; exact hP
                          have hD : va_D A ([(za, (b13_0 0 z1 (nI z2) (nI z3) z4 z5 z6 z7 z8 z9 (nI z10) z11 z12 z13 z14 z15 (nI zgw36) z17 z18 z19))] ++ va_pl L M_441) := by rw [eM_441]; exact hD
                          have hW : WOM cy K L M_441 := by rw [eM_441]; exact hW.up_32 i11 ⟨_, rfl, (updP (P := fun z => ∃ c : Nat, c < 24 ∧ z = nI c) hf439 ⟨v5w36, by omega, rfl⟩)⟩
                          have hF : fr K L [14, 15, 32, 97, 98, 99] M M_441 := by rw [eM_441]; exact hF.up i11 (by decide)
                          have hM_442 : M_441 z11 = .inl (cy 14, 24, .inl (upd f439 ((nI zgw36) : Int32).toNatClampNeg (nI v5w36))) := by rw [eM_441]; exact va_up_self _ _ _
                          have hM_443 : M_441 b11 = .inr (12, fs14) := by rw [eM_441, va_up_ne _ _ (hb_13.neT i11 (by decide))]; exact hM_41
                          have hM_444 : M_441 v109 = .inl (cy 14, 24, .inl (f110)) := by rw [eM_441, va_up_ne _ _ (hc109.neT i11 (by decide))]; exact hM110
                          have hM_445 : M_441 v359 = .inl (cy 14, 24, .inl (f360)) := by rw [eM_441, va_up_ne _ _ (hc359.neT i11 (by decide))]; exact hM360
                          have hM_446 : M_441 v434 = .inl (cy 14, 24, .inl (f435)) := by rw [eM_441, va_up_ne _ _ (hc434.neT i11 (by decide))]; exact hM435
                          have hf_448 : ∀ j, j < 24 → ∃ c : Nat, c < 24 ∧ (upd f439 ((nI zgw36) : Int32).toNatClampNeg (nI v5w36)) j = nI c := (updP (P := fun z => ∃ c : Nat, c < 24 ∧ z = nI c) hf439 ⟨v5w36, by omega, rfl⟩)
                          obtain ⟨f_447, ef_447⟩ : ∃ f : Nat → Int32, f = upd f439 ((nI zgw36) : Int32).toNatClampNeg (nI v5w36) := ⟨_, rfl⟩
                          rw [← ef_447] at hM_442 hf_448
                          refine lv_aload_n hx hb dX13_bear_212 rfl (lv_at hl 4 rfl) ?_
                          refine va_get (D := D) (ci := 13) (v := .ref z12) (C := RX13) (T := TX13) (N := 20) hx hb hg inG13 hown hK hP 0 rfl rfl 12 (by decide) (hg _ wd_763) (fun _ h9 => h9) rfl dX13_bear_213 ?_
                          refine lv_aload_n hx hb dX13_bear_216 rfl (lv_at hl 4 rfl) ?_
                          refine va_get (D := D) (ci := 13) (v := .int (nI zgw36)) (C := RX13) (T := TX13) (N := 20) hx hb hg inG13 hown hK hP 0 rfl rfl 16 (by decide) (hg _ wd_769) (fun _ h9 => h9) rfl dX13_bear_217 ?_
                          refine lv_aload hx hb dX13_bear_220 (lv_at hl 3 rfl) ?_
                          refine lv_iload hx hb dX13_bear_222 (lv_at hl 1 rfl) ?_
                          refine lv_if_eq (tgt := 236) hx hb dX13_bear_224 (by decide) (fun c_449 => absurd c_449 (by decide)) (fun _ => ?_)
                          refine lv_aload hx hb dX13_bear_227 (lv_at hl 3 rfl) ?_
                          refine lv_iload_n hx hb dX13_bear_229 rfl (lv_at hl 6 rfl) ?_
                          have hPc : va_P D vwCl ([] ++ va_pl L M_441) H_440 := hP.part (cx := []) [] rfl
                          have hDc : va_D A ([] ++ va_pl L M_441) := hD.part (cx := []) [] (by decide) rfl
                          have hFc : ∀ q, va_A ([] ++ va_pl L M_441) H_440.size q → A q := pg_free hDc hS hA
                          have hx0 : (fx M b11 0) = ((v24 : Nat) : Int) := (congrFun hV.2.1 0).symm.trans ((fx_of hM_443 rfl hv24).trans (nI_toInt (by omega)))
                          have hx11 : (fx M b11 11) = ((v15 : Nat) : Int) := (congrFun hV.2.1 11).symm.trans ((fx_of hM_443 rfl hv15).trans (nI_toInt (by omega)))
                          obtain ⟨v450, hv450, hc450⟩ : ∃ v : Nat, fs14[34]? = some (.ref v : Value) ∧ isk K L v 43 16 := hl14 34 (by decide)
                          obtain ⟨f451, hM451⟩ := hW.open_43 hc450
                          have hy34 : (ax M b11 34) = f451 := (congrFun hV.2.2.1 34).symm.trans (ax_of hM_443 (by decide) hv450 hM451)
                          refine va_calli (va_runV (As := [.int k2]) (rest := [.ref b11, .int (nI zgw36), .ref z12]) ⟨hx, hb, hml, hown, hg⟩ (r_ruleOnP l D cy K L M_441 H_440.size b11 k2  hW hb_13 ⟨_, _, _, _, hM_443, hv15, by omega, by omega, hv450, hc450, hM451, rldp hy34 (hAT.2.2.2.1.1 (by omega)) (by rw [hx0]; exact geI c_25 (by omega))⟩) (cwV 1 hg (gV wd_815 wd_816 wd_817 wd_737 wd_818) rfl rfl rfl (by decide +kernel) ⟨(Nat.le_trans (Nat.le_of_ble_eq_true rfl) hRf), (Nat.le_trans (Nat.le_of_ble_eq_true rfl) hRl)⟩) ⟨PG.blind, pg_recv hK hP hb_13.1 hM_443 rfl, fun U hU hW => ⟨rfl, PG.at hPc hK hDc hN hU hW⟩⟩ rfl rfl hl.1 rfl (lv_room (Nat.le_of_ble_eq_true rfl)) dX13_bear_230 ⟨(Nat.le_trans (Nat.le_of_ble_eq_true rfl) hRc), (Nat.le_trans (Nat.le_of_ble_eq_true rfl) hRs)⟩) hS (fun q _ h => hFc q h) hFc (fun r_453 M_454 t H_452 locs ht hvm hw hB hz1 hk1 hS => ?_)
                          have hp_455 := hw
                          obtain ⟨hP1, hD1⟩ := hB
                          rw [ht] at hP1
                          obtain ⟨hP, hD⟩ := va_joinP (X := [(za, (b13_0 0 z1 (nI z2) (nI z3) z4 z5 z6 z7 z8 z9 (nI z10) z11 z12 z13 z14 z15 (nI zgw36) z17 z18 z19))]) (cx := []) (wr := [(za, (b13_0 0 z1 (nI z2) (nI z3) z4 z5 z6 z7 z8 z9 (nI z10) z11 z12 z13 z14 z15 (nI zgw36) z17 z18 z19))]) (rx := []) (pl := va_pl L M_441) (pl1 := va_pl L M_441) hP hD [] [0] rfl rfl (by decide) (by decide) hk1 hFc hP1 hD1
                          have hP : va_P D vwCl ([(za, (b13_0 0 z1 (nI z2) (nI z3) z4 z5 z6 z7 z8 z9 (nI z10) z11 z12 z13 z14 z15 (nI zgw36) z17 z18 z19))] ++ va_pl L M_441) H_452 := hP
                          have hD : va_D A ([(za, (b13_0 0 z1 (nI z2) (nI z3) z4 z5 z6 z7 z8 z9 (nI z10) z11 z12 z13 z14 z15 (nI zgw36) z17 z18 z19))] ++ va_pl L M_441) := hD
                          obtain ⟨j_456, rfl, c_457⟩ := hp_455
                          refine lv_goto (tgt := 243) hx hb dX13_bear_233 (by decide) ?_
                          refine lv_iconst (v := 3) hx hb dX13_bear_243 (by decide) ?_
                          refine lv_aload hx hb dX13_bear_244 (lv_at hl 3 rfl) ?_
                          obtain ⟨v458, hv458, hc458⟩ : ∃ v : Nat, fs14[20]? = some (.ref v : Value) ∧ isk K L v 31 24 := hl14 20 (by decide)
                          refine pg_getN (D := D) (ci := 12) (v := .ref v458) (C := RX12) (T := TX12) (N := 51) hx hb hg inG12 hown hK hP hb_13.1 hM_443 rfl 20 (by decide) (hN.use (Cond.fieldLinkNest RX13 110 RX12 "where" "[I" RX13) 29 rfl rfl) (fun _ h9 => h9) hv458 dX13_bear_246 ?_
                          refine lv_iload hx hb dX13_bear_249 (lv_at hl 2 rfl) ?_
                          obtain ⟨f459, hM459, hf459⟩ := hW.open_31 hc458
                          have hi_460 : vp_in (nI v5w36) 24 := (inbN v5w36 24 (by omega) (by omega))
                          refine pg_iald hx hb hK hP hc458.1 0 hM459 rfl hi_460 dX13_bear_251 ?_
                          have hp_461 := hf459 _ (vp_lt hi_460)
                          obtain ⟨c_462, hc_463, ec_464⟩ := hp_461
                          rw [ec_464]
                          have hPc : va_P D vwCl ([] ++ va_pl L M_441) H_452 := hP.part (cx := []) [] rfl
                          have hDc : va_D A ([] ++ va_pl L M_441) := hD.part (cx := []) [] (by decide) rfl
                          have hFc : ∀ q, va_A ([] ++ va_pl L M_441) H_452.size q → A q := pg_free hDc hS hA
                          refine va_calli (va_runV (As := [.int (nI j_456), .int 3, .int (nI c_462)]) (rest := [.int (nI zgw36), .ref z12]) ⟨hx, hb, hml, hown, hg⟩ (r_X12_term l D cy K L M_441 H_452.size b11 j_456 3 c_462  hW hb_13 c_457 (by omega) hc_463) (cwV 3 hg (gV wd_770 wd_771 wd_772 wd_737 wd_773) rfl rfl rfl (by decide +kernel) ⟨(Nat.le_trans (Nat.le_of_ble_eq_true rfl) hRf), (Nat.le_trans (Nat.le_of_ble_eq_true rfl) hRl)⟩) ⟨PG.blind, pg_recv hK hP hb_13.1 hM_443 rfl, fun U hU hW => ⟨rfl, PG.at hPc hK hDc hN hU hW⟩⟩ rfl rfl hl.1 rfl (lv_room (Nat.le_of_ble_eq_true rfl)) dX13_bear_252 ⟨(Nat.le_trans (Nat.le_of_ble_eq_true rfl) hRc), (Nat.le_trans (Nat.le_of_ble_eq_true rfl) hRs)⟩) hS (fun q _ h => hFc q h) hFc (fun r_466 M_467 t H_465 locs ht hvm hw hB hz1 hk1 hS => ?_)
                          have hp_468 := hw
                          obtain ⟨hP1, hD1⟩ := hB
                          rw [ht] at hP1
                          obtain ⟨hP, hD⟩ := va_joinP (X := [(za, (b13_0 0 z1 (nI z2) (nI z3) z4 z5 z6 z7 z8 z9 (nI z10) z11 z12 z13 z14 z15 (nI zgw36) z17 z18 z19))]) (cx := []) (wr := [(za, (b13_0 0 z1 (nI z2) (nI z3) z4 z5 z6 z7 z8 z9 (nI z10) z11 z12 z13 z14 z15 (nI zgw36) z17 z18 z19))]) (rx := []) (pl := va_pl L M_441) (pl1 := va_pl L M_441) hP hD [] [0] rfl rfl (by decide) (by decide) hk1 hFc hP1 hD1
                          have hP : va_P D vwCl ([(za, (b13_0 0 z1 (nI z2) (nI z3) z4 z5 z6 z7 z8 z9 (nI z10) z11 z12 z13 z14 z15 (nI zgw36) z17 z18 z19))] ++ va_pl L M_441) H_465 := hP
                          have hD : va_D A ([(za, (b13_0 0 z1 (nI z2) (nI z3) z4 z5 z6 z7 z8 z9 (nI z10) z11 z12 z13 z14 z15 (nI zgw36) z17 z18 z19))] ++ va_pl L M_441) := hD
                          obtain ⟨f469, hM469⟩ := hW.open_14 i12
                          refine pg_iast hx hb hK hP hD hS i12.1 0 hM469 rfl (inbN zgw36 24 (by omega) (by omega)) dX13_bear_255 (fun H_470 locs hP hD hS => ?_)
                          obtain ⟨M_471, eM_471⟩ : ∃ M1 : Hp, M1 = va_up M_441 z12 (.inl (cy 14, 24, .inl (upd f469 ((nI zgw36) : Int32).toNatClampNeg r_466))) := ⟨_, rfl⟩
                          have hV : VW K L M M_471 b11 (fx M b11) (ax M b11) := by rw [eM_471]; exact hV.oth hW hb_13 i12 (by decide)
                          have hP : va_P D vwCl ([(za, (b13_0 0 z1 (nI z2) (nI z3) z4 z5 z6 z7 z8 z9 (nI z10) z11 z12 z13 z14 z15 (nI zgw36) z17 z18 z19))] ++ va_pl L M_471) H_470 := by rw [eM_471]; exact hP
                          have hD : va_D A ([(za, (b13_0 0 z1 (nI z2) (nI z3) z4 z5 z6 z7 z8 z9 (nI z10) z11 z12 z13 z14 z15 (nI zgw36) z17 z18 z19))] ++ va_pl L M_471) := by rw [eM_471]; exact hD
                          have hW : WOM cy K L M_471 := by rw [eM_471]; exact hW.up_14 i12 ⟨_, rfl⟩
                          have hF : fr K L [14, 15, 32, 97, 98, 99] M M_471 := by rw [eM_471]; exact hF.up i12 (by decide)
                          have hM_472 : M_471 z12 = .inl (cy 14, 24, .inl (upd f469 ((nI zgw36) : Int32).toNatClampNeg r_466)) := by rw [eM_471]; exact va_up_self _ _ _
                          have hM_473 : M_471 z11 = .inl (cy 14, 24, .inl (f_447)) := by rw [eM_471, va_up_ne _ _ (i11.neT i12 (by decide))]; exact hM_442
                          have hM_474 : M_471 b11 = .inr (12, fs14) := by rw [eM_471, va_up_ne _ _ (hb_13.neT i12 (by decide))]; exact hM_443
                          have hM_475 : M_471 v109 = .inl (cy 14, 24, .inl (f110)) := by rw [eM_471, va_up_ne _ _ (hc109.neT i12 (by decide))]; exact hM_444
                          have hM_476 : M_471 v359 = .inl (cy 14, 24, .inl (f360)) := by rw [eM_471, va_up_ne _ _ (hc359.neT i12 (by decide))]; exact hM_445
                          have hM_477 : M_471 v434 = .inl (cy 14, 24, .inl (f435)) := by rw [eM_471, va_up_ne _ _ (hc434.neT i12 (by decide))]; exact hM_446
                          have hM_478 : M_471 v450 = .inl (cy 14, 16, .inl (f451)) := by rw [eM_471, va_up_ne _ _ (hc450.neT i12 (by decide))]; exact hM451
                          have hM_479 : M_471 v458 = .inl (cy 14, 24, .inl (f459)) := by rw [eM_471, va_up_ne _ _ (hc458.neT i12 (by decide))]; exact hM459
                          obtain ⟨f_480, ef_480⟩ : ∃ f : Nat → Int32, f = upd f469 ((nI zgw36) : Int32).toNatClampNeg r_466 := ⟨_, rfl⟩
                          rw [← ef_480] at hM_472
                          refine lv_aload_n hx hb dX13_bear_256 rfl (lv_at hl 4 rfl) ?_
                          refine va_get (D := D) (ci := 13) (v := .ref z13) (C := RX13) (T := TX13) (N := 20) hx hb hg inG13 hown hK hP 0 rfl rfl 13 (by decide) (hg _ wd_789) (fun _ h9 => h9) rfl dX13_bear_257 ?_
                          refine lv_aload_n hx hb dX13_bear_260 rfl (lv_at hl 4 rfl) ?_
                          refine va_get (D := D) (ci := 13) (v := .int (nI zgw36)) (C := RX13) (T := TX13) (N := 20) hx hb hg inG13 hown hK hP 0 rfl rfl 16 (by decide) (hg _ wd_769) (fun _ h9 => h9) rfl dX13_bear_261 ?_
                          refine lv_lconst (v := 0) hx hb dX13_bear_264 (by decide) ?_
                          obtain ⟨f481, hM481⟩ := hW.open_97 i13
                          refine pg_last hx hb hK hP hD hS i13.1 1 hM481 rfl (inbN zgw36 24 (by omega) (by omega)) dX13_bear_265 (fun H_482 locs hP hD hS => ?_)
                          obtain ⟨M_483, eM_483⟩ : ∃ M1 : Hp, M1 = va_up M_471 z13 (.inl (cy 15, 24, .inr (.inl (vp_updL f481 ((nI zgw36) : Int32).toNatClampNeg 0)))) := ⟨_, rfl⟩
                          have hV : VW K L M M_483 b11 (fx M b11) (ax M b11) := by rw [eM_483]; exact hV.oth hW hb_13 i13 (by decide)
                          have hP : va_P D vwCl ([(za, (b13_0 0 z1 (nI z2) (nI z3) z4 z5 z6 z7 z8 z9 (nI z10) z11 z12 z13 z14 z15 (nI zgw36) z17 z18 z19))] ++ va_pl L M_483) H_482 := by rw [eM_483]; exact hP
                          have hD : va_D A ([(za, (b13_0 0 z1 (nI z2) (nI z3) z4 z5 z6 z7 z8 z9 (nI z10) z11 z12 z13 z14 z15 (nI zgw36) z17 z18 z19))] ++ va_pl L M_483) := by rw [eM_483]; exact hD
                          have hW : WOM cy K L M_483 := by rw [eM_483]; exact hW.up_97 i13 ⟨_, rfl⟩
                          have hF : fr K L [14, 15, 32, 97, 98, 99] M M_483 := by rw [eM_483]; exact hF.up i13 (by decide)
                          have hM_484 : M_483 z13 = .inl (cy 15, 24, .inr (.inl (vp_updL f481 ((nI zgw36) : Int32).toNatClampNeg 0))) := by rw [eM_483]; exact va_up_self _ _ _
                          have hM_485 : M_483 z12 = .inl (cy 14, 24, .inl (f_480)) := by rw [eM_483, va_up_ne _ _ (i12.neT i13 (by decide))]; exact hM_472
                          have hM_486 : M_483 z11 = .inl (cy 14, 24, .inl (f_447)) := by rw [eM_483, va_up_ne _ _ (i11.neT i13 (by decide))]; exact hM_473
                          have hM_487 : M_483 b11 = .inr (12, fs14) := by rw [eM_483, va_up_ne _ _ (hb_13.neT i13 (by decide))]; exact hM_474
                          have hM_488 : M_483 v109 = .inl (cy 14, 24, .inl (f110)) := by rw [eM_483, va_up_ne _ _ (hc109.neT i13 (by decide))]; exact hM_475
                          have hM_489 : M_483 v359 = .inl (cy 14, 24, .inl (f360)) := by rw [eM_483, va_up_ne _ _ (hc359.neT i13 (by decide))]; exact hM_476
                          have hM_490 : M_483 v434 = .inl (cy 14, 24, .inl (f435)) := by rw [eM_483, va_up_ne _ _ (hc434.neT i13 (by decide))]; exact hM_477
                          have hM_491 : M_483 v450 = .inl (cy 14, 16, .inl (f451)) := by rw [eM_483, va_up_ne _ _ (hc450.neT i13 (by decide))]; exact hM_478
                          have hM_492 : M_483 v458 = .inl (cy 14, 24, .inl (f459)) := by rw [eM_483, va_up_ne _ _ (hc458.neT i13 (by decide))]; exact hM_479
                          obtain ⟨f_493, ef_493⟩ : ∃ f : Nat → Int64, f = vp_updL f481 ((nI zgw36) : Int32).toNatClampNeg 0 := ⟨_, rfl⟩
                          rw [← ef_493] at hM_484
                          refine lv_aload_n hx hb dX13_bear_266 rfl (lv_at hl 4 rfl) ?_
                          refine lv_dup hx hb dX13_bear_267 rfl ?_
                          refine va_get (D := D) (ci := 13) (v := .int (nI zgw36)) (C := RX13) (T := TX13) (N := 20) hx hb hg inG13 hown hK hP 0 rfl rfl 16 (by decide) (hg _ wd_769) (fun _ h9 => h9) rfl dX13_bear_268 ?_
                          refine lv_iconst (v := 1) hx hb dX13_bear_271 (by decide) ?_
                          refine lv_iadd hx hb dX13_bear_272 ?_
                          refine lv_topi (fun f_494 ef_494 => ?_)
                          obtain rfl : f_494 = (nI (zgw36 + 1)) := ef_494.trans (nI_add zgw36 1)
                          refine va_put (D := D) (ci := 13) (v := .int (nI (zgw36 + 1))) (ty := .int) (C := RX13) (T := TX13) (N := 20) hx hb hg inG13 tyX13 tyX13_ok nmX13 hown hK hP hD hS 0 rfl rfl 16 (by decide) (hg _ wd_769) (fun _ h9 => h9) rfl (by decide +kernel) rfl rfl (Nat.le_of_ble_eq_true rfl) dX13_bear_273 (fun H_495 locs hP hD hS => ?_)
                          have hP : va_P D vwCl ([(za, (b13_0 0 z1 (nI z2) (nI z3) z4 z5 z6 z7 z8 z9 (nI z10) z11 z12 z13 z14 z15 (nI (zgw36 + 1)) z17 z18 z19))] ++ va_pl L M_483) H_495 := hP
                          have hD : va_D A ([(za, (b13_0 0 z1 (nI z2) (nI z3) z4 z5 z6 z7 z8 z9 (nI z10) z11 z12 z13 z14 z15 (nI (zgw36 + 1)) z17 z18 z19))] ++ va_pl L M_483) := hD
                          refine lv_iinc (v := (nI (v5w36 + 1))) (lv' := [(5, .int (nI (v5w36 + 1))), (7, .int 0), (6, .int 1), (4, .ref b11), (0, .ref za), (1, .int k1), (2, .int k2), (3, .int k3)]) hx hb dX13_bear_276 hl (k := 2) rfl (nI_1 v5w36) (by decide) rfl (fun ls hl => ?_)
                          refine lv_goto (tgt := 82) hx hb dX13_bear_279 (by decide) ?_
                          exact ih_34 (v5w36 + 1) (zgw36 + 1) M_483 H_495 _ _ (by omega) hM_487 (by omega) (by omega) hW hF hV hP hD hS (lv_sub hl [0, 3, 4, 5, 6, 7] rfl)
                        · have hz := rfl (a := 0)
                          refine lv_aload hx hb dX13_bear_158 (lv_at hl 2 rfl) ?_
                          obtain ⟨v496, hv496, hc496⟩ : ∃ v : Nat, fs14[26]? = some (.ref v : Value) ∧ isk K L v 16 24 := hl14 26 (by decide)
                          refine pg_getN (D := D) (ci := 12) (v := .ref v496) (C := RX12) (T := TX12) (N := 51) hx hb hg inG12 hown hK hP hb_13.1 hM_41 rfl 26 (by decide) (hN.use (Cond.fieldLinkNest RX13 124 RX12 "word" "[Z" RX13) 35 rfl rfl) (fun _ h9 => h9) hv496 dX13_bear_160 ?_
                          refine lv_iload hx hb dX13_bear_163 (lv_at hl 1 rfl) ?_
                          obtain ⟨f497, hM497, hf497⟩ := hW.open_16 hc496
                          have hi_498 : vp_in (nI v5w36) 24 := (inbN v5w36 24 (by omega) (by omega))
                          refine pg_zald hx hb hK hP hc496.1 2 hM497 rfl hi_498 dX13_bear_165 ?_
                          rcases hf497 _ (vp_lt hi_498) with ec_499 | ec_499
                          · rw [ec_499]
                            refine lv_if_eq (tgt := 185) hx hb dX13_bear_166 (by decide) (fun _ => ?_) (fun c_500 => absurd c_500 (by decide))
                            refine lv_iconst (v := 0) hx hb dX13_bear_185 (by decide) ?_
                            refine lv_istore (lv' := [(7, .int 0), (6, .int 1), (5, .int (nI v5w36)), (4, .ref b11), (0, .ref za), (1, .int k1), (2, .int k2), (3, .int k3)]) hx hb dX13_bear_186 hl (by decide) rfl (fun ls hl => ?_)
                            refine lv_iload hx hb dX13_bear_188 (lv_at hl 1 rfl) ?_
                            refine lv_if_ne (tgt := 201) hx hb dX13_bear_190 (by decide) (fun _ => ?_) (fun c_501 => absurd c_501 (by decide))
                            refine lv_aload_n hx hb dX13_bear_201 rfl (lv_at hl 4 rfl) ?_
                            refine va_get (D := D) (ci := 13) (v := .ref z11) (C := RX13) (T := TX13) (N := 20) hx hb hg inG13 hown hK hP 0 rfl rfl 11 (by decide) (hg _ wd_764) (fun _ h9 => h9) rfl dX13_bear_202 ?_
                            refine lv_aload_n hx hb dX13_bear_205 rfl (lv_at hl 4 rfl) ?_
                            refine va_get (D := D) (ci := 13) (v := .int (nI zgw36)) (C := RX13) (T := TX13) (N := 20) hx hb hg inG13 hown hK hP 0 rfl rfl 16 (by decide) (hg _ wd_769) (fun _ h9 => h9) rfl dX13_bear_206 ?_
                            refine lv_iload hx hb dX13_bear_209 (lv_at hl 2 rfl) ?_
                            obtain ⟨f502, hM502, hf502⟩ := hW.open_32 i11
                            refine pg_iast hx hb hK hP hD hS i11.1 0 hM502 rfl (inbN zgw36 24 (by omega) (by omega)) dX13_bear_211 (fun H_503 locs hP hD hS => ?_)
                            obtain ⟨M_504, eM_504⟩ : ∃ M1 : Hp, M1 = va_up M_39 z11 (.inl (cy 14, 24, .inl (upd f502 ((nI zgw36) : Int32).toNatClampNeg (nI v5w36)))) := ⟨_, rfl⟩
                            have hV : VW K L M M_504 b11 (fx M b11) (ax M b11) := by rw [eM_504]; exact hV.oth hW hb_13 i11 (by decide)
                            have hP : va_P D vwCl ([(za, (b13_0 0 z1 (nI z2) (nI z3) z4 z5 z6 z7 z8 z9 (nI z10) z11 z12 z13 z14 z15 (nI zgw36) z17 z18 z19))] ++ va_pl L M_504) H_503 := by rw [eM_504]; exact hP
                            have hD : va_D A ([(za, (b13_0 0 z1 (nI z2) (nI z3) z4 z5 z6 z7 z8 z9 (nI z10) z11 z12 z13 z14 z15 (nI zgw36) z17 z18 z19))] ++ va_pl L M_504) := by rw [eM_504]; exact hD
                            have hW : WOM cy K L M_504 := by rw [eM_504]; exact hW.up_32 i11 ⟨_, rfl, (updP (P := fun z => ∃ c : Nat, c < 24 ∧ z = nI c) hf502 ⟨v5w36, by omega, rfl⟩)⟩
                            have hF : fr K L [14, 15, 32, 97, 98, 99] M M_504 := by rw [eM_504]; exact hF.up i11 (by decide)
                            have hM_505 : M_504 z11 = .inl (cy 14, 24, .inl (upd f502 ((nI zgw36) : Int32).toNatClampNeg (nI v5w36))) := by rw [eM_504]; exact va_up_self _ _ _
                            have hM_506 : M_504 b11 = .inr (12, fs14) := by rw [eM_504, va_up_ne _ _ (hb_13.neT i11 (by decide))]; exact hM_41
                            have hM_507 : M_504 v109 = .inl (cy 14, 24, .inl (f110)) := by rw [eM_504, va_up_ne _ _ (hc109.neT i11 (by decide))]; exact hM110
                            have hM_508 : M_504 v359 = .inl (cy 14, 24, .inl (f360)) := by rw [eM_504, va_up_ne _ _ (hc359.neT i11 (by decide))]; exact hM360
                            have hM_509 : M_504 v434 = .inl (cy 14, 24, .inl (f435)) := by rw [eM_504, va_up_ne _ _ (hc434.neT i11 (by decide))]; exact hM435
                            have hM_510 : M_504 v496 = .inl (cy 16, 24, .inl (f497)) := by rw [eM_504, va_up_ne _ _ (hc496.neT i11 (by decide))]; exact hM497
                            have hf_512 : ∀ j, j < 24 → ∃ c : Nat, c < 24 ∧ (upd f502 ((nI zgw36) : Int32).toNatClampNeg (nI v5w36)) j = nI c := (updP (P := fun z => ∃ c : Nat, c < 24 ∧ z = nI c) hf502 ⟨v5w36, by omega, rfl⟩)
                            obtain ⟨f_511, ef_511⟩ : ∃ f : Nat → Int32, f = upd f502 ((nI zgw36) : Int32).toNatClampNeg (nI v5w36) := ⟨_, rfl⟩
                            rw [← ef_511] at hM_505 hf_512
                            refine lv_aload_n hx hb dX13_bear_212 rfl (lv_at hl 4 rfl) ?_
                            refine va_get (D := D) (ci := 13) (v := .ref z12) (C := RX13) (T := TX13) (N := 20) hx hb hg inG13 hown hK hP 0 rfl rfl 12 (by decide) (hg _ wd_763) (fun _ h9 => h9) rfl dX13_bear_213 ?_
                            refine lv_aload_n hx hb dX13_bear_216 rfl (lv_at hl 4 rfl) ?_
                            refine va_get (D := D) (ci := 13) (v := .int (nI zgw36)) (C := RX13) (T := TX13) (N := 20) hx hb hg inG13 hown hK hP 0 rfl rfl 16 (by decide) (hg _ wd_769) (fun _ h9 => h9) rfl dX13_bear_217 ?_
                            refine lv_aload hx hb dX13_bear_220 (lv_at hl 3 rfl) ?_
                            refine lv_iload hx hb dX13_bear_222 (lv_at hl 1 rfl) ?_
                            refine lv_if_eq (tgt := 236) hx hb dX13_bear_224 (by decide) (fun c_513 => absurd c_513 (by decide)) (fun _ => ?_)
                            refine lv_aload hx hb dX13_bear_227 (lv_at hl 3 rfl) ?_
                            refine lv_iload_n hx hb dX13_bear_229 rfl (lv_at hl 6 rfl) ?_
                            have hPc : va_P D vwCl ([] ++ va_pl L M_504) H_503 := hP.part (cx := []) [] rfl
                            have hDc : va_D A ([] ++ va_pl L M_504) := hD.part (cx := []) [] (by decide) rfl
                            have hFc : ∀ q, va_A ([] ++ va_pl L M_504) H_503.size q → A q := pg_free hDc hS hA
                            have hx0 : (fx M b11 0) = ((v24 : Nat) : Int) := (congrFun hV.2.1 0).symm.trans ((fx_of hM_506 rfl hv24).trans (nI_toInt (by omega)))
                            have hx11 : (fx M b11 11) = ((v15 : Nat) : Int) := (congrFun hV.2.1 11).symm.trans ((fx_of hM_506 rfl hv15).trans (nI_toInt (by omega)))
                            obtain ⟨v514, hv514, hc514⟩ : ∃ v : Nat, fs14[34]? = some (.ref v : Value) ∧ isk K L v 43 16 := hl14 34 (by decide)
                            obtain ⟨f515, hM515⟩ := hW.open_43 hc514
                            have hy34 : (ax M b11 34) = f515 := (congrFun hV.2.2.1 34).symm.trans (ax_of hM_506 (by decide) hv514 hM515)
                            refine va_calli (va_runV (As := [.int k2]) (rest := [.ref b11, .int (nI zgw36), .ref z12]) ⟨hx, hb, hml, hown, hg⟩ (r_ruleOnP l D cy K L M_504 H_503.size b11 k2  hW hb_13 ⟨_, _, _, _, hM_506, hv15, by omega, by omega, hv514, hc514, hM515, rldp hy34 (hAT.2.2.2.1.1 (by omega)) (by rw [hx0]; exact geI c_25 (by omega))⟩) (cwV 1 hg (gV wd_815 wd_816 wd_817 wd_737 wd_818) rfl rfl rfl (by decide +kernel) ⟨(Nat.le_trans (Nat.le_of_ble_eq_true rfl) hRf), (Nat.le_trans (Nat.le_of_ble_eq_true rfl) hRl)⟩) ⟨PG.blind, pg_recv hK hP hb_13.1 hM_506 rfl, fun U hU hW => ⟨rfl, PG.at hPc hK hDc hN hU hW⟩⟩ rfl rfl hl.1 rfl (lv_room (Nat.le_of_ble_eq_true rfl)) dX13_bear_230 ⟨(Nat.le_trans (Nat.le_of_ble_eq_true rfl) hRc), (Nat.le_trans (Nat.le_of_ble_eq_true rfl) hRs)⟩) hS (fun q _ h => hFc q h) hFc (fun r_517 M_518 t H_516 locs ht hvm hw hB hz1 hk1 hS => ?_)
                            have hp_519 := hw
                            obtain ⟨hP1, hD1⟩ := hB
                            rw [ht] at hP1
                            obtain ⟨hP, hD⟩ := va_joinP (X := [(za, (b13_0 0 z1 (nI z2) (nI z3) z4 z5 z6 z7 z8 z9 (nI z10) z11 z12 z13 z14 z15 (nI zgw36) z17 z18 z19))]) (cx := []) (wr := [(za, (b13_0 0 z1 (nI z2) (nI z3) z4 z5 z6 z7 z8 z9 (nI z10) z11 z12 z13 z14 z15 (nI zgw36) z17 z18 z19))]) (rx := []) (pl := va_pl L M_504) (pl1 := va_pl L M_504) hP hD [] [0] rfl rfl (by decide) (by decide) hk1 hFc hP1 hD1
                            have hP : va_P D vwCl ([(za, (b13_0 0 z1 (nI z2) (nI z3) z4 z5 z6 z7 z8 z9 (nI z10) z11 z12 z13 z14 z15 (nI zgw36) z17 z18 z19))] ++ va_pl L M_504) H_516 := hP
                            have hD : va_D A ([(za, (b13_0 0 z1 (nI z2) (nI z3) z4 z5 z6 z7 z8 z9 (nI z10) z11 z12 z13 z14 z15 (nI zgw36) z17 z18 z19))] ++ va_pl L M_504) := hD
                            obtain ⟨j_520, rfl, c_521⟩ := hp_519
                            refine lv_goto (tgt := 243) hx hb dX13_bear_233 (by decide) ?_
                            refine lv_iconst (v := 3) hx hb dX13_bear_243 (by decide) ?_
                            refine lv_aload hx hb dX13_bear_244 (lv_at hl 3 rfl) ?_
                            obtain ⟨v522, hv522, hc522⟩ : ∃ v : Nat, fs14[20]? = some (.ref v : Value) ∧ isk K L v 31 24 := hl14 20 (by decide)
                            refine pg_getN (D := D) (ci := 12) (v := .ref v522) (C := RX12) (T := TX12) (N := 51) hx hb hg inG12 hown hK hP hb_13.1 hM_506 rfl 20 (by decide) (hN.use (Cond.fieldLinkNest RX13 110 RX12 "where" "[I" RX13) 29 rfl rfl) (fun _ h9 => h9) hv522 dX13_bear_246 ?_
                            refine lv_iload hx hb dX13_bear_249 (lv_at hl 2 rfl) ?_
                            obtain ⟨f523, hM523, hf523⟩ := hW.open_31 hc522
                            have hi_524 : vp_in (nI v5w36) 24 := (inbN v5w36 24 (by omega) (by omega))
                            refine pg_iald hx hb hK hP hc522.1 0 hM523 rfl hi_524 dX13_bear_251 ?_
                            have hp_525 := hf523 _ (vp_lt hi_524)
                            obtain ⟨c_526, hc_527, ec_528⟩ := hp_525
                            rw [ec_528]
                            have hPc : va_P D vwCl ([] ++ va_pl L M_504) H_516 := hP.part (cx := []) [] rfl
                            have hDc : va_D A ([] ++ va_pl L M_504) := hD.part (cx := []) [] (by decide) rfl
                            have hFc : ∀ q, va_A ([] ++ va_pl L M_504) H_516.size q → A q := pg_free hDc hS hA
                            refine va_calli (va_runV (As := [.int (nI j_520), .int 3, .int (nI c_526)]) (rest := [.int (nI zgw36), .ref z12]) ⟨hx, hb, hml, hown, hg⟩ (r_X12_term l D cy K L M_504 H_516.size b11 j_520 3 c_526  hW hb_13 c_521 (by omega) hc_527) (cwV 3 hg (gV wd_770 wd_771 wd_772 wd_737 wd_773) rfl rfl rfl (by decide +kernel) ⟨(Nat.le_trans (Nat.le_of_ble_eq_true rfl) hRf), (Nat.le_trans (Nat.le_of_ble_eq_true rfl) hRl)⟩) ⟨PG.blind, pg_recv hK hP hb_13.1 hM_506 rfl, fun U hU hW => ⟨rfl, PG.at hPc hK hDc hN hU hW⟩⟩ rfl rfl hl.1 rfl (lv_room (Nat.le_of_ble_eq_true rfl)) dX13_bear_252 ⟨(Nat.le_trans (Nat.le_of_ble_eq_true rfl) hRc), (Nat.le_trans (Nat.le_of_ble_eq_true rfl) hRs)⟩) hS (fun q _ h => hFc q h) hFc (fun r_530 M_531 t H_529 locs ht hvm hw hB hz1 hk1 hS => ?_)
                            have hp_532 := hw
                            obtain ⟨hP1, hD1⟩ := hB
                            rw [ht] at hP1
                            obtain ⟨hP, hD⟩ := va_joinP (X := [(za, (b13_0 0 z1 (nI z2) (nI z3) z4 z5 z6 z7 z8 z9 (nI z10) z11 z12 z13 z14 z15 (nI zgw36) z17 z18 z19))]) (cx := []) (wr := [(za, (b13_0 0 z1 (nI z2) (nI z3) z4 z5 z6 z7 z8 z9 (nI z10) z11 z12 z13 z14 z15 (nI zgw36) z17 z18 z19))]) (rx := []) (pl := va_pl L M_504) (pl1 := va_pl L M_504) hP hD [] [0] rfl rfl (by decide) (by decide) hk1 hFc hP1 hD1
                            have hP : va_P D vwCl ([(za, (b13_0 0 z1 (nI z2) (nI z3) z4 z5 z6 z7 z8 z9 (nI z10) z11 z12 z13 z14 z15 (nI zgw36) z17 z18 z19))] ++ va_pl L M_504) H_529 := hP
                            have hD : va_D A ([(za, (b13_0 0 z1 (nI z2) (nI z3) z4 z5 z6 z7 z8 z9 (nI z10) z11 z12 z13 z14 z15 (nI zgw36) z17 z18 z19))] ++ va_pl L M_504) := hD
                            obtain ⟨f533, hM533⟩ := hW.open_14 i12
                            refine pg_iast hx hb hK hP hD hS i12.1 0 hM533 rfl (inbN zgw36 24 (by omega) (by omega)) dX13_bear_255 (fun H_534 locs hP hD hS => ?_)
                            obtain ⟨M_535, eM_535⟩ : ∃ M1 : Hp, M1 = va_up M_504 z12 (.inl (cy 14, 24, .inl (upd f533 ((nI zgw36) : Int32).toNatClampNeg r_530))) := ⟨_, rfl⟩
                            have hV : VW K L M M_535 b11 (fx M b11) (ax M b11) := by rw [eM_535]; exact hV.oth hW hb_13 i12 (by decide)
                            have hP : va_P D vwCl ([(za, (b13_0 0 z1 (nI z2) (nI z3) z4 z5 z6 z7 z8 z9 (nI z10) z11 z12 z13 z14 z15 (nI zgw36) z17 z18 z19))] ++ va_pl L M_535) H_534 := by rw [eM_535]; exact hP
                            have hD : va_D A ([(za, (b13_0 0 z1 (nI z2) (nI z3) z4 z5 z6 z7 z8 z9 (nI z10) z11 z12 z13 z14 z15 (nI zgw36) z17 z18 z19))] ++ va_pl L M_535) := by rw [eM_535]; exact hD
                            have hW : WOM cy K L M_535 := by rw [eM_535]; exact hW.up_14 i12 ⟨_, rfl⟩
                            have hF : fr K L [14, 15, 32, 97, 98, 99] M M_535 := by rw [eM_535]; exact hF.up i12 (by decide)
                            have hM_536 : M_535 z12 = .inl (cy 14, 24, .inl (upd f533 ((nI zgw36) : Int32).toNatClampNeg r_530)) := by rw [eM_535]; exact va_up_self _ _ _
                            have hM_537 : M_535 z11 = .inl (cy 14, 24, .inl (f_511)) := by rw [eM_535, va_up_ne _ _ (i11.neT i12 (by decide))]; exact hM_505
                            have hM_538 : M_535 b11 = .inr (12, fs14) := by rw [eM_535, va_up_ne _ _ (hb_13.neT i12 (by decide))]; exact hM_506
                            have hM_539 : M_535 v109 = .inl (cy 14, 24, .inl (f110)) := by rw [eM_535, va_up_ne _ _ (hc109.neT i12 (by decide))]; exact hM_507
                            have hM_540 : M_535 v359 = .inl (cy 14, 24, .inl (f360)) := by rw [eM_535, va_up_ne _ _ (hc359.neT i12 (by decide))]; exact hM_508
                            have hM_541 : M_535 v434 = .inl (cy 14, 24, .inl (f435)) := by rw [eM_535, va_up_ne _ _ (hc434.neT i12 (by decide))]; exact hM_509
                            have hM_542 : M_535 v496 = .inl (cy 16, 24, .inl (f497)) := by rw [eM_535, va_up_ne _ _ (hc496.neT i12 (by decide))]; exact hM_510
                            have hM_543 : M_535 v514 = .inl (cy 14, 16, .inl (f515)) := by rw [eM_535, va_up_ne _ _ (hc514.neT i12 (by decide))]; exact hM515
                            have hM_544 : M_535 v522 = .inl (cy 14, 24, .inl (f523)) := by rw [eM_535, va_up_ne _ _ (hc522.neT i12 (by decide))]; exact hM523
                            obtain ⟨f_545, ef_545⟩ : ∃ f : Nat → Int32, f = upd f533 ((nI zgw36) : Int32).toNatClampNeg r_530 := ⟨_, rfl⟩
                            rw [← ef_545] at hM_536
                            refine lv_aload_n hx hb dX13_bear_256 rfl (lv_at hl 4 rfl) ?_
                            refine va_get (D := D) (ci := 13) (v := .ref z13) (C := RX13) (T := TX13) (N := 20) hx hb hg inG13 hown hK hP 0 rfl rfl 13 (by decide) (hg _ wd_789) (fun _ h9 => h9) rfl dX13_bear_257 ?_
                            refine lv_aload_n hx hb dX13_bear_260 rfl (lv_at hl 4 rfl) ?_
                            refine va_get (D := D) (ci := 13) (v := .int (nI zgw36)) (C := RX13) (T := TX13) (N := 20) hx hb hg inG13 hown hK hP 0 rfl rfl 16 (by decide) (hg _ wd_769) (fun _ h9 => h9) rfl dX13_bear_261 ?_
                            refine lv_lconst (v := 0) hx hb dX13_bear_264 (by decide) ?_
                            obtain ⟨f546, hM546⟩ := hW.open_97 i13
                            refine pg_last hx hb hK hP hD hS i13.1 1 hM546 rfl (inbN zgw36 24 (by omega) (by omega)) dX13_bear_265 (fun H_547 locs hP hD hS => ?_)
                            obtain ⟨M_548, eM_548⟩ : ∃ M1 : Hp, M1 = va_up M_535 z13 (.inl (cy 15, 24, .inr (.inl (vp_updL f546 ((nI zgw36) : Int32).toNatClampNeg 0)))) := ⟨_, rfl⟩
                            have hV : VW K L M M_548 b11 (fx M b11) (ax M b11) := by rw [eM_548]; exact hV.oth hW hb_13 i13 (by decide)
                            have hP : va_P D vwCl ([(za, (b13_0 0 z1 (nI z2) (nI z3) z4 z5 z6 z7 z8 z9 (nI z10) z11 z12 z13 z14 z15 (nI zgw36) z17 z18 z19))] ++ va_pl L M_548) H_547 := by rw [eM_548]; exact hP
                            have hD : va_D A ([(za, (b13_0 0 z1 (nI z2) (nI z3) z4 z5 z6 z7 z8 z9 (nI z10) z11 z12 z13 z14 z15 (nI zgw36) z17 z18 z19))] ++ va_pl L M_548) := by rw [eM_548]; exact hD
                            have hW : WOM cy K L M_548 := by rw [eM_548]; exact hW.up_97 i13 ⟨_, rfl⟩
                            have hF : fr K L [14, 15, 32, 97, 98, 99] M M_548 := by rw [eM_548]; exact hF.up i13 (by decide)
                            have hM_549 : M_548 z13 = .inl (cy 15, 24, .inr (.inl (vp_updL f546 ((nI zgw36) : Int32).toNatClampNeg 0))) := by rw [eM_548]; exact va_up_self _ _ _
                            have hM_550 : M_548 z12 = .inl (cy 14, 24, .inl (f_545)) := by rw [eM_548, va_up_ne _ _ (i12.neT i13 (by decide))]; exact hM_536
                            have hM_551 : M_548 z11 = .inl (cy 14, 24, .inl (f_511)) := by rw [eM_548, va_up_ne _ _ (i11.neT i13 (by decide))]; exact hM_537
                            have hM_552 : M_548 b11 = .inr (12, fs14) := by rw [eM_548, va_up_ne _ _ (hb_13.neT i13 (by decide))]; exact hM_538
                            have hM_553 : M_548 v109 = .inl (cy 14, 24, .inl (f110)) := by rw [eM_548, va_up_ne _ _ (hc109.neT i13 (by decide))]; exact hM_539
                            have hM_554 : M_548 v359 = .inl (cy 14, 24, .inl (f360)) := by rw [eM_548, va_up_ne _ _ (hc359.neT i13 (by decide))]; exact hM_540
                            have hM_555 : M_548 v434 = .inl (cy 14, 24, .inl (f435)) := by rw [eM_548, va_up_ne _ _ (hc434.neT i13 (by decide))]; exact hM_541
                            have hM_556 : M_548 v496 = .inl (cy 16, 24, .inl (f497)) := by rw [eM_548, va_up_ne _ _ (hc496.neT i13 (by decide))]; exact hM_542
                            have hM_557 : M_548 v514 = .inl (cy 14, 16, .inl (f515)) := by rw [eM_548, va_up_ne _ _ (hc514.neT i13 (by decide))]; exact hM_543
                            have hM_558 : M_548 v522 = .inl (cy 14, 24, .inl (f523)) := by rw [eM_548, va_up_ne _ _ (hc522.neT i13 (by decide))]; exact hM_544
                            obtain ⟨f_559, ef_559⟩ : ∃ f : Nat → Int64, f = vp_updL f546 ((nI zgw36) : Int32).toNatClampNeg 0 := ⟨_, rfl⟩
                            rw [← ef_559] at hM_549
                            refine lv_aload_n hx hb dX13_bear_266 rfl (lv_at hl 4 rfl) ?_
                            refine lv_dup hx hb dX13_bear_267 rfl ?_
                            refine va_get (D := D) (ci := 13) (v := .int (nI zgw36)) (C := RX13) (T := TX13) (N := 20) hx hb hg inG13 hown hK hP 0 rfl rfl 16 (by decide) (hg _ wd_769) (fun _ h9 => h9) rfl dX13_bear_268 ?_
                            refine lv_iconst (v := 1) hx hb dX13_bear_271 (by decide) ?_
                            refine lv_iadd hx hb dX13_bear_272 ?_
                            refine lv_topi (fun f_560 ef_560 => ?_)
                            obtain rfl : f_560 = (nI (zgw36 + 1)) := ef_560.trans (nI_add zgw36 1)
                            refine va_put (D := D) (ci := 13) (v := .int (nI (zgw36 + 1))) (ty := .int) (C := RX13) (T := TX13) (N := 20) hx hb hg inG13 tyX13 tyX13_ok nmX13 hown hK hP hD hS 0 rfl rfl 16 (by decide) (hg _ wd_769) (fun _ h9 => h9) rfl (by decide +kernel) rfl rfl (Nat.le_of_ble_eq_true rfl) dX13_bear_273 (fun H_561 locs hP hD hS => ?_)
                            have hP : va_P D vwCl ([(za, (b13_0 0 z1 (nI z2) (nI z3) z4 z5 z6 z7 z8 z9 (nI z10) z11 z12 z13 z14 z15 (nI (zgw36 + 1)) z17 z18 z19))] ++ va_pl L M_548) H_561 := hP
                            have hD : va_D A ([(za, (b13_0 0 z1 (nI z2) (nI z3) z4 z5 z6 z7 z8 z9 (nI z10) z11 z12 z13 z14 z15 (nI (zgw36 + 1)) z17 z18 z19))] ++ va_pl L M_548) := hD
                            refine lv_iinc (v := (nI (v5w36 + 1))) (lv' := [(5, .int (nI (v5w36 + 1))), (7, .int 0), (6, .int 1), (4, .ref b11), (0, .ref za), (1, .int k1), (2, .int k2), (3, .int k3)]) hx hb dX13_bear_276 hl (k := 2) rfl (nI_1 v5w36) (by decide) rfl (fun ls hl => ?_)
                            refine lv_goto (tgt := 82) hx hb dX13_bear_279 (by decide) ?_
                            exact ih_34 (v5w36 + 1) (zgw36 + 1) M_548 H_561 _ _ (by omega) hM_552 (by omega) (by omega) hW hF hV hP hD hS (lv_sub hl [0, 3, 4, 5, 6, 7] rfl)
                          · rw [ec_499]
                            refine lv_if_eq (tgt := 185) hx hb dX13_bear_166 (by decide) (fun c_562 => absurd c_562 (by decide)) (fun _ => ?_)
                            refine lv_aload hx hb dX13_bear_169 (lv_at hl 2 rfl) ?_
                            refine pg_getN (D := D) (ci := 12) (v := .ref v109) (C := RX12) (T := TX12) (N := 51) hx hb hg inG12 hown hK hP hb_13.1 hM_41 rfl 22 (by decide) (hN.use (Cond.fieldLinkNest RX13 95 RX12 "ended" "[I" RX13) 31 rfl rfl) (fun _ h9 => h9) hv109 dX13_bear_171 ?_
                            refine lv_iload hx hb dX13_bear_174 (lv_at hl 1 rfl) ?_
                            refine pg_iald hx hb hK hP hc109.1 0 hM110 rfl (inbN v5w36 24 (by omega) (by omega)) dX13_bear_176 ?_
                            refine lv_topi (fun f_563 ef_563 => ?_)
                            refine lv_iconst (v := (-1)) hx hb dX13_bear_177 (by decide) ?_
                            refine lv_icmp_ne (tgt := 185) hx hb dX13_bear_178 (by decide) (fun c_564 => ?_) (fun c_564 => ?_)
                            · have hz := rfl (a := 0)
                              refine lv_iconst (v := 0) hx hb dX13_bear_185 (by decide) ?_
                              refine lv_istore (lv' := [(7, .int 0), (6, .int 1), (5, .int (nI v5w36)), (4, .ref b11), (0, .ref za), (1, .int k1), (2, .int k2), (3, .int k3)]) hx hb dX13_bear_186 hl (by decide) rfl (fun ls hl => ?_)
                              refine lv_iload hx hb dX13_bear_188 (lv_at hl 1 rfl) ?_
                              refine lv_if_ne (tgt := 201) hx hb dX13_bear_190 (by decide) (fun _ => ?_) (fun c_565 => absurd c_565 (by decide))
                              refine lv_aload_n hx hb dX13_bear_201 rfl (lv_at hl 4 rfl) ?_
                              refine va_get (D := D) (ci := 13) (v := .ref z11) (C := RX13) (T := TX13) (N := 20) hx hb hg inG13 hown hK hP 0 rfl rfl 11 (by decide) (hg _ wd_764) (fun _ h9 => h9) rfl dX13_bear_202 ?_
                              refine lv_aload_n hx hb dX13_bear_205 rfl (lv_at hl 4 rfl) ?_
                              refine va_get (D := D) (ci := 13) (v := .int (nI zgw36)) (C := RX13) (T := TX13) (N := 20) hx hb hg inG13 hown hK hP 0 rfl rfl 16 (by decide) (hg _ wd_769) (fun _ h9 => h9) rfl dX13_bear_206 ?_
                              refine lv_iload hx hb dX13_bear_209 (lv_at hl 2 rfl) ?_
                              obtain ⟨f566, hM566, hf566⟩ := hW.open_32 i11
                              refine pg_iast hx hb hK hP hD hS i11.1 0 hM566 rfl (inbN zgw36 24 (by omega) (by omega)) dX13_bear_211 (fun H_567 locs hP hD hS => ?_)
                              obtain ⟨M_568, eM_568⟩ : ∃ M1 : Hp, M1 = va_up M_39 z11 (.inl (cy 14, 24, .inl (upd f566 ((nI zgw36) : Int32).toNatClampNeg (nI v5w36)))) := ⟨_, rfl⟩
                              have hV : VW K L M M_568 b11 (fx M b11) (ax M b11) := by rw [eM_568]; exact hV.oth hW hb_13 i11 (by decide)
                              have hP : va_P D vwCl ([(za, (b13_0 0 z1 (nI z2) (nI z3) z4 z5 z6 z7 z8 z9 (nI z10) z11 z12 z13 z14 z15 (nI zgw36) z17 z18 z19))] ++ va_pl L M_568) H_567 := by rw [eM_568]; exact hP
                              have hD : va_D A ([(za, (b13_0 0 z1 (nI z2) (nI z3) z4 z5 z6 z7 z8 z9 (nI z10) z11 z12 z13 z14 z15 (nI zgw36) z17 z18 z19))] ++ va_pl L M_568) := by rw [eM_568]; exact hD
                              have hW : WOM cy K L M_568 := by rw [eM_568]; exact hW.up_32 i11 ⟨_, rfl, (updP (P := fun z => ∃ c : Nat, c < 24 ∧ z = nI c) hf566 ⟨v5w36, by omega, rfl⟩)⟩
                              have hF : fr K L [14, 15, 32, 97, 98, 99] M M_568 := by rw [eM_568]; exact hF.up i11 (by decide)
                              have hM_569 : M_568 z11 = .inl (cy 14, 24, .inl (upd f566 ((nI zgw36) : Int32).toNatClampNeg (nI v5w36))) := by rw [eM_568]; exact va_up_self _ _ _
                              have hM_570 : M_568 b11 = .inr (12, fs14) := by rw [eM_568, va_up_ne _ _ (hb_13.neT i11 (by decide))]; exact hM_41
                              have hM_571 : M_568 v109 = .inl (cy 14, 24, .inl (f110)) := by rw [eM_568, va_up_ne _ _ (hc109.neT i11 (by decide))]; exact hM110
                              have hM_572 : M_568 v359 = .inl (cy 14, 24, .inl (f360)) := by rw [eM_568, va_up_ne _ _ (hc359.neT i11 (by decide))]; exact hM360
                              have hM_573 : M_568 v434 = .inl (cy 14, 24, .inl (f435)) := by rw [eM_568, va_up_ne _ _ (hc434.neT i11 (by decide))]; exact hM435
                              have hM_574 : M_568 v496 = .inl (cy 16, 24, .inl (f497)) := by rw [eM_568, va_up_ne _ _ (hc496.neT i11 (by decide))]; exact hM497
                              have hf_576 : ∀ j, j < 24 → ∃ c : Nat, c < 24 ∧ (upd f566 ((nI zgw36) : Int32).toNatClampNeg (nI v5w36)) j = nI c := (updP (P := fun z => ∃ c : Nat, c < 24 ∧ z = nI c) hf566 ⟨v5w36, by omega, rfl⟩)
                              obtain ⟨f_575, ef_575⟩ : ∃ f : Nat → Int32, f = upd f566 ((nI zgw36) : Int32).toNatClampNeg (nI v5w36) := ⟨_, rfl⟩
                              rw [← ef_575] at hM_569 hf_576
                              refine lv_aload_n hx hb dX13_bear_212 rfl (lv_at hl 4 rfl) ?_
                              refine va_get (D := D) (ci := 13) (v := .ref z12) (C := RX13) (T := TX13) (N := 20) hx hb hg inG13 hown hK hP 0 rfl rfl 12 (by decide) (hg _ wd_763) (fun _ h9 => h9) rfl dX13_bear_213 ?_
                              refine lv_aload_n hx hb dX13_bear_216 rfl (lv_at hl 4 rfl) ?_
                              refine va_get (D := D) (ci := 13) (v := .int (nI zgw36)) (C := RX13) (T := TX13) (N := 20) hx hb hg inG13 hown hK hP 0 rfl rfl 16 (by decide) (hg _ wd_769) (fun _ h9 => h9) rfl dX13_bear_217 ?_
                              refine lv_aload hx hb dX13_bear_220 (lv_at hl 3 rfl) ?_
                              refine lv_iload hx hb dX13_bear_222 (lv_at hl 1 rfl) ?_
                              refine lv_if_eq (tgt := 236) hx hb dX13_bear_224 (by decide) (fun c_577 => absurd c_577 (by decide)) (fun _ => ?_)
                              refine lv_aload hx hb dX13_bear_227 (lv_at hl 3 rfl) ?_
                              refine lv_iload_n hx hb dX13_bear_229 rfl (lv_at hl 6 rfl) ?_
                              have hPc : va_P D vwCl ([] ++ va_pl L M_568) H_567 := hP.part (cx := []) [] rfl
                              have hDc : va_D A ([] ++ va_pl L M_568) := hD.part (cx := []) [] (by decide) rfl
                              have hFc : ∀ q, va_A ([] ++ va_pl L M_568) H_567.size q → A q := pg_free hDc hS hA
                              have hx0 : (fx M b11 0) = ((v24 : Nat) : Int) := (congrFun hV.2.1 0).symm.trans ((fx_of hM_570 rfl hv24).trans (nI_toInt (by omega)))
                              have hx11 : (fx M b11 11) = ((v15 : Nat) : Int) := (congrFun hV.2.1 11).symm.trans ((fx_of hM_570 rfl hv15).trans (nI_toInt (by omega)))
                              obtain ⟨v578, hv578, hc578⟩ : ∃ v : Nat, fs14[34]? = some (.ref v : Value) ∧ isk K L v 43 16 := hl14 34 (by decide)
                              obtain ⟨f579, hM579⟩ := hW.open_43 hc578
                              have hy34 : (ax M b11 34) = f579 := (congrFun hV.2.2.1 34).symm.trans (ax_of hM_570 (by decide) hv578 hM579)
                              refine va_calli (va_runV (As := [.int k2]) (rest := [.ref b11, .int (nI zgw36), .ref z12]) ⟨hx, hb, hml, hown, hg⟩ (r_ruleOnP l D cy K L M_568 H_567.size b11 k2  hW hb_13 ⟨_, _, _, _, hM_570, hv15, by omega, by omega, hv578, hc578, hM579, rldp hy34 (hAT.2.2.2.1.1 (by omega)) (by rw [hx0]; exact geI c_25 (by omega))⟩) (cwV 1 hg (gV wd_815 wd_816 wd_817 wd_737 wd_818) rfl rfl rfl (by decide +kernel) ⟨(Nat.le_trans (Nat.le_of_ble_eq_true rfl) hRf), (Nat.le_trans (Nat.le_of_ble_eq_true rfl) hRl)⟩) ⟨PG.blind, pg_recv hK hP hb_13.1 hM_570 rfl, fun U hU hW => ⟨rfl, PG.at hPc hK hDc hN hU hW⟩⟩ rfl rfl hl.1 rfl (lv_room (Nat.le_of_ble_eq_true rfl)) dX13_bear_230 ⟨(Nat.le_trans (Nat.le_of_ble_eq_true rfl) hRc), (Nat.le_trans (Nat.le_of_ble_eq_true rfl) hRs)⟩) hS (fun q _ h => hFc q h) hFc (fun r_581 M_582 t H_580 locs ht hvm hw hB hz1 hk1 hS => ?_)
                              have hp_583 := hw
                              obtain ⟨hP1, hD1⟩ := hB
                              rw [ht] at hP1
                              obtain ⟨hP, hD⟩ := va_joinP (X := [(za, (b13_0 0 z1 (nI z2) (nI z3) z4 z5 z6 z7 z8 z9 (nI z10) z11 z12 z13 z14 z15 (nI zgw36) z17 z18 z19))]) (cx := []) (wr := [(za, (b13_0 0 z1 (nI z2) (nI z3) z4 z5 z6 z7 z8 z9 (nI z10) z11 z12 z13 z14 z15 (nI zgw36) z17 z18 z19))]) (rx := []) (pl := va_pl L M_568) (pl1 := va_pl L M_568) hP hD [] [0] rfl rfl (by decide) (by decide) hk1 hFc hP1 hD1
                              have hP : va_P D vwCl ([(za, (b13_0 0 z1 (nI z2) (nI z3) z4 z5 z6 z7 z8 z9 (nI z10) z11 z12 z13 z14 z15 (nI zgw36) z17 z18 z19))] ++ va_pl L M_568) H_580 := hP
                              have hD : va_D A ([(za, (b13_0 0 z1 (nI z2) (nI z3) z4 z5 z6 z7 z8 z9 (nI z10) z11 z12 z13 z14 z15 (nI zgw36) z17 z18 z19))] ++ va_pl L M_568) := hD
                              obtain ⟨j_584, rfl, c_585⟩ := hp_583
                              refine lv_goto (tgt := 243) hx hb dX13_bear_233 (by decide) ?_
                              refine lv_iconst (v := 3) hx hb dX13_bear_243 (by decide) ?_
                              refine lv_aload hx hb dX13_bear_244 (lv_at hl 3 rfl) ?_
                              obtain ⟨v586, hv586, hc586⟩ : ∃ v : Nat, fs14[20]? = some (.ref v : Value) ∧ isk K L v 31 24 := hl14 20 (by decide)
                              refine pg_getN (D := D) (ci := 12) (v := .ref v586) (C := RX12) (T := TX12) (N := 51) hx hb hg inG12 hown hK hP hb_13.1 hM_570 rfl 20 (by decide) (hN.use (Cond.fieldLinkNest RX13 110 RX12 "where" "[I" RX13) 29 rfl rfl) (fun _ h9 => h9) hv586 dX13_bear_246 ?_
                              refine lv_iload hx hb dX13_bear_249 (lv_at hl 2 rfl) ?_
                              obtain ⟨f587, hM587, hf587⟩ := hW.open_31 hc586
                              have hi_588 : vp_in (nI v5w36) 24 := (inbN v5w36 24 (by omega) (by omega))
                              refine pg_iald hx hb hK hP hc586.1 0 hM587 rfl hi_588 dX13_bear_251 ?_
                              have hp_589 := hf587 _ (vp_lt hi_588)
                              obtain ⟨c_590, hc_591, ec_592⟩ := hp_589
                              rw [ec_592]
                              have hPc : va_P D vwCl ([] ++ va_pl L M_568) H_580 := hP.part (cx := []) [] rfl
                              have hDc : va_D A ([] ++ va_pl L M_568) := hD.part (cx := []) [] (by decide) rfl
                              have hFc : ∀ q, va_A ([] ++ va_pl L M_568) H_580.size q → A q := pg_free hDc hS hA
                              refine va_calli (va_runV (As := [.int (nI j_584), .int 3, .int (nI c_590)]) (rest := [.int (nI zgw36), .ref z12]) ⟨hx, hb, hml, hown, hg⟩ (r_X12_term l D cy K L M_568 H_580.size b11 j_584 3 c_590  hW hb_13 c_585 (by omega) hc_591) (cwV 3 hg (gV wd_770 wd_771 wd_772 wd_737 wd_773) rfl rfl rfl (by decide +kernel) ⟨(Nat.le_trans (Nat.le_of_ble_eq_true rfl) hRf), (Nat.le_trans (Nat.le_of_ble_eq_true rfl) hRl)⟩) ⟨PG.blind, pg_recv hK hP hb_13.1 hM_570 rfl, fun U hU hW => ⟨rfl, PG.at hPc hK hDc hN hU hW⟩⟩ rfl rfl hl.1 rfl (lv_room (Nat.le_of_ble_eq_true rfl)) dX13_bear_252 ⟨(Nat.le_trans (Nat.le_of_ble_eq_true rfl) hRc), (Nat.le_trans (Nat.le_of_ble_eq_true rfl) hRs)⟩) hS (fun q _ h => hFc q h) hFc (fun r_594 M_595 t H_593 locs ht hvm hw hB hz1 hk1 hS => ?_)
                              have hp_596 := hw
                              obtain ⟨hP1, hD1⟩ := hB
                              rw [ht] at hP1
                              obtain ⟨hP, hD⟩ := va_joinP (X := [(za, (b13_0 0 z1 (nI z2) (nI z3) z4 z5 z6 z7 z8 z9 (nI z10) z11 z12 z13 z14 z15 (nI zgw36) z17 z18 z19))]) (cx := []) (wr := [(za, (b13_0 0 z1 (nI z2) (nI z3) z4 z5 z6 z7 z8 z9 (nI z10) z11 z12 z13 z14 z15 (nI zgw36) z17 z18 z19))]) (rx := []) (pl := va_pl L M_568) (pl1 := va_pl L M_568) hP hD [] [0] rfl rfl (by decide) (by decide) hk1 hFc hP1 hD1
                              have hP : va_P D vwCl ([(za, (b13_0 0 z1 (nI z2) (nI z3) z4 z5 z6 z7 z8 z9 (nI z10) z11 z12 z13 z14 z15 (nI zgw36) z17 z18 z19))] ++ va_pl L M_568) H_593 := hP
                              have hD : va_D A ([(za, (b13_0 0 z1 (nI z2) (nI z3) z4 z5 z6 z7 z8 z9 (nI z10) z11 z12 z13 z14 z15 (nI zgw36) z17 z18 z19))] ++ va_pl L M_568) := hD
                              obtain ⟨f597, hM597⟩ := hW.open_14 i12
                              refine pg_iast hx hb hK hP hD hS i12.1 0 hM597 rfl (inbN zgw36 24 (by omega) (by omega)) dX13_bear_255 (fun H_598 locs hP hD hS => ?_)
                              obtain ⟨M_599, eM_599⟩ : ∃ M1 : Hp, M1 = va_up M_568 z12 (.inl (cy 14, 24, .inl (upd f597 ((nI zgw36) : Int32).toNatClampNeg r_594))) := ⟨_, rfl⟩
                              have hV : VW K L M M_599 b11 (fx M b11) (ax M b11) := by rw [eM_599]; exact hV.oth hW hb_13 i12 (by decide)
                              have hP : va_P D vwCl ([(za, (b13_0 0 z1 (nI z2) (nI z3) z4 z5 z6 z7 z8 z9 (nI z10) z11 z12 z13 z14 z15 (nI zgw36) z17 z18 z19))] ++ va_pl L M_599) H_598 := by rw [eM_599]; exact hP
                              have hD : va_D A ([(za, (b13_0 0 z1 (nI z2) (nI z3) z4 z5 z6 z7 z8 z9 (nI z10) z11 z12 z13 z14 z15 (nI zgw36) z17 z18 z19))] ++ va_pl L M_599) := by rw [eM_599]; exact hD
                              have hW : WOM cy K L M_599 := by rw [eM_599]; exact hW.up_14 i12 ⟨_, rfl⟩
                              have hF : fr K L [14, 15, 32, 97, 98, 99] M M_599 := by rw [eM_599]; exact hF.up i12 (by decide)
                              have hM_600 : M_599 z12 = .inl (cy 14, 24, .inl (upd f597 ((nI zgw36) : Int32).toNatClampNeg r_594)) := by rw [eM_599]; exact va_up_self _ _ _
                              have hM_601 : M_599 z11 = .inl (cy 14, 24, .inl (f_575)) := by rw [eM_599, va_up_ne _ _ (i11.neT i12 (by decide))]; exact hM_569
                              have hM_602 : M_599 b11 = .inr (12, fs14) := by rw [eM_599, va_up_ne _ _ (hb_13.neT i12 (by decide))]; exact hM_570
                              have hM_603 : M_599 v109 = .inl (cy 14, 24, .inl (f110)) := by rw [eM_599, va_up_ne _ _ (hc109.neT i12 (by decide))]; exact hM_571
                              have hM_604 : M_599 v359 = .inl (cy 14, 24, .inl (f360)) := by rw [eM_599, va_up_ne _ _ (hc359.neT i12 (by decide))]; exact hM_572
                              have hM_605 : M_599 v434 = .inl (cy 14, 24, .inl (f435)) := by rw [eM_599, va_up_ne _ _ (hc434.neT i12 (by decide))]; exact hM_573
                              have hM_606 : M_599 v496 = .inl (cy 16, 24, .inl (f497)) := by rw [eM_599, va_up_ne _ _ (hc496.neT i12 (by decide))]; exact hM_574
                              have hM_607 : M_599 v578 = .inl (cy 14, 16, .inl (f579)) := by rw [eM_599, va_up_ne _ _ (hc578.neT i12 (by decide))]; exact hM579
                              have hM_608 : M_599 v586 = .inl (cy 14, 24, .inl (f587)) := by rw [eM_599, va_up_ne _ _ (hc586.neT i12 (by decide))]; exact hM587
                              obtain ⟨f_609, ef_609⟩ : ∃ f : Nat → Int32, f = upd f597 ((nI zgw36) : Int32).toNatClampNeg r_594 := ⟨_, rfl⟩
                              rw [← ef_609] at hM_600
                              refine lv_aload_n hx hb dX13_bear_256 rfl (lv_at hl 4 rfl) ?_
                              refine va_get (D := D) (ci := 13) (v := .ref z13) (C := RX13) (T := TX13) (N := 20) hx hb hg inG13 hown hK hP 0 rfl rfl 13 (by decide) (hg _ wd_789) (fun _ h9 => h9) rfl dX13_bear_257 ?_
                              refine lv_aload_n hx hb dX13_bear_260 rfl (lv_at hl 4 rfl) ?_
                              refine va_get (D := D) (ci := 13) (v := .int (nI zgw36)) (C := RX13) (T := TX13) (N := 20) hx hb hg inG13 hown hK hP 0 rfl rfl 16 (by decide) (hg _ wd_769) (fun _ h9 => h9) rfl dX13_bear_261 ?_
                              refine lv_lconst (v := 0) hx hb dX13_bear_264 (by decide) ?_
                              obtain ⟨f610, hM610⟩ := hW.open_97 i13
                              refine pg_last hx hb hK hP hD hS i13.1 1 hM610 rfl (inbN zgw36 24 (by omega) (by omega)) dX13_bear_265 (fun H_611 locs hP hD hS => ?_)
                              obtain ⟨M_612, eM_612⟩ : ∃ M1 : Hp, M1 = va_up M_599 z13 (.inl (cy 15, 24, .inr (.inl (vp_updL f610 ((nI zgw36) : Int32).toNatClampNeg 0)))) := ⟨_, rfl⟩
                              have hV : VW K L M M_612 b11 (fx M b11) (ax M b11) := by rw [eM_612]; exact hV.oth hW hb_13 i13 (by decide)
                              have hP : va_P D vwCl ([(za, (b13_0 0 z1 (nI z2) (nI z3) z4 z5 z6 z7 z8 z9 (nI z10) z11 z12 z13 z14 z15 (nI zgw36) z17 z18 z19))] ++ va_pl L M_612) H_611 := by rw [eM_612]; exact hP
                              have hD : va_D A ([(za, (b13_0 0 z1 (nI z2) (nI z3) z4 z5 z6 z7 z8 z9 (nI z10) z11 z12 z13 z14 z15 (nI zgw36) z17 z18 z19))] ++ va_pl L M_612) := by rw [eM_612]; exact hD
                              have hW : WOM cy K L M_612 := by rw [eM_612]; exact hW.up_97 i13 ⟨_, rfl⟩
                              have hF : fr K L [14, 15, 32, 97, 98, 99] M M_612 := by rw [eM_612]; exact hF.up i13 (by decide)
                              have hM_613 : M_612 z13 = .inl (cy 15, 24, .inr (.inl (vp_updL f610 ((nI zgw36) : Int32).toNatClampNeg 0))) := by rw [eM_612]; exact va_up_self _ _ _
                              have hM_614 : M_612 z12 = .inl (cy 14, 24, .inl (f_609)) := by rw [eM_612, va_up_ne _ _ (i12.neT i13 (by decide))]; exact hM_600
                              have hM_615 : M_612 z11 = .inl (cy 14, 24, .inl (f_575)) := by rw [eM_612, va_up_ne _ _ (i11.neT i13 (by decide))]; exact hM_601
                              have hM_616 : M_612 b11 = .inr (12, fs14) := by rw [eM_612, va_up_ne _ _ (hb_13.neT i13 (by decide))]; exact hM_602
                              have hM_617 : M_612 v109 = .inl (cy 14, 24, .inl (f110)) := by rw [eM_612, va_up_ne _ _ (hc109.neT i13 (by decide))]; exact hM_603
                              have hM_618 : M_612 v359 = .inl (cy 14, 24, .inl (f360)) := by rw [eM_612, va_up_ne _ _ (hc359.neT i13 (by decide))]; exact hM_604
                              have hM_619 : M_612 v434 = .inl (cy 14, 24, .inl (f435)) := by rw [eM_612, va_up_ne _ _ (hc434.neT i13 (by decide))]; exact hM_605
                              have hM_620 : M_612 v496 = .inl (cy 16, 24, .inl (f497)) := by rw [eM_612, va_up_ne _ _ (hc496.neT i13 (by decide))]; exact hM_606
                              have hM_621 : M_612 v578 = .inl (cy 14, 16, .inl (f579)) := by rw [eM_612, va_up_ne _ _ (hc578.neT i13 (by decide))]; exact hM_607
                              have hM_622 : M_612 v586 = .inl (cy 14, 24, .inl (f587)) := by rw [eM_612, va_up_ne _ _ (hc586.neT i13 (by decide))]; exact hM_608
                              obtain ⟨f_623, ef_623⟩ : ∃ f : Nat → Int64, f = vp_updL f610 ((nI zgw36) : Int32).toNatClampNeg 0 := ⟨_, rfl⟩
                              rw [← ef_623] at hM_613
                              refine lv_aload_n hx hb dX13_bear_266 rfl (lv_at hl 4 rfl) ?_
                              refine lv_dup hx hb dX13_bear_267 rfl ?_
                              refine va_get (D := D) (ci := 13) (v := .int (nI zgw36)) (C := RX13) (T := TX13) (N := 20) hx hb hg inG13 hown hK hP 0 rfl rfl 16 (by decide) (hg _ wd_769) (fun _ h9 => h9) rfl dX13_bear_268 ?_
                              refine lv_iconst (v := 1) hx hb dX13_bear_271 (by decide) ?_
                              refine lv_iadd hx hb dX13_bear_272 ?_
                              refine lv_topi (fun f_624 ef_624 => ?_)
                              obtain rfl : f_624 = (nI (zgw36 + 1)) := ef_624.trans (nI_add zgw36 1)
                              refine va_put (D := D) (ci := 13) (v := .int (nI (zgw36 + 1))) (ty := .int) (C := RX13) (T := TX13) (N := 20) hx hb hg inG13 tyX13 tyX13_ok nmX13 hown hK hP hD hS 0 rfl rfl 16 (by decide) (hg _ wd_769) (fun _ h9 => h9) rfl (by decide +kernel) rfl rfl (Nat.le_of_ble_eq_true rfl) dX13_bear_273 (fun H_625 locs hP hD hS => ?_)
                              have hP : va_P D vwCl ([(za, (b13_0 0 z1 (nI z2) (nI z3) z4 z5 z6 z7 z8 z9 (nI z10) z11 z12 z13 z14 z15 (nI (zgw36 + 1)) z17 z18 z19))] ++ va_pl L M_612) H_625 := hP
                              have hD : va_D A ([(za, (b13_0 0 z1 (nI z2) (nI z3) z4 z5 z6 z7 z8 z9 (nI z10) z11 z12 z13 z14 z15 (nI (zgw36 + 1)) z17 z18 z19))] ++ va_pl L M_612) := hD
                              refine lv_iinc (v := (nI (v5w36 + 1))) (lv' := [(5, .int (nI (v5w36 + 1))), (7, .int 0), (6, .int 1), (4, .ref b11), (0, .ref za), (1, .int k1), (2, .int k2), (3, .int k3)]) hx hb dX13_bear_276 hl (k := 2) rfl (nI_1 v5w36) (by decide) rfl (fun ls hl => ?_)
                              refine lv_goto (tgt := 82) hx hb dX13_bear_279 (by decide) ?_
                              exact ih_34 (v5w36 + 1) (zgw36 + 1) M_612 H_625 _ _ (by omega) hM_616 (by omega) (by omega) hW hF hV hP hD hS (lv_sub hl [0, 3, 4, 5, 6, 7] rfl)
                            · have hz := rfl (a := 0)
                              refine lv_iconst (v := 1) hx hb dX13_bear_181 (by decide) ?_
                              refine lv_goto (tgt := 186) hx hb dX13_bear_182 (by decide) ?_
                              refine lv_istore (lv' := [(7, .int 1), (6, .int 1), (5, .int (nI v5w36)), (4, .ref b11), (0, .ref za), (1, .int k1), (2, .int k2), (3, .int k3)]) hx hb dX13_bear_186 hl (by decide) rfl (fun ls hl => ?_)
                              refine lv_iload hx hb dX13_bear_188 (lv_at hl 1 rfl) ?_
                              refine lv_if_ne (tgt := 201) hx hb dX13_bear_190 (by decide) (fun _ => ?_) (fun c_626 => absurd c_626 (by decide))
                              refine lv_aload_n hx hb dX13_bear_201 rfl (lv_at hl 4 rfl) ?_
                              refine va_get (D := D) (ci := 13) (v := .ref z11) (C := RX13) (T := TX13) (N := 20) hx hb hg inG13 hown hK hP 0 rfl rfl 11 (by decide) (hg _ wd_764) (fun _ h9 => h9) rfl dX13_bear_202 ?_
                              refine lv_aload_n hx hb dX13_bear_205 rfl (lv_at hl 4 rfl) ?_
                              refine va_get (D := D) (ci := 13) (v := .int (nI zgw36)) (C := RX13) (T := TX13) (N := 20) hx hb hg inG13 hown hK hP 0 rfl rfl 16 (by decide) (hg _ wd_769) (fun _ h9 => h9) rfl dX13_bear_206 ?_
                              refine lv_iload hx hb dX13_bear_209 (lv_at hl 2 rfl) ?_
                              obtain ⟨f627, hM627, hf627⟩ := hW.open_32 i11
                              refine pg_iast hx hb hK hP hD hS i11.1 0 hM627 rfl (inbN zgw36 24 (by omega) (by omega)) dX13_bear_211 (fun H_628 locs hP hD hS => ?_)
                              obtain ⟨M_629, eM_629⟩ : ∃ M1 : Hp, M1 = va_up M_39 z11 (.inl (cy 14, 24, .inl (upd f627 ((nI zgw36) : Int32).toNatClampNeg (nI v5w36)))) := ⟨_, rfl⟩
                              have hV : VW K L M M_629 b11 (fx M b11) (ax M b11) := by rw [eM_629]; exact hV.oth hW hb_13 i11 (by decide)
                              have hP : va_P D vwCl ([(za, (b13_0 0 z1 (nI z2) (nI z3) z4 z5 z6 z7 z8 z9 (nI z10) z11 z12 z13 z14 z15 (nI zgw36) z17 z18 z19))] ++ va_pl L M_629) H_628 := by rw [eM_629]; exact hP
                              have hD : va_D A ([(za, (b13_0 0 z1 (nI z2) (nI z3) z4 z5 z6 z7 z8 z9 (nI z10) z11 z12 z13 z14 z15 (nI zgw36) z17 z18 z19))] ++ va_pl L M_629) := by rw [eM_629]; exact hD
                              have hW : WOM cy K L M_629 := by rw [eM_629]; exact hW.up_32 i11 ⟨_, rfl, (updP (P := fun z => ∃ c : Nat, c < 24 ∧ z = nI c) hf627 ⟨v5w36, by omega, rfl⟩)⟩
                              have hF : fr K L [14, 15, 32, 97, 98, 99] M M_629 := by rw [eM_629]; exact hF.up i11 (by decide)
                              have hM_630 : M_629 z11 = .inl (cy 14, 24, .inl (upd f627 ((nI zgw36) : Int32).toNatClampNeg (nI v5w36))) := by rw [eM_629]; exact va_up_self _ _ _
                              have hM_631 : M_629 b11 = .inr (12, fs14) := by rw [eM_629, va_up_ne _ _ (hb_13.neT i11 (by decide))]; exact hM_41
                              have hM_632 : M_629 v109 = .inl (cy 14, 24, .inl (f110)) := by rw [eM_629, va_up_ne _ _ (hc109.neT i11 (by decide))]; exact hM110
                              have hM_633 : M_629 v359 = .inl (cy 14, 24, .inl (f360)) := by rw [eM_629, va_up_ne _ _ (hc359.neT i11 (by decide))]; exact hM360
                              have hM_634 : M_629 v434 = .inl (cy 14, 24, .inl (f435)) := by rw [eM_629, va_up_ne _ _ (hc434.neT i11 (by decide))]; exact hM435
                              have hM_635 : M_629 v496 = .inl (cy 16, 24, .inl (f497)) := by rw [eM_629, va_up_ne _ _ (hc496.neT i11 (by decide))]; exact hM497
                              have hf_637 : ∀ j, j < 24 → ∃ c : Nat, c < 24 ∧ (upd f627 ((nI zgw36) : Int32).toNatClampNeg (nI v5w36)) j = nI c := (updP (P := fun z => ∃ c : Nat, c < 24 ∧ z = nI c) hf627 ⟨v5w36, by omega, rfl⟩)
                              obtain ⟨f_636, ef_636⟩ : ∃ f : Nat → Int32, f = upd f627 ((nI zgw36) : Int32).toNatClampNeg (nI v5w36) := ⟨_, rfl⟩
                              rw [← ef_636] at hM_630 hf_637
                              refine lv_aload_n hx hb dX13_bear_212 rfl (lv_at hl 4 rfl) ?_
                              refine va_get (D := D) (ci := 13) (v := .ref z12) (C := RX13) (T := TX13) (N := 20) hx hb hg inG13 hown hK hP 0 rfl rfl 12 (by decide) (hg _ wd_763) (fun _ h9 => h9) rfl dX13_bear_213 ?_
                              refine lv_aload_n hx hb dX13_bear_216 rfl (lv_at hl 4 rfl) ?_
                              refine va_get (D := D) (ci := 13) (v := .int (nI zgw36)) (C := RX13) (T := TX13) (N := 20) hx hb hg inG13 hown hK hP 0 rfl rfl 16 (by decide) (hg _ wd_769) (fun _ h9 => h9) rfl dX13_bear_217 ?_
                              refine lv_aload hx hb dX13_bear_220 (lv_at hl 3 rfl) ?_
                              refine lv_iload hx hb dX13_bear_222 (lv_at hl 1 rfl) ?_
                              refine lv_if_eq (tgt := 236) hx hb dX13_bear_224 (by decide) (fun c_638 => absurd c_638 (by decide)) (fun _ => ?_)
                              refine lv_aload hx hb dX13_bear_227 (lv_at hl 3 rfl) ?_
                              refine lv_iload_n hx hb dX13_bear_229 rfl (lv_at hl 6 rfl) ?_
                              have hPc : va_P D vwCl ([] ++ va_pl L M_629) H_628 := hP.part (cx := []) [] rfl
                              have hDc : va_D A ([] ++ va_pl L M_629) := hD.part (cx := []) [] (by decide) rfl
                              have hFc : ∀ q, va_A ([] ++ va_pl L M_629) H_628.size q → A q := pg_free hDc hS hA
                              have hx0 : (fx M b11 0) = ((v24 : Nat) : Int) := (congrFun hV.2.1 0).symm.trans ((fx_of hM_631 rfl hv24).trans (nI_toInt (by omega)))
                              have hx11 : (fx M b11 11) = ((v15 : Nat) : Int) := (congrFun hV.2.1 11).symm.trans ((fx_of hM_631 rfl hv15).trans (nI_toInt (by omega)))
                              obtain ⟨v639, hv639, hc639⟩ : ∃ v : Nat, fs14[34]? = some (.ref v : Value) ∧ isk K L v 43 16 := hl14 34 (by decide)
                              obtain ⟨f640, hM640⟩ := hW.open_43 hc639
                              have hy34 : (ax M b11 34) = f640 := (congrFun hV.2.2.1 34).symm.trans (ax_of hM_631 (by decide) hv639 hM640)
                              refine va_calli (va_runV (As := [.int k2]) (rest := [.ref b11, .int (nI zgw36), .ref z12]) ⟨hx, hb, hml, hown, hg⟩ (r_ruleOnP l D cy K L M_629 H_628.size b11 k2  hW hb_13 ⟨_, _, _, _, hM_631, hv15, by omega, by omega, hv639, hc639, hM640, rldp hy34 (hAT.2.2.2.1.1 (by omega)) (by rw [hx0]; exact geI c_25 (by omega))⟩) (cwV 1 hg (gV wd_815 wd_816 wd_817 wd_737 wd_818) rfl rfl rfl (by decide +kernel) ⟨(Nat.le_trans (Nat.le_of_ble_eq_true rfl) hRf), (Nat.le_trans (Nat.le_of_ble_eq_true rfl) hRl)⟩) ⟨PG.blind, pg_recv hK hP hb_13.1 hM_631 rfl, fun U hU hW => ⟨rfl, PG.at hPc hK hDc hN hU hW⟩⟩ rfl rfl hl.1 rfl (lv_room (Nat.le_of_ble_eq_true rfl)) dX13_bear_230 ⟨(Nat.le_trans (Nat.le_of_ble_eq_true rfl) hRc), (Nat.le_trans (Nat.le_of_ble_eq_true rfl) hRs)⟩) hS (fun q _ h => hFc q h) hFc (fun r_642 M_643 t H_641 locs ht hvm hw hB hz1 hk1 hS => ?_)
                              have hp_644 := hw
                              obtain ⟨hP1, hD1⟩ := hB
                              rw [ht] at hP1
                              obtain ⟨hP, hD⟩ := va_joinP (X := [(za, (b13_0 0 z1 (nI z2) (nI z3) z4 z5 z6 z7 z8 z9 (nI z10) z11 z12 z13 z14 z15 (nI zgw36) z17 z18 z19))]) (cx := []) (wr := [(za, (b13_0 0 z1 (nI z2) (nI z3) z4 z5 z6 z7 z8 z9 (nI z10) z11 z12 z13 z14 z15 (nI zgw36) z17 z18 z19))]) (rx := []) (pl := va_pl L M_629) (pl1 := va_pl L M_629) hP hD [] [0] rfl rfl (by decide) (by decide) hk1 hFc hP1 hD1
                              have hP : va_P D vwCl ([(za, (b13_0 0 z1 (nI z2) (nI z3) z4 z5 z6 z7 z8 z9 (nI z10) z11 z12 z13 z14 z15 (nI zgw36) z17 z18 z19))] ++ va_pl L M_629) H_641 := hP
                              have hD : va_D A ([(za, (b13_0 0 z1 (nI z2) (nI z3) z4 z5 z6 z7 z8 z9 (nI z10) z11 z12 z13 z14 z15 (nI zgw36) z17 z18 z19))] ++ va_pl L M_629) := hD
                              obtain ⟨j_645, rfl, c_646⟩ := hp_644
                              refine lv_goto (tgt := 243) hx hb dX13_bear_233 (by decide) ?_
                              refine lv_iconst (v := 3) hx hb dX13_bear_243 (by decide) ?_
                              refine lv_aload hx hb dX13_bear_244 (lv_at hl 3 rfl) ?_
                              obtain ⟨v647, hv647, hc647⟩ : ∃ v : Nat, fs14[20]? = some (.ref v : Value) ∧ isk K L v 31 24 := hl14 20 (by decide)
                              refine pg_getN (D := D) (ci := 12) (v := .ref v647) (C := RX12) (T := TX12) (N := 51) hx hb hg inG12 hown hK hP hb_13.1 hM_631 rfl 20 (by decide) (hN.use (Cond.fieldLinkNest RX13 110 RX12 "where" "[I" RX13) 29 rfl rfl) (fun _ h9 => h9) hv647 dX13_bear_246 ?_
                              refine lv_iload hx hb dX13_bear_249 (lv_at hl 2 rfl) ?_
                              obtain ⟨f648, hM648, hf648⟩ := hW.open_31 hc647
                              have hi_649 : vp_in (nI v5w36) 24 := (inbN v5w36 24 (by omega) (by omega))
                              refine pg_iald hx hb hK hP hc647.1 0 hM648 rfl hi_649 dX13_bear_251 ?_
                              have hp_650 := hf648 _ (vp_lt hi_649)
                              obtain ⟨c_651, hc_652, ec_653⟩ := hp_650
                              rw [ec_653]
                              have hPc : va_P D vwCl ([] ++ va_pl L M_629) H_641 := hP.part (cx := []) [] rfl
                              have hDc : va_D A ([] ++ va_pl L M_629) := hD.part (cx := []) [] (by decide) rfl
                              have hFc : ∀ q, va_A ([] ++ va_pl L M_629) H_641.size q → A q := pg_free hDc hS hA
                              refine va_calli (va_runV (As := [.int (nI j_645), .int 3, .int (nI c_651)]) (rest := [.int (nI zgw36), .ref z12]) ⟨hx, hb, hml, hown, hg⟩ (r_X12_term l D cy K L M_629 H_641.size b11 j_645 3 c_651  hW hb_13 c_646 (by omega) hc_652) (cwV 3 hg (gV wd_770 wd_771 wd_772 wd_737 wd_773) rfl rfl rfl (by decide +kernel) ⟨(Nat.le_trans (Nat.le_of_ble_eq_true rfl) hRf), (Nat.le_trans (Nat.le_of_ble_eq_true rfl) hRl)⟩) ⟨PG.blind, pg_recv hK hP hb_13.1 hM_631 rfl, fun U hU hW => ⟨rfl, PG.at hPc hK hDc hN hU hW⟩⟩ rfl rfl hl.1 rfl (lv_room (Nat.le_of_ble_eq_true rfl)) dX13_bear_252 ⟨(Nat.le_trans (Nat.le_of_ble_eq_true rfl) hRc), (Nat.le_trans (Nat.le_of_ble_eq_true rfl) hRs)⟩) hS (fun q _ h => hFc q h) hFc (fun r_655 M_656 t H_654 locs ht hvm hw hB hz1 hk1 hS => ?_)
                              have hp_657 := hw
                              obtain ⟨hP1, hD1⟩ := hB
                              rw [ht] at hP1
                              obtain ⟨hP, hD⟩ := va_joinP (X := [(za, (b13_0 0 z1 (nI z2) (nI z3) z4 z5 z6 z7 z8 z9 (nI z10) z11 z12 z13 z14 z15 (nI zgw36) z17 z18 z19))]) (cx := []) (wr := [(za, (b13_0 0 z1 (nI z2) (nI z3) z4 z5 z6 z7 z8 z9 (nI z10) z11 z12 z13 z14 z15 (nI zgw36) z17 z18 z19))]) (rx := []) (pl := va_pl L M_629) (pl1 := va_pl L M_629) hP hD [] [0] rfl rfl (by decide) (by decide) hk1 hFc hP1 hD1
                              have hP : va_P D vwCl ([(za, (b13_0 0 z1 (nI z2) (nI z3) z4 z5 z6 z7 z8 z9 (nI z10) z11 z12 z13 z14 z15 (nI zgw36) z17 z18 z19))] ++ va_pl L M_629) H_654 := hP
                              have hD : va_D A ([(za, (b13_0 0 z1 (nI z2) (nI z3) z4 z5 z6 z7 z8 z9 (nI z10) z11 z12 z13 z14 z15 (nI zgw36) z17 z18 z19))] ++ va_pl L M_629) := hD
                              obtain ⟨f658, hM658⟩ := hW.open_14 i12
                              refine pg_iast hx hb hK hP hD hS i12.1 0 hM658 rfl (inbN zgw36 24 (by omega) (by omega)) dX13_bear_255 (fun H_659 locs hP hD hS => ?_)
                              obtain ⟨M_660, eM_660⟩ : ∃ M1 : Hp, M1 = va_up M_629 z12 (.inl (cy 14, 24, .inl (upd f658 ((nI zgw36) : Int32).toNatClampNeg r_655))) := ⟨_, rfl⟩
                              have hV : VW K L M M_660 b11 (fx M b11) (ax M b11) := by rw [eM_660]; exact hV.oth hW hb_13 i12 (by decide)
                              have hP : va_P D vwCl ([(za, (b13_0 0 z1 (nI z2) (nI z3) z4 z5 z6 z7 z8 z9 (nI z10) z11 z12 z13 z14 z15 (nI zgw36) z17 z18 z19))] ++ va_pl L M_660) H_659 := by rw [eM_660]; exact hP
                              have hD : va_D A ([(za, (b13_0 0 z1 (nI z2) (nI z3) z4 z5 z6 z7 z8 z9 (nI z10) z11 z12 z13 z14 z15 (nI zgw36) z17 z18 z19))] ++ va_pl L M_660) := by rw [eM_660]; exact hD
                              have hW : WOM cy K L M_660 := by rw [eM_660]; exact hW.up_14 i12 ⟨_, rfl⟩
                              have hF : fr K L [14, 15, 32, 97, 98, 99] M M_660 := by rw [eM_660]; exact hF.up i12 (by decide)
                              have hM_661 : M_660 z12 = .inl (cy 14, 24, .inl (upd f658 ((nI zgw36) : Int32).toNatClampNeg r_655)) := by rw [eM_660]; exact va_up_self _ _ _
                              have hM_662 : M_660 z11 = .inl (cy 14, 24, .inl (f_636)) := by rw [eM_660, va_up_ne _ _ (i11.neT i12 (by decide))]; exact hM_630
                              have hM_663 : M_660 b11 = .inr (12, fs14) := by rw [eM_660, va_up_ne _ _ (hb_13.neT i12 (by decide))]; exact hM_631
                              have hM_664 : M_660 v109 = .inl (cy 14, 24, .inl (f110)) := by rw [eM_660, va_up_ne _ _ (hc109.neT i12 (by decide))]; exact hM_632
                              have hM_665 : M_660 v359 = .inl (cy 14, 24, .inl (f360)) := by rw [eM_660, va_up_ne _ _ (hc359.neT i12 (by decide))]; exact hM_633
                              have hM_666 : M_660 v434 = .inl (cy 14, 24, .inl (f435)) := by rw [eM_660, va_up_ne _ _ (hc434.neT i12 (by decide))]; exact hM_634
                              have hM_667 : M_660 v496 = .inl (cy 16, 24, .inl (f497)) := by rw [eM_660, va_up_ne _ _ (hc496.neT i12 (by decide))]; exact hM_635
                              have hM_668 : M_660 v639 = .inl (cy 14, 16, .inl (f640)) := by rw [eM_660, va_up_ne _ _ (hc639.neT i12 (by decide))]; exact hM640
                              have hM_669 : M_660 v647 = .inl (cy 14, 24, .inl (f648)) := by rw [eM_660, va_up_ne _ _ (hc647.neT i12 (by decide))]; exact hM648
                              obtain ⟨f_670, ef_670⟩ : ∃ f : Nat → Int32, f = upd f658 ((nI zgw36) : Int32).toNatClampNeg r_655 := ⟨_, rfl⟩
                              rw [← ef_670] at hM_661
                              refine lv_aload_n hx hb dX13_bear_256 rfl (lv_at hl 4 rfl) ?_
                              refine va_get (D := D) (ci := 13) (v := .ref z13) (C := RX13) (T := TX13) (N := 20) hx hb hg inG13 hown hK hP 0 rfl rfl 13 (by decide) (hg _ wd_789) (fun _ h9 => h9) rfl dX13_bear_257 ?_
                              refine lv_aload_n hx hb dX13_bear_260 rfl (lv_at hl 4 rfl) ?_
                              refine va_get (D := D) (ci := 13) (v := .int (nI zgw36)) (C := RX13) (T := TX13) (N := 20) hx hb hg inG13 hown hK hP 0 rfl rfl 16 (by decide) (hg _ wd_769) (fun _ h9 => h9) rfl dX13_bear_261 ?_
                              refine lv_lconst (v := 0) hx hb dX13_bear_264 (by decide) ?_
                              obtain ⟨f671, hM671⟩ := hW.open_97 i13
                              refine pg_last hx hb hK hP hD hS i13.1 1 hM671 rfl (inbN zgw36 24 (by omega) (by omega)) dX13_bear_265 (fun H_672 locs hP hD hS => ?_)
                              obtain ⟨M_673, eM_673⟩ : ∃ M1 : Hp, M1 = va_up M_660 z13 (.inl (cy 15, 24, .inr (.inl (vp_updL f671 ((nI zgw36) : Int32).toNatClampNeg 0)))) := ⟨_, rfl⟩
                              have hV : VW K L M M_673 b11 (fx M b11) (ax M b11) := by rw [eM_673]; exact hV.oth hW hb_13 i13 (by decide)
                              have hP : va_P D vwCl ([(za, (b13_0 0 z1 (nI z2) (nI z3) z4 z5 z6 z7 z8 z9 (nI z10) z11 z12 z13 z14 z15 (nI zgw36) z17 z18 z19))] ++ va_pl L M_673) H_672 := by rw [eM_673]; exact hP
                              have hD : va_D A ([(za, (b13_0 0 z1 (nI z2) (nI z3) z4 z5 z6 z7 z8 z9 (nI z10) z11 z12 z13 z14 z15 (nI zgw36) z17 z18 z19))] ++ va_pl L M_673) := by rw [eM_673]; exact hD
                              have hW : WOM cy K L M_673 := by rw [eM_673]; exact hW.up_97 i13 ⟨_, rfl⟩
                              have hF : fr K L [14, 15, 32, 97, 98, 99] M M_673 := by rw [eM_673]; exact hF.up i13 (by decide)
                              have hM_674 : M_673 z13 = .inl (cy 15, 24, .inr (.inl (vp_updL f671 ((nI zgw36) : Int32).toNatClampNeg 0))) := by rw [eM_673]; exact va_up_self _ _ _
                              have hM_675 : M_673 z12 = .inl (cy 14, 24, .inl (f_670)) := by rw [eM_673, va_up_ne _ _ (i12.neT i13 (by decide))]; exact hM_661
                              have hM_676 : M_673 z11 = .inl (cy 14, 24, .inl (f_636)) := by rw [eM_673, va_up_ne _ _ (i11.neT i13 (by decide))]; exact hM_662
                              have hM_677 : M_673 b11 = .inr (12, fs14) := by rw [eM_673, va_up_ne _ _ (hb_13.neT i13 (by decide))]; exact hM_663
                              have hM_678 : M_673 v109 = .inl (cy 14, 24, .inl (f110)) := by rw [eM_673, va_up_ne _ _ (hc109.neT i13 (by decide))]; exact hM_664
                              have hM_679 : M_673 v359 = .inl (cy 14, 24, .inl (f360)) := by rw [eM_673, va_up_ne _ _ (hc359.neT i13 (by decide))]; exact hM_665
                              have hM_680 : M_673 v434 = .inl (cy 14, 24, .inl (f435)) := by rw [eM_673, va_up_ne _ _ (hc434.neT i13 (by decide))]; exact hM_666
                              have hM_681 : M_673 v496 = .inl (cy 16, 24, .inl (f497)) := by rw [eM_673, va_up_ne _ _ (hc496.neT i13 (by decide))]; exact hM_667
                              have hM_682 : M_673 v639 = .inl (cy 14, 16, .inl (f640)) := by rw [eM_673, va_up_ne _ _ (hc639.neT i13 (by decide))]; exact hM_668
                              have hM_683 : M_673 v647 = .inl (cy 14, 24, .inl (f648)) := by rw [eM_673, va_up_ne _ _ (hc647.neT i13 (by decide))]; exact hM_669
                              obtain ⟨f_684, ef_684⟩ : ∃ f : Nat → Int64, f = vp_updL f671 ((nI zgw36) : Int32).toNatClampNeg 0 := ⟨_, rfl⟩
                              rw [← ef_684] at hM_674
                              refine lv_aload_n hx hb dX13_bear_266 rfl (lv_at hl 4 rfl) ?_
                              refine lv_dup hx hb dX13_bear_267 rfl ?_
                              refine va_get (D := D) (ci := 13) (v := .int (nI zgw36)) (C := RX13) (T := TX13) (N := 20) hx hb hg inG13 hown hK hP 0 rfl rfl 16 (by decide) (hg _ wd_769) (fun _ h9 => h9) rfl dX13_bear_268 ?_
                              refine lv_iconst (v := 1) hx hb dX13_bear_271 (by decide) ?_
                              refine lv_iadd hx hb dX13_bear_272 ?_
                              refine lv_topi (fun f_685 ef_685 => ?_)
                              obtain rfl : f_685 = (nI (zgw36 + 1)) := ef_685.trans (nI_add zgw36 1)
                              refine va_put (D := D) (ci := 13) (v := .int (nI (zgw36 + 1))) (ty := .int) (C := RX13) (T := TX13) (N := 20) hx hb hg inG13 tyX13 tyX13_ok nmX13 hown hK hP hD hS 0 rfl rfl 16 (by decide) (hg _ wd_769) (fun _ h9 => h9) rfl (by decide +kernel) rfl rfl (Nat.le_of_ble_eq_true rfl) dX13_bear_273 (fun H_686 locs hP hD hS => ?_)
                              have hP : va_P D vwCl ([(za, (b13_0 0 z1 (nI z2) (nI z3) z4 z5 z6 z7 z8 z9 (nI z10) z11 z12 z13 z14 z15 (nI (zgw36 + 1)) z17 z18 z19))] ++ va_pl L M_673) H_686 := hP
                              have hD : va_D A ([(za, (b13_0 0 z1 (nI z2) (nI z3) z4 z5 z6 z7 z8 z9 (nI z10) z11 z12 z13 z14 z15 (nI (zgw36 + 1)) z17 z18 z19))] ++ va_pl L M_673) := hD
                              refine lv_iinc (v := (nI (v5w36 + 1))) (lv' := [(5, .int (nI (v5w36 + 1))), (7, .int 1), (6, .int 1), (4, .ref b11), (0, .ref za), (1, .int k1), (2, .int k2), (3, .int k3)]) hx hb dX13_bear_276 hl (k := 2) rfl (nI_1 v5w36) (by decide) rfl (fun ls hl => ?_)
                              refine lv_goto (tgt := 82) hx hb dX13_bear_279 (by decide) ?_
                              exact ih_34 (v5w36 + 1) (zgw36 + 1) M_673 H_686 _ _ (by omega) hM_677 (by omega) (by omega) hW hF hV hP hD hS (lv_sub hl [0, 3, 4, 5, 6, 7] rfl)
                  · have hz := rfl (a := 0)
                    refine lv_if_eq (tgt := 143) hx hb dX13_bear_100 (by decide) (fun _ => ?_) (fun c_687 => absurd c_687 (by decide))
                    refine lv_iconst (v := 0) hx hb dX13_bear_143 (by decide) ?_
                    refine lv_istore (lv' := [(6, .int 0), (5, .int (nI v5w36)), (4, .ref b11), (0, .ref za), (1, .int k1), (2, .int k2), (3, .int k3)]) hx hb dX13_bear_144 hl (by decide) rfl (fun ls hl => ?_)
                    refine lv_aload hx hb dX13_bear_146 (lv_at hl 2 rfl) ?_
                    obtain ⟨v688, hv688, hc688⟩ : ∃ v : Nat, fs14[21]? = some (.ref v : Value) ∧ isk K L v 75 24 := hl14 21 (by decide)
                    refine pg_getN (D := D) (ci := 12) (v := .ref v688) (C := RX12) (T := TX12) (N := 51) hx hb hg inG12 hown hK hP hb_13.1 hM_41 rfl 21 (by decide) (hN.use (Cond.fieldLinkNest RX13 112 RX12 "begin" "[I" RX13) 30 rfl rfl) (fun _ h9 => h9) hv688 dX13_bear_148 ?_
                    refine lv_iload hx hb dX13_bear_151 (lv_at hl 1 rfl) ?_
                    obtain ⟨f689, hM689⟩ := hW.open_75 hc688
                    refine pg_iald hx hb hK hP hc688.1 0 hM689 rfl (inbN v5w36 24 (by omega) (by omega)) dX13_bear_153 ?_
                    refine lv_topi (fun f_690 ef_690 => ?_)
                    refine lv_iload_n hx hb dX13_bear_154 rfl (lv_at hl 5 rfl) ?_
                    refine lv_icmp_le (tgt := 185) hx hb dX13_bear_155 (by decide) (fun c_691 => ?_) (fun c_691 => ?_)
                    · have hz := rfl (a := 0)
                      refine lv_iconst (v := 0) hx hb dX13_bear_185 (by decide) ?_
                      refine lv_istore (lv' := [(7, .int 0), (6, .int 0), (5, .int (nI v5w36)), (4, .ref b11), (0, .ref za), (1, .int k1), (2, .int k2), (3, .int k3)]) hx hb dX13_bear_186 hl (by decide) rfl (fun ls hl => ?_)
                      refine lv_iload hx hb dX13_bear_188 (lv_at hl 1 rfl) ?_
                      refine lv_if_ne (tgt := 201) hx hb dX13_bear_190 (by decide) (fun c_692 => absurd c_692 (by decide)) (fun _ => ?_)
                      refine lv_iload hx hb dX13_bear_193 (lv_at hl 0 rfl) ?_
                      refine lv_if_ne (tgt := 201) hx hb dX13_bear_195 (by decide) (fun c_693 => absurd c_693 (by decide)) (fun _ => ?_)
                      refine lv_goto (tgt := 276) hx hb dX13_bear_198 (by decide) ?_
                      refine lv_iinc (v := (nI (v5w36 + 1))) (lv' := [(5, .int (nI (v5w36 + 1))), (7, .int 0), (6, .int 0), (4, .ref b11), (0, .ref za), (1, .int k1), (2, .int k2), (3, .int k3)]) hx hb dX13_bear_276 hl (k := 2) rfl (nI_1 v5w36) (by decide) rfl (fun ls hl => ?_)
                      refine lv_goto (tgt := 82) hx hb dX13_bear_279 (by decide) ?_
                      exact ih_34 (v5w36 + 1) zgw36 M_39 H_104 _ _ (by omega) hM_41 (by omega) (by omega) hW hF hV hP hD hS (lv_sub hl [0, 3, 4, 5, 6, 7] rfl)
                    · have hz := rfl (a := 0)
                      refine lv_aload hx hb dX13_bear_158 (lv_at hl 2 rfl) ?_
                      obtain ⟨v694, hv694, hc694⟩ : ∃ v : Nat, fs14[26]? = some (.ref v : Value) ∧ isk K L v 16 24 := hl14 26 (by decide)
                      refine pg_getN (D := D) (ci := 12) (v := .ref v694) (C := RX12) (T := TX12) (N := 51) hx hb hg inG12 hown hK hP hb_13.1 hM_41 rfl 26 (by decide) (hN.use (Cond.fieldLinkNest RX13 124 RX12 "word" "[Z" RX13) 35 rfl rfl) (fun _ h9 => h9) hv694 dX13_bear_160 ?_
                      refine lv_iload hx hb dX13_bear_163 (lv_at hl 1 rfl) ?_
                      obtain ⟨f695, hM695, hf695⟩ := hW.open_16 hc694
                      have hi_696 : vp_in (nI v5w36) 24 := (inbN v5w36 24 (by omega) (by omega))
                      refine pg_zald hx hb hK hP hc694.1 2 hM695 rfl hi_696 dX13_bear_165 ?_
                      rcases hf695 _ (vp_lt hi_696) with ec_697 | ec_697
                      · rw [ec_697]
                        refine lv_if_eq (tgt := 185) hx hb dX13_bear_166 (by decide) (fun _ => ?_) (fun c_698 => absurd c_698 (by decide))
                        refine lv_iconst (v := 0) hx hb dX13_bear_185 (by decide) ?_
                        refine lv_istore (lv' := [(7, .int 0), (6, .int 0), (5, .int (nI v5w36)), (4, .ref b11), (0, .ref za), (1, .int k1), (2, .int k2), (3, .int k3)]) hx hb dX13_bear_186 hl (by decide) rfl (fun ls hl => ?_)
                        refine lv_iload hx hb dX13_bear_188 (lv_at hl 1 rfl) ?_
                        refine lv_if_ne (tgt := 201) hx hb dX13_bear_190 (by decide) (fun c_699 => absurd c_699 (by decide)) (fun _ => ?_)
                        refine lv_iload hx hb dX13_bear_193 (lv_at hl 0 rfl) ?_
                        refine lv_if_ne (tgt := 201) hx hb dX13_bear_195 (by decide) (fun c_700 => absurd c_700 (by decide)) (fun _ => ?_)
                        refine lv_goto (tgt := 276) hx hb dX13_bear_198 (by decide) ?_
                        refine lv_iinc (v := (nI (v5w36 + 1))) (lv' := [(5, .int (nI (v5w36 + 1))), (7, .int 0), (6, .int 0), (4, .ref b11), (0, .ref za), (1, .int k1), (2, .int k2), (3, .int k3)]) hx hb dX13_bear_276 hl (k := 2) rfl (nI_1 v5w36) (by decide) rfl (fun ls hl => ?_)
                        refine lv_goto (tgt := 82) hx hb dX13_bear_279 (by decide) ?_
                        exact ih_34 (v5w36 + 1) zgw36 M_39 H_104 _ _ (by omega) hM_41 (by omega) (by omega) hW hF hV hP hD hS (lv_sub hl [0, 3, 4, 5, 6, 7] rfl)
                      · rw [ec_697]
                        refine lv_if_eq (tgt := 185) hx hb dX13_bear_166 (by decide) (fun c_701 => absurd c_701 (by decide)) (fun _ => ?_)
                        refine lv_aload hx hb dX13_bear_169 (lv_at hl 2 rfl) ?_
                        obtain ⟨v702, hv702, hc702⟩ : ∃ v : Nat, fs14[22]? = some (.ref v : Value) ∧ isk K L v 41 24 := hl14 22 (by decide)
                        refine pg_getN (D := D) (ci := 12) (v := .ref v702) (C := RX12) (T := TX12) (N := 51) hx hb hg inG12 hown hK hP hb_13.1 hM_41 rfl 22 (by decide) (hN.use (Cond.fieldLinkNest RX13 95 RX12 "ended" "[I" RX13) 31 rfl rfl) (fun _ h9 => h9) hv702 dX13_bear_171 ?_
                        refine lv_iload hx hb dX13_bear_174 (lv_at hl 1 rfl) ?_
                        obtain ⟨f703, hM703⟩ := hW.open_41 hc702
                        refine pg_iald hx hb hK hP hc702.1 0 hM703 rfl (inbN v5w36 24 (by omega) (by omega)) dX13_bear_176 ?_
                        refine lv_topi (fun f_704 ef_704 => ?_)
                        refine lv_iconst (v := (-1)) hx hb dX13_bear_177 (by decide) ?_
                        refine lv_icmp_ne (tgt := 185) hx hb dX13_bear_178 (by decide) (fun c_705 => ?_) (fun c_705 => ?_)
                        · have hz := rfl (a := 0)
                          refine lv_iconst (v := 0) hx hb dX13_bear_185 (by decide) ?_
                          refine lv_istore (lv' := [(7, .int 0), (6, .int 0), (5, .int (nI v5w36)), (4, .ref b11), (0, .ref za), (1, .int k1), (2, .int k2), (3, .int k3)]) hx hb dX13_bear_186 hl (by decide) rfl (fun ls hl => ?_)
                          refine lv_iload hx hb dX13_bear_188 (lv_at hl 1 rfl) ?_
                          refine lv_if_ne (tgt := 201) hx hb dX13_bear_190 (by decide) (fun c_706 => absurd c_706 (by decide)) (fun _ => ?_)
                          refine lv_iload hx hb dX13_bear_193 (lv_at hl 0 rfl) ?_
                          refine lv_if_ne (tgt := 201) hx hb dX13_bear_195 (by decide) (fun c_707 => absurd c_707 (by decide)) (fun _ => ?_)
                          refine lv_goto (tgt := 276) hx hb dX13_bear_198 (by decide) ?_
                          refine lv_iinc (v := (nI (v5w36 + 1))) (lv' := [(5, .int (nI (v5w36 + 1))), (7, .int 0), (6, .int 0), (4, .ref b11), (0, .ref za), (1, .int k1), (2, .int k2), (3, .int k3)]) hx hb dX13_bear_276 hl (k := 2) rfl (nI_1 v5w36) (by decide) rfl (fun ls hl => ?_)
                          refine lv_goto (tgt := 82) hx hb dX13_bear_279 (by decide) ?_
                          exact ih_34 (v5w36 + 1) zgw36 M_39 H_104 _ _ (by omega) hM_41 (by omega) (by omega) hW hF hV hP hD hS (lv_sub hl [0, 3, 4, 5, 6, 7] rfl)
                        · have hz := rfl (a := 0)
                          refine lv_iconst (v := 1) hx hb dX13_bear_181 (by decide) ?_
                          refine lv_goto (tgt := 186) hx hb dX13_bear_182 (by decide) ?_
                          refine lv_istore (lv' := [(7, .int 1), (6, .int 0), (5, .int (nI v5w36)), (4, .ref b11), (0, .ref za), (1, .int k1), (2, .int k2), (3, .int k3)]) hx hb dX13_bear_186 hl (by decide) rfl (fun ls hl => ?_)
                          refine lv_iload hx hb dX13_bear_188 (lv_at hl 1 rfl) ?_
                          refine lv_if_ne (tgt := 201) hx hb dX13_bear_190 (by decide) (fun c_708 => absurd c_708 (by decide)) (fun _ => ?_)
                          refine lv_iload hx hb dX13_bear_193 (lv_at hl 0 rfl) ?_
                          refine lv_if_ne (tgt := 201) hx hb dX13_bear_195 (by decide) (fun _ => ?_) (fun c_709 => absurd c_709 (by decide))
                          refine lv_aload_n hx hb dX13_bear_201 rfl (lv_at hl 4 rfl) ?_
                          refine va_get (D := D) (ci := 13) (v := .ref z11) (C := RX13) (T := TX13) (N := 20) hx hb hg inG13 hown hK hP 0 rfl rfl 11 (by decide) (hg _ wd_764) (fun _ h9 => h9) rfl dX13_bear_202 ?_
                          refine lv_aload_n hx hb dX13_bear_205 rfl (lv_at hl 4 rfl) ?_
                          refine va_get (D := D) (ci := 13) (v := .int (nI zgw36)) (C := RX13) (T := TX13) (N := 20) hx hb hg inG13 hown hK hP 0 rfl rfl 16 (by decide) (hg _ wd_769) (fun _ h9 => h9) rfl dX13_bear_206 ?_
                          refine lv_iload hx hb dX13_bear_209 (lv_at hl 2 rfl) ?_
                          obtain ⟨f710, hM710, hf710⟩ := hW.open_32 i11
                          refine pg_iast hx hb hK hP hD hS i11.1 0 hM710 rfl (inbN zgw36 24 (by omega) (by omega)) dX13_bear_211 (fun H_711 locs hP hD hS => ?_)
                          obtain ⟨M_712, eM_712⟩ : ∃ M1 : Hp, M1 = va_up M_39 z11 (.inl (cy 14, 24, .inl (upd f710 ((nI zgw36) : Int32).toNatClampNeg (nI v5w36)))) := ⟨_, rfl⟩
                          have hV : VW K L M M_712 b11 (fx M b11) (ax M b11) := by rw [eM_712]; exact hV.oth hW hb_13 i11 (by decide)
                          have hP : va_P D vwCl ([(za, (b13_0 0 z1 (nI z2) (nI z3) z4 z5 z6 z7 z8 z9 (nI z10) z11 z12 z13 z14 z15 (nI zgw36) z17 z18 z19))] ++ va_pl L M_712) H_711 := by rw [eM_712]; exact hP
                          have hD : va_D A ([(za, (b13_0 0 z1 (nI z2) (nI z3) z4 z5 z6 z7 z8 z9 (nI z10) z11 z12 z13 z14 z15 (nI zgw36) z17 z18 z19))] ++ va_pl L M_712) := by rw [eM_712]; exact hD
                          have hW : WOM cy K L M_712 := by rw [eM_712]; exact hW.up_32 i11 ⟨_, rfl, (updP (P := fun z => ∃ c : Nat, c < 24 ∧ z = nI c) hf710 ⟨v5w36, by omega, rfl⟩)⟩
                          have hF : fr K L [14, 15, 32, 97, 98, 99] M M_712 := by rw [eM_712]; exact hF.up i11 (by decide)
                          have hM_713 : M_712 z11 = .inl (cy 14, 24, .inl (upd f710 ((nI zgw36) : Int32).toNatClampNeg (nI v5w36))) := by rw [eM_712]; exact va_up_self _ _ _
                          have hM_714 : M_712 b11 = .inr (12, fs14) := by rw [eM_712, va_up_ne _ _ (hb_13.neT i11 (by decide))]; exact hM_41
                          have hM_715 : M_712 v688 = .inl (cy 14, 24, .inl (f689)) := by rw [eM_712, va_up_ne _ _ (hc688.neT i11 (by decide))]; exact hM689
                          have hM_716 : M_712 v694 = .inl (cy 16, 24, .inl (f695)) := by rw [eM_712, va_up_ne _ _ (hc694.neT i11 (by decide))]; exact hM695
                          have hM_717 : M_712 v702 = .inl (cy 14, 24, .inl (f703)) := by rw [eM_712, va_up_ne _ _ (hc702.neT i11 (by decide))]; exact hM703
                          have hf_719 : ∀ j, j < 24 → ∃ c : Nat, c < 24 ∧ (upd f710 ((nI zgw36) : Int32).toNatClampNeg (nI v5w36)) j = nI c := (updP (P := fun z => ∃ c : Nat, c < 24 ∧ z = nI c) hf710 ⟨v5w36, by omega, rfl⟩)
                          obtain ⟨f_718, ef_718⟩ : ∃ f : Nat → Int32, f = upd f710 ((nI zgw36) : Int32).toNatClampNeg (nI v5w36) := ⟨_, rfl⟩
                          rw [← ef_718] at hM_713 hf_719
                          refine lv_aload_n hx hb dX13_bear_212 rfl (lv_at hl 4 rfl) ?_
                          refine va_get (D := D) (ci := 13) (v := .ref z12) (C := RX13) (T := TX13) (N := 20) hx hb hg inG13 hown hK hP 0 rfl rfl 12 (by decide) (hg _ wd_763) (fun _ h9 => h9) rfl dX13_bear_213 ?_
                          refine lv_aload_n hx hb dX13_bear_216 rfl (lv_at hl 4 rfl) ?_
                          refine va_get (D := D) (ci := 13) (v := .int (nI zgw36)) (C := RX13) (T := TX13) (N := 20) hx hb hg inG13 hown hK hP 0 rfl rfl 16 (by decide) (hg _ wd_769) (fun _ h9 => h9) rfl dX13_bear_217 ?_
                          refine lv_aload hx hb dX13_bear_220 (lv_at hl 3 rfl) ?_
                          refine lv_iload hx hb dX13_bear_222 (lv_at hl 1 rfl) ?_
                          refine lv_if_eq (tgt := 236) hx hb dX13_bear_224 (by decide) (fun _ => ?_) (fun c_720 => absurd c_720 (by decide))
                          refine lv_aload hx hb dX13_bear_236 (lv_at hl 3 rfl) ?_
                          refine pg_getN (D := D) (ci := 12) (v := .int (nI v15)) (C := RX12) (T := TX12) (N := 51) hx hb hg inG12 hown hK hP hb_13.1 hM_714 rfl 11 (by decide) (hN.use (Cond.fieldLinkNest RX13 142 RX12 "rules" "I" RX13) 20 rfl rfl) (fun _ h9 => h9) hv15 dX13_bear_238 ?_
                          refine lv_iconst (v := 1) hx hb dX13_bear_241 (by decide) ?_
                          refine lv_isub hx hb dX13_bear_242 ?_
                          refine lv_topi (fun f_721 ef_721 => ?_)
                          obtain rfl : f_721 = (nI (v15 - 1)) := ef_721.trans (nI_prd (by omega))
                          refine lv_iconst (v := 3) hx hb dX13_bear_243 (by decide) ?_
                          refine lv_aload hx hb dX13_bear_244 (lv_at hl 3 rfl) ?_
                          obtain ⟨v722, hv722, hc722⟩ : ∃ v : Nat, fs14[20]? = some (.ref v : Value) ∧ isk K L v 31 24 := hl14 20 (by decide)
                          refine pg_getN (D := D) (ci := 12) (v := .ref v722) (C := RX12) (T := TX12) (N := 51) hx hb hg inG12 hown hK hP hb_13.1 hM_714 rfl 20 (by decide) (hN.use (Cond.fieldLinkNest RX13 110 RX12 "where" "[I" RX13) 29 rfl rfl) (fun _ h9 => h9) hv722 dX13_bear_246 ?_
                          refine lv_iload hx hb dX13_bear_249 (lv_at hl 2 rfl) ?_
                          obtain ⟨f723, hM723, hf723⟩ := hW.open_31 hc722
                          have hi_724 : vp_in (nI v5w36) 24 := (inbN v5w36 24 (by omega) (by omega))
                          refine pg_iald hx hb hK hP hc722.1 0 hM723 rfl hi_724 dX13_bear_251 ?_
                          have hp_725 := hf723 _ (vp_lt hi_724)
                          obtain ⟨c_726, hc_727, ec_728⟩ := hp_725
                          rw [ec_728]
                          have hPc : va_P D vwCl ([] ++ va_pl L M_712) H_711 := hP.part (cx := []) [] rfl
                          have hDc : va_D A ([] ++ va_pl L M_712) := hD.part (cx := []) [] (by decide) rfl
                          have hFc : ∀ q, va_A ([] ++ va_pl L M_712) H_711.size q → A q := pg_free hDc hS hA
                          refine va_calli (va_runV (As := [.int (nI (v15 - 1)), .int 3, .int (nI c_726)]) (rest := [.int (nI zgw36), .ref z12]) ⟨hx, hb, hml, hown, hg⟩ (r_X12_term l D cy K L M_712 H_711.size b11 (v15 - 1) 3 c_726  hW hb_13 (by omega) (by omega) hc_727) (cwV 3 hg (gV wd_770 wd_771 wd_772 wd_737 wd_773) rfl rfl rfl (by decide +kernel) ⟨(Nat.le_trans (Nat.le_of_ble_eq_true rfl) hRf), (Nat.le_trans (Nat.le_of_ble_eq_true rfl) hRl)⟩) ⟨PG.blind, pg_recv hK hP hb_13.1 hM_714 rfl, fun U hU hW => ⟨rfl, PG.at hPc hK hDc hN hU hW⟩⟩ rfl rfl hl.1 rfl (lv_room (Nat.le_of_ble_eq_true rfl)) dX13_bear_252 ⟨(Nat.le_trans (Nat.le_of_ble_eq_true rfl) hRc), (Nat.le_trans (Nat.le_of_ble_eq_true rfl) hRs)⟩) hS (fun q _ h => hFc q h) hFc (fun r_730 M_731 t H_729 locs ht hvm hw hB hz1 hk1 hS => ?_)
                          have hp_732 := hw
                          obtain ⟨hP1, hD1⟩ := hB
                          rw [ht] at hP1
                          obtain ⟨hP, hD⟩ := va_joinP (X := [(za, (b13_0 0 z1 (nI z2) (nI z3) z4 z5 z6 z7 z8 z9 (nI z10) z11 z12 z13 z14 z15 (nI zgw36) z17 z18 z19))]) (cx := []) (wr := [(za, (b13_0 0 z1 (nI z2) (nI z3) z4 z5 z6 z7 z8 z9 (nI z10) z11 z12 z13 z14 z15 (nI zgw36) z17 z18 z19))]) (rx := []) (pl := va_pl L M_712) (pl1 := va_pl L M_712) hP hD [] [0] rfl rfl (by decide) (by decide) hk1 hFc hP1 hD1
                          have hP : va_P D vwCl ([(za, (b13_0 0 z1 (nI z2) (nI z3) z4 z5 z6 z7 z8 z9 (nI z10) z11 z12 z13 z14 z15 (nI zgw36) z17 z18 z19))] ++ va_pl L M_712) H_729 := hP
                          have hD : va_D A ([(za, (b13_0 0 z1 (nI z2) (nI z3) z4 z5 z6 z7 z8 z9 (nI z10) z11 z12 z13 z14 z15 (nI zgw36) z17 z18 z19))] ++ va_pl L M_712) := hD
                          obtain ⟨f733, hM733⟩ := hW.open_14 i12
                          refine pg_iast hx hb hK hP hD hS i12.1 0 hM733 rfl (inbN zgw36 24 (by omega) (by omega)) dX13_bear_255 (fun H_734 locs hP hD hS => ?_)
                          obtain ⟨M_735, eM_735⟩ : ∃ M1 : Hp, M1 = va_up M_712 z12 (.inl (cy 14, 24, .inl (upd f733 ((nI zgw36) : Int32).toNatClampNeg r_730))) := ⟨_, rfl⟩
                          have hV : VW K L M M_735 b11 (fx M b11) (ax M b11) := by rw [eM_735]; exact hV.oth hW hb_13 i12 (by decide)
                          have hP : va_P D vwCl ([(za, (b13_0 0 z1 (nI z2) (nI z3) z4 z5 z6 z7 z8 z9 (nI z10) z11 z12 z13 z14 z15 (nI zgw36) z17 z18 z19))] ++ va_pl L M_735) H_734 := by rw [eM_735]; exact hP
                          have hD : va_D A ([(za, (b13_0 0 z1 (nI z2) (nI z3) z4 z5 z6 z7 z8 z9 (nI z10) z11 z12 z13 z14 z15 (nI zgw36) z17 z18 z19))] ++ va_pl L M_735) := by rw [eM_735]; exact hD
                          have hW : WOM cy K L M_735 := by rw [eM_735]; exact hW.up_14 i12 ⟨_, rfl⟩
                          have hF : fr K L [14, 15, 32, 97, 98, 99] M M_735 := by rw [eM_735]; exact hF.up i12 (by decide)
                          have hM_736 : M_735 z12 = .inl (cy 14, 24, .inl (upd f733 ((nI zgw36) : Int32).toNatClampNeg r_730)) := by rw [eM_735]; exact va_up_self _ _ _
                          have hM_737 : M_735 z11 = .inl (cy 14, 24, .inl (f_718)) := by rw [eM_735, va_up_ne _ _ (i11.neT i12 (by decide))]; exact hM_713
                          have hM_738 : M_735 b11 = .inr (12, fs14) := by rw [eM_735, va_up_ne _ _ (hb_13.neT i12 (by decide))]; exact hM_714
                          have hM_739 : M_735 v688 = .inl (cy 14, 24, .inl (f689)) := by rw [eM_735, va_up_ne _ _ (hc688.neT i12 (by decide))]; exact hM_715
                          have hM_740 : M_735 v694 = .inl (cy 16, 24, .inl (f695)) := by rw [eM_735, va_up_ne _ _ (hc694.neT i12 (by decide))]; exact hM_716
                          have hM_741 : M_735 v702 = .inl (cy 14, 24, .inl (f703)) := by rw [eM_735, va_up_ne _ _ (hc702.neT i12 (by decide))]; exact hM_717
                          have hM_742 : M_735 v722 = .inl (cy 14, 24, .inl (f723)) := by rw [eM_735, va_up_ne _ _ (hc722.neT i12 (by decide))]; exact hM723
                          obtain ⟨f_743, ef_743⟩ : ∃ f : Nat → Int32, f = upd f733 ((nI zgw36) : Int32).toNatClampNeg r_730 := ⟨_, rfl⟩
                          rw [← ef_743] at hM_736
                          refine lv_aload_n hx hb dX13_bear_256 rfl (lv_at hl 4 rfl) ?_
                          refine va_get (D := D) (ci := 13) (v := .ref z13) (C := RX13) (T := TX13) (N := 20) hx hb hg inG13 hown hK hP 0 rfl rfl 13 (by decide) (hg _ wd_789) (fun _ h9 => h9) rfl dX13_bear_257 ?_
                          refine lv_aload_n hx hb dX13_bear_260 rfl (lv_at hl 4 rfl) ?_
                          refine va_get (D := D) (ci := 13) (v := .int (nI zgw36)) (C := RX13) (T := TX13) (N := 20) hx hb hg inG13 hown hK hP 0 rfl rfl 16 (by decide) (hg _ wd_769) (fun _ h9 => h9) rfl dX13_bear_261 ?_
                          refine lv_lconst (v := 0) hx hb dX13_bear_264 (by decide) ?_
                          obtain ⟨f744, hM744⟩ := hW.open_97 i13
                          refine pg_last hx hb hK hP hD hS i13.1 1 hM744 rfl (inbN zgw36 24 (by omega) (by omega)) dX13_bear_265 (fun H_745 locs hP hD hS => ?_)
                          obtain ⟨M_746, eM_746⟩ : ∃ M1 : Hp, M1 = va_up M_735 z13 (.inl (cy 15, 24, .inr (.inl (vp_updL f744 ((nI zgw36) : Int32).toNatClampNeg 0)))) := ⟨_, rfl⟩
                          have hV : VW K L M M_746 b11 (fx M b11) (ax M b11) := by rw [eM_746]; exact hV.oth hW hb_13 i13 (by decide)
                          have hP : va_P D vwCl ([(za, (b13_0 0 z1 (nI z2) (nI z3) z4 z5 z6 z7 z8 z9 (nI z10) z11 z12 z13 z14 z15 (nI zgw36) z17 z18 z19))] ++ va_pl L M_746) H_745 := by rw [eM_746]; exact hP
                          have hD : va_D A ([(za, (b13_0 0 z1 (nI z2) (nI z3) z4 z5 z6 z7 z8 z9 (nI z10) z11 z12 z13 z14 z15 (nI zgw36) z17 z18 z19))] ++ va_pl L M_746) := by rw [eM_746]; exact hD
                          have hW : WOM cy K L M_746 := by rw [eM_746]; exact hW.up_97 i13 ⟨_, rfl⟩
                          have hF : fr K L [14, 15, 32, 97, 98, 99] M M_746 := by rw [eM_746]; exact hF.up i13 (by decide)
                          have hM_747 : M_746 z13 = .inl (cy 15, 24, .inr (.inl (vp_updL f744 ((nI zgw36) : Int32).toNatClampNeg 0))) := by rw [eM_746]; exact va_up_self _ _ _
                          have hM_748 : M_746 z12 = .inl (cy 14, 24, .inl (f_743)) := by rw [eM_746, va_up_ne _ _ (i12.neT i13 (by decide))]; exact hM_736
                          have hM_749 : M_746 z11 = .inl (cy 14, 24, .inl (f_718)) := by rw [eM_746, va_up_ne _ _ (i11.neT i13 (by decide))]; exact hM_737
                          have hM_750 : M_746 b11 = .inr (12, fs14) := by rw [eM_746, va_up_ne _ _ (hb_13.neT i13 (by decide))]; exact hM_738
                          have hM_751 : M_746 v688 = .inl (cy 14, 24, .inl (f689)) := by rw [eM_746, va_up_ne _ _ (hc688.neT i13 (by decide))]; exact hM_739
                          have hM_752 : M_746 v694 = .inl (cy 16, 24, .inl (f695)) := by rw [eM_746, va_up_ne _ _ (hc694.neT i13 (by decide))]; exact hM_740
                          have hM_753 : M_746 v702 = .inl (cy 14, 24, .inl (f703)) := by rw [eM_746, va_up_ne _ _ (hc702.neT i13 (by decide))]; exact hM_741
                          have hM_754 : M_746 v722 = .inl (cy 14, 24, .inl (f723)) := by rw [eM_746, va_up_ne _ _ (hc722.neT i13 (by decide))]; exact hM_742
                          obtain ⟨f_755, ef_755⟩ : ∃ f : Nat → Int64, f = vp_updL f744 ((nI zgw36) : Int32).toNatClampNeg 0 := ⟨_, rfl⟩
                          rw [← ef_755] at hM_747
                          refine lv_aload_n hx hb dX13_bear_266 rfl (lv_at hl 4 rfl) ?_
                          refine lv_dup hx hb dX13_bear_267 rfl ?_
                          refine va_get (D := D) (ci := 13) (v := .int (nI zgw36)) (C := RX13) (T := TX13) (N := 20) hx hb hg inG13 hown hK hP 0 rfl rfl 16 (by decide) (hg _ wd_769) (fun _ h9 => h9) rfl dX13_bear_268 ?_
                          refine lv_iconst (v := 1) hx hb dX13_bear_271 (by decide) ?_
                          refine lv_iadd hx hb dX13_bear_272 ?_
                          refine lv_topi (fun f_756 ef_756 => ?_)
                          obtain rfl : f_756 = (nI (zgw36 + 1)) := ef_756.trans (nI_add zgw36 1)
                          refine va_put (D := D) (ci := 13) (v := .int (nI (zgw36 + 1))) (ty := .int) (C := RX13) (T := TX13) (N := 20) hx hb hg inG13 tyX13 tyX13_ok nmX13 hown hK hP hD hS 0 rfl rfl 16 (by decide) (hg _ wd_769) (fun _ h9 => h9) rfl (by decide +kernel) rfl rfl (Nat.le_of_ble_eq_true rfl) dX13_bear_273 (fun H_757 locs hP hD hS => ?_)
                          have hP : va_P D vwCl ([(za, (b13_0 0 z1 (nI z2) (nI z3) z4 z5 z6 z7 z8 z9 (nI z10) z11 z12 z13 z14 z15 (nI (zgw36 + 1)) z17 z18 z19))] ++ va_pl L M_746) H_757 := hP
                          have hD : va_D A ([(za, (b13_0 0 z1 (nI z2) (nI z3) z4 z5 z6 z7 z8 z9 (nI z10) z11 z12 z13 z14 z15 (nI (zgw36 + 1)) z17 z18 z19))] ++ va_pl L M_746) := hD
                          refine lv_iinc (v := (nI (v5w36 + 1))) (lv' := [(5, .int (nI (v5w36 + 1))), (7, .int 1), (6, .int 0), (4, .ref b11), (0, .ref za), (1, .int k1), (2, .int k2), (3, .int k3)]) hx hb dX13_bear_276 hl (k := 2) rfl (nI_1 v5w36) (by decide) rfl (fun ls hl => ?_)
                          refine lv_goto (tgt := 82) hx hb dX13_bear_279 (by decide) ?_
                          exact ih_34 (v5w36 + 1) (zgw36 + 1) M_746 H_757 _ _ (by omega) hM_750 (by omega) (by omega) hW hF hV hP hD hS (lv_sub hl [0, 3, 4, 5, 6, 7] rfl)
            exact key_33 (24 - 0 + 1) 0 0 M H_32 _ _ (by omega) hM14 (by omega) (by omega) hW hF hV hP hD hS (lv_sub hl [0, 1, 2, 3, 4, 5] rfl)
          · have hz := rfl (a := 0)
            refine lv_aload_n hx hb dX13_bear_68 rfl (lv_at hl 1 rfl) ?_
            refine lv_iconst (v := 3) hx hb dX13_bear_69 (by decide) ?_
            have hPc := hP.sub (ws' := [(za, (b13_0 0 z1 (nI z2) (nI z3) z4 z5 z6 z7 z8 z9 (nI z10) z11 z12 z13 z14 z15 (nI z16) z17 z18 z19))]) [0] rfl
            have hDc := hD.sub (ws' := [(za, (b13_0 0 z1 (nI z2) (nI z3) z4 z5 z6 z7 z8 z9 (nI z10) z11 z12 z13 z14 z15 (nI z16) z17 z18 z19))]) [0] (by decide) rfl
            have hKc := hK.sub (tys' := []) [] rfl
            have hFc := va_free (wc := [(za, (b13_0 0 z1 (nI z2) (nI z3) z4 z5 z6 z7 z8 z9 (nI z10) z11 z12 z13 z14 z15 (nI z16) z17 z18 z19))]) hD hS hA [0] rfl
            refine va_calli (va_runV (As := [.int 3]) (rest := []) ⟨hx, hb, hml, hown, hg⟩ (m_refused l D H_18.size za 0 z1 (nI z2) (nI z3) z4 z5 z6 z7 z8 z9 (nI z10) z11 z12 z13 z14 z15 (nI z16) z17 z18 z19 3) (cwV 1 hg (gV wd_725 wd_726 wd_727 wd_717 wd_728) rfl rfl rfl (by decide +kernel) ⟨(Nat.le_trans (Nat.le_of_ble_eq_true rfl) hRf), (Nat.le_trans (Nat.le_of_ble_eq_true rfl) hRl)⟩) ⟨Pr.blind, va_recv hK hP (ci := 13) (q0 := 0) rfl rfl, fun U hU hW => ⟨rfl, Pr.at hPc hKc hDc hN hU hW⟩⟩ rfl rfl hl.1 rfl (lv_room (Nat.le_of_ble_eq_true rfl)) dX13_bear_70 ⟨(Nat.le_trans (Nat.le_of_ble_eq_true rfl) hRc), (Nat.le_trans (Nat.le_of_ble_eq_true rfl) hRs)⟩) hS (fun q _ h => hFc q h) hFc (fun r_759 M_760 t H_758 locs ht hvm hw hB hz1 hk1 hS => ?_)
            have hp_761 := hw
            obtain ⟨hP1, hK1, hD1⟩ := hB
            rw [ht] at hP1
            obtain ⟨hP, hD⟩ := va_joinQ (X := [(za, (b13_0 0 z1 (nI z2) (nI z3) z4 z5 z6 z7 z8 z9 (nI z10) z11 z12 z13 z14 z15 (nI z16) z17 z18 z19))]) (cx := [(za, (b13_0 0 z1 (nI z2) (nI z3) z4 z5 z6 z7 z8 z9 (nI z10) z11 z12 z13 z14 z15 (nI z16) z17 z18 z19))]) (wr := []) (w1 := [(za, (b13_0 0 z1 (nI z2) (nI z3) 3 (-1) z6 z7 z8 z9 (nI z10) z11 z12 z13 z14 z15 (nI z16) z17 z18 z19))]) (pl := va_pl L M) hP hD [0] [] rfl rfl (by decide) (by decide) hk1 hFc hP1 hD1
            have hP : va_P D vwCl ([(za, (b13_0 0 z1 (nI z2) (nI z3) 3 (-1) z6 z7 z8 z9 (nI z10) z11 z12 z13 z14 z15 (nI z16) z17 z18 z19))] ++ va_pl L M) H_758 := hP
            have hD : va_D A ([(za, (b13_0 0 z1 (nI z2) (nI z3) 3 (-1) z6 z7 z8 z9 (nI z10) z11 z12 z13 z14 z15 (nI z16) z17 z18 z19))] ++ va_pl L M) := hD
            have hq := Eq.symm hp_761
            subst hq
            rw [hQ]
            exact W.iret (v := (-1)) hx hb hr (fun t ht hW9 => ⟨⟨(-1), M, rfl, ⟨hW, hF, hGI, trivial⟩, ⟨3, z16, z18, (by omega), by rw [ht]; exact hP, hD⟩⟩, hS.F ht⟩) hS.2.2 dX13_bear_73
      · have hz := rfl (a := 0)
        refine lv_if_ne (tgt := 44) hx hb dX13_bear_35 (by decide) (fun c_762 => absurd c_762 (by decide)) (fun _ => ?_)
        refine lv_aload_n hx hb dX13_bear_38 rfl (lv_at hl 0 rfl) ?_
        refine lv_iconst (v := 2) hx hb dX13_bear_39 (by decide) ?_
        have hPc := hP.sub (ws' := [(za, (b13_0 0 z1 (nI z2) (nI z3) z4 z5 z6 z7 z8 z9 (nI z10) z11 z12 z13 z14 z15 (nI z16) z17 z18 z19))]) [0] rfl
        have hDc := hD.sub (ws' := [(za, (b13_0 0 z1 (nI z2) (nI z3) z4 z5 z6 z7 z8 z9 (nI z10) z11 z12 z13 z14 z15 (nI z16) z17 z18 z19))]) [0] (by decide) rfl
        have hKc := hK.sub (tys' := []) [] rfl
        have hFc := va_free (wc := [(za, (b13_0 0 z1 (nI z2) (nI z3) z4 z5 z6 z7 z8 z9 (nI z10) z11 z12 z13 z14 z15 (nI z16) z17 z18 z19))]) hD hS hA [0] rfl
        refine va_calli (va_runV (As := [.int 2]) (rest := []) ⟨hx, hb, hml, hown, hg⟩ (m_refused l D H_18.size za 0 z1 (nI z2) (nI z3) z4 z5 z6 z7 z8 z9 (nI z10) z11 z12 z13 z14 z15 (nI z16) z17 z18 z19 2) (cwV 1 hg (gV wd_725 wd_726 wd_727 wd_717 wd_728) rfl rfl rfl (by decide +kernel) ⟨(Nat.le_trans (Nat.le_of_ble_eq_true rfl) hRf), (Nat.le_trans (Nat.le_of_ble_eq_true rfl) hRl)⟩) ⟨Pr.blind, va_recv hK hP (ci := 13) (q0 := 0) rfl rfl, fun U hU hW => ⟨rfl, Pr.at hPc hKc hDc hN hU hW⟩⟩ rfl rfl hl.1 rfl (lv_room (Nat.le_of_ble_eq_true rfl)) dX13_bear_40 ⟨(Nat.le_trans (Nat.le_of_ble_eq_true rfl) hRc), (Nat.le_trans (Nat.le_of_ble_eq_true rfl) hRs)⟩) hS (fun q _ h => hFc q h) hFc (fun r_764 M_765 t H_763 locs ht hvm hw hB hz1 hk1 hS => ?_)
        have hp_766 := hw
        obtain ⟨hP1, hK1, hD1⟩ := hB
        rw [ht] at hP1
        obtain ⟨hP, hD⟩ := va_joinQ (X := [(za, (b13_0 0 z1 (nI z2) (nI z3) z4 z5 z6 z7 z8 z9 (nI z10) z11 z12 z13 z14 z15 (nI z16) z17 z18 z19))]) (cx := [(za, (b13_0 0 z1 (nI z2) (nI z3) z4 z5 z6 z7 z8 z9 (nI z10) z11 z12 z13 z14 z15 (nI z16) z17 z18 z19))]) (wr := []) (w1 := [(za, (b13_0 0 z1 (nI z2) (nI z3) 2 (-1) z6 z7 z8 z9 (nI z10) z11 z12 z13 z14 z15 (nI z16) z17 z18 z19))]) (pl := va_pl L M) hP hD [0] [] rfl rfl (by decide) (by decide) hk1 hFc hP1 hD1
        have hP : va_P D vwCl ([(za, (b13_0 0 z1 (nI z2) (nI z3) 2 (-1) z6 z7 z8 z9 (nI z10) z11 z12 z13 z14 z15 (nI z16) z17 z18 z19))] ++ va_pl L M) H_763 := hP
        have hD : va_D A ([(za, (b13_0 0 z1 (nI z2) (nI z3) 2 (-1) z6 z7 z8 z9 (nI z10) z11 z12 z13 z14 z15 (nI z16) z17 z18 z19))] ++ va_pl L M) := hD
        have hq := Eq.symm hp_766
        subst hq
        rw [hQ]
        exact W.iret (v := (-1)) hx hb hr (fun t ht hW9 => ⟨⟨(-1), M, rfl, ⟨hW, hF, hGI, trivial⟩, ⟨2, z16, z18, (by omega), by rw [ht]; exact hP, hD⟩⟩, hS.F ht⟩) hS.2.2 dX13_bear_43
    · have hz := rfl (a := 0)
      have n_767 : v15 = 0 := (iEQ (a := v15) (b := 0) (by omega) (by omega)).mp c_16
      refine lv_aload_n hx hb dX13_bear_25 rfl (lv_at hl 0 rfl) ?_
      refine lv_iconst (v := 1) hx hb dX13_bear_26 (by decide) ?_
      have hPc := hP.sub (ws' := [(za, (b13_0 0 z1 (nI z2) (nI z3) z4 z5 z6 z7 z8 z9 (nI z10) z11 z12 z13 z14 z15 (nI z16) z17 z18 z19))]) [0] rfl
      have hDc := hD.sub (ws' := [(za, (b13_0 0 z1 (nI z2) (nI z3) z4 z5 z6 z7 z8 z9 (nI z10) z11 z12 z13 z14 z15 (nI z16) z17 z18 z19))]) [0] (by decide) rfl
      have hKc := hK.sub (tys' := []) [] rfl
      have hFc := va_free (wc := [(za, (b13_0 0 z1 (nI z2) (nI z3) z4 z5 z6 z7 z8 z9 (nI z10) z11 z12 z13 z14 z15 (nI z16) z17 z18 z19))]) hD hS hA [0] rfl
      refine va_calli (va_runV (As := [.int 1]) (rest := []) ⟨hx, hb, hml, hown, hg⟩ (m_refused l D H_2.size za 0 z1 (nI z2) (nI z3) z4 z5 z6 z7 z8 z9 (nI z10) z11 z12 z13 z14 z15 (nI z16) z17 z18 z19 1) (cwV 1 hg (gV wd_725 wd_726 wd_727 wd_717 wd_728) rfl rfl rfl (by decide +kernel) ⟨(Nat.le_trans (Nat.le_of_ble_eq_true rfl) hRf), (Nat.le_trans (Nat.le_of_ble_eq_true rfl) hRl)⟩) ⟨Pr.blind, va_recv hK hP (ci := 13) (q0 := 0) rfl rfl, fun U hU hW => ⟨rfl, Pr.at hPc hKc hDc hN hU hW⟩⟩ rfl rfl hl.1 rfl (lv_room (Nat.le_of_ble_eq_true rfl)) dX13_bear_27 ⟨(Nat.le_trans (Nat.le_of_ble_eq_true rfl) hRc), (Nat.le_trans (Nat.le_of_ble_eq_true rfl) hRs)⟩) hS (fun q _ h => hFc q h) hFc (fun r_769 M_770 t H_768 locs ht hvm hw hB hz1 hk1 hS => ?_)
      have hp_771 := hw
      obtain ⟨hP1, hK1, hD1⟩ := hB
      rw [ht] at hP1
      obtain ⟨hP, hD⟩ := va_joinQ (X := [(za, (b13_0 0 z1 (nI z2) (nI z3) z4 z5 z6 z7 z8 z9 (nI z10) z11 z12 z13 z14 z15 (nI z16) z17 z18 z19))]) (cx := [(za, (b13_0 0 z1 (nI z2) (nI z3) z4 z5 z6 z7 z8 z9 (nI z10) z11 z12 z13 z14 z15 (nI z16) z17 z18 z19))]) (wr := []) (w1 := [(za, (b13_0 0 z1 (nI z2) (nI z3) 1 (-1) z6 z7 z8 z9 (nI z10) z11 z12 z13 z14 z15 (nI z16) z17 z18 z19))]) (pl := va_pl L M) hP hD [0] [] rfl rfl (by decide) (by decide) hk1 hFc hP1 hD1
      have hP : va_P D vwCl ([(za, (b13_0 0 z1 (nI z2) (nI z3) 1 (-1) z6 z7 z8 z9 (nI z10) z11 z12 z13 z14 z15 (nI z16) z17 z18 z19))] ++ va_pl L M) H_768 := hP
      have hD : va_D A ([(za, (b13_0 0 z1 (nI z2) (nI z3) 1 (-1) z6 z7 z8 z9 (nI z10) z11 z12 z13 z14 z15 (nI z16) z17 z18 z19))] ++ va_pl L M) := hD
      have hq := Eq.symm hp_771
      subst hq
      rw [hQ]
      exact W.iret (v := (-1)) hx hb hr (fun t ht hW9 => ⟨⟨(-1), M, rfl, ⟨hW, hF, hGI, trivial⟩, ⟨1, z16, z18, (by omega), by rw [ht]; exact hP, hD⟩⟩, hS.F ht⟩) hS.2.2 dX13_bear_30
  · have hz := rfl (a := 0)
    refine lv_if_eq (tgt := 25) hx hb dX13_bear_10 (by decide) (fun _ => ?_) (fun c_772 => absurd c_772 (by decide))
    refine lv_aload_n hx hb dX13_bear_25 rfl (lv_at hl 0 rfl) ?_
    refine lv_iconst (v := 1) hx hb dX13_bear_26 (by decide) ?_
    have hPc := hP.sub (ws' := [(za, (b13_0 0 z1 (nI z2) (nI z3) z4 z5 z6 z7 z8 z9 (nI z10) z11 z12 z13 z14 z15 (nI z16) z17 z18 z19))]) [0] rfl
    have hDc := hD.sub (ws' := [(za, (b13_0 0 z1 (nI z2) (nI z3) z4 z5 z6 z7 z8 z9 (nI z10) z11 z12 z13 z14 z15 (nI z16) z17 z18 z19))]) [0] (by decide) rfl
    have hKc := hK.sub (tys' := []) [] rfl
    have hFc := va_free (wc := [(za, (b13_0 0 z1 (nI z2) (nI z3) z4 z5 z6 z7 z8 z9 (nI z10) z11 z12 z13 z14 z15 (nI z16) z17 z18 z19))]) hD hS hA [0] rfl
    refine va_calli (va_runV (As := [.int 1]) (rest := []) ⟨hx, hb, hml, hown, hg⟩ (m_refused l D H_2.size za 0 z1 (nI z2) (nI z3) z4 z5 z6 z7 z8 z9 (nI z10) z11 z12 z13 z14 z15 (nI z16) z17 z18 z19 1) (cwV 1 hg (gV wd_725 wd_726 wd_727 wd_717 wd_728) rfl rfl rfl (by decide +kernel) ⟨(Nat.le_trans (Nat.le_of_ble_eq_true rfl) hRf), (Nat.le_trans (Nat.le_of_ble_eq_true rfl) hRl)⟩) ⟨Pr.blind, va_recv hK hP (ci := 13) (q0 := 0) rfl rfl, fun U hU hW => ⟨rfl, Pr.at hPc hKc hDc hN hU hW⟩⟩ rfl rfl hl.1 rfl (lv_room (Nat.le_of_ble_eq_true rfl)) dX13_bear_27 ⟨(Nat.le_trans (Nat.le_of_ble_eq_true rfl) hRc), (Nat.le_trans (Nat.le_of_ble_eq_true rfl) hRs)⟩) hS (fun q _ h => hFc q h) hFc (fun r_774 M_775 t H_773 locs ht hvm hw hB hz1 hk1 hS => ?_)
    have hp_776 := hw
    obtain ⟨hP1, hK1, hD1⟩ := hB
    rw [ht] at hP1
    obtain ⟨hP, hD⟩ := va_joinQ (X := [(za, (b13_0 0 z1 (nI z2) (nI z3) z4 z5 z6 z7 z8 z9 (nI z10) z11 z12 z13 z14 z15 (nI z16) z17 z18 z19))]) (cx := [(za, (b13_0 0 z1 (nI z2) (nI z3) z4 z5 z6 z7 z8 z9 (nI z10) z11 z12 z13 z14 z15 (nI z16) z17 z18 z19))]) (wr := []) (w1 := [(za, (b13_0 0 z1 (nI z2) (nI z3) 1 (-1) z6 z7 z8 z9 (nI z10) z11 z12 z13 z14 z15 (nI z16) z17 z18 z19))]) (pl := va_pl L M) hP hD [0] [] rfl rfl (by decide) (by decide) hk1 hFc hP1 hD1
    have hP : va_P D vwCl ([(za, (b13_0 0 z1 (nI z2) (nI z3) 1 (-1) z6 z7 z8 z9 (nI z10) z11 z12 z13 z14 z15 (nI z16) z17 z18 z19))] ++ va_pl L M) H_773 := hP
    have hD : va_D A ([(za, (b13_0 0 z1 (nI z2) (nI z3) 1 (-1) z6 z7 z8 z9 (nI z10) z11 z12 z13 z14 z15 (nI z16) z17 z18 z19))] ++ va_pl L M) := hD
    have hq := Eq.symm hp_776
    subst hq
    rw [hQ]
    exact W.iret (v := (-1)) hx hb hr (fun t ht hW9 => ⟨⟨(-1), M, rfl, ⟨hW, hF, hGI, trivial⟩, ⟨1, z16, z18, (by omega), by rw [ht]; exact hP, hD⟩⟩, hS.F ht⟩) hS.2.2 dX13_bear_30
